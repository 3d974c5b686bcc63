/-! agreed -/
theorem hB_self {h : zH} {dv : Int} {T : Int → Int → Int} {ex pu : Int → Int} (b1 : h 29 = some (oBal dv)) (b2 : h 31 = some (aJ 8 (T 0))) (b3 : h 32 = some (aJ 8 (T 1))) (b4 : h 33 = some (aJ 8 (T 2))) (b5 : h 34 = some (aJ 8 (T 3))) (b6 : h 35 = some (aJ 4 ex)) (b7 : h 36 = some (aJ 8 pu)) : hB h dv T ex pu = h := by
  unfold hB
  rw [zup_self b2, zup_self b3, zup_self b4, zup_self b5, zup_self b6, zup_self b7, zup_self b1]
theorem hB_hi {h : zH} {dv : Int} {T : Int → Int → Int} {ex pu : Int → Int} {j : Nat} (hj : 36 < j) : hB h dv T ex pu j = h j := by
  unfold hB
  rw [zup_n (by omega), zup_n (by omega), zup_n (by omega), zup_n (by omega), zup_n (by omega), zup_n (by omega), zup_n (by omega)]
theorem sumD_0 {f : Int → Int} {lim : Int} {F : Int → Int} (hl : 0 ≤ lim) : ∀ k : Nat, cnD f lim k = 0 → sumD f lim F k = 0
  | 0, _ => rfl
  | k + 1, h => by
    have h : cnD f lim k + ind (cnD f lim k < lim ∧ 0 ≤ f k) = 0 := h
    have h1 := (cnD_R f hl k).1
    have h2 := ind_R (cnD f lim k < lim ∧ 0 ≤ f k)
    show sumD f lim F k + ind (cnD f lim k < lim ∧ 0 ≤ f k) * F k = 0
    rw [sumD_0 hl k (by omega), show ind (cnD f lim k < lim ∧ 0 ≤ f k) = 0 by omega, Int.zero_mul]; rfl
theorem lmS_R {s rk gr : Int → Int} {r : Int} : 0 ≤ lmS s rk gr r ∧ lmS s rk gr r ≤ 14 := by unfold lmS; split <;> omega
theorem dbtS_R {s rk gr : Int → Int} {r : Int} (hf : flowS s rk gr r ≠ -1) : 1 ≤ dbtS s rk gr r ∧ dbtS s rk gr r ≤ 14 := by
  unfold flowS at hf
  by_cases q : (rk r = 1 ∧ yOS s rk gr r) ∧ yVS s rk gr r ≤ 100000
  · unfold dbtS
    by_cases z : wpP s rk gr r
    · rw [if_pos z]; omega
    · rw [if_neg z]
      have hc := cnD_R (dyS s r) (lmS_R (s := s) (rk := rk) (gr := gr) (r := r)).1 84
      have hl := (lmS_R (s := s) (rk := rk) (gr := gr) (r := r)).2
      have hb : fitS s rk gr r 0 ≠ -1 := q.1.2.resolve_left z
      have ht := fs4_t (c := fun g => 0 < QS s rk gr (dyS s r) (lmS s rk gr r) (-1) g ∧ ahZ (PS s rk gr (dyS s r) (lmS s rk gr r) (-1)) (QS s rk gr (dyS s r) (lmS s rk gr r) (-1)) g = 0) hb
      have h0 : cnD (dyS s r) (lmS s rk gr r) 84 ≠ 0 := fun e => by
        have h1 := ht.1
        unfold QS at h1
        rw [sumD_0 lmS_R.1 84 e, Int.mul_zero] at h1
        omega
      omega
  · rw [if_neg q] at hf
    exact absurd rfl hf
theorem lpZ_congr {fl fl2 rs rg db db2 : Int → Int} (h : ∀ r : Int, 0 ≤ r → r < 16 → fl r = fl2 r ∧ db r = db2 r) : lpZ fl rs rg db 16 = lpZ fl2 rs rg db2 16 := by
  funext c j
  unfold lpZ
  rw [sumZ_congr (f := fun r => if fl r = -1 then 0 else arZ (rs r) (rg r) (db r) c j) (g := fun r => if fl2 r = -1 then 0 else arZ (rs r) (rg r) (db2 r) c j) 16 (fun r a b => by rw [(h r a (by omega)).1, (h r a (by omega)).2])]
section OFF
variable {G : zG} {n : Nat} {h : zH} {Post : Option Value → Nat → zH → Prop} {now len num : Int} {tb rk rs rg gr bt bc bk be bn ap pl : Int → Int} {N : Nat}
theorem k_X7_agreed {PX : zH → Prop} {r t w : Int} (hG : (zgl G).stackTraces = false) (hK : oK h now len tb rk rs rg gr num N bt bc bk be bn ap pl) (hr : iR r) (ht : iR t) (hw : iR w) (k1 : ((((0 ≤ r ∧ r < 16) ∧ rk r = 1) ∧ 0 ≤ t) ∧ (w = 0 ∨ w = 1)) → flowS (SA ap bc pl bt N t) rk gr r ≠ -1 → ∀ h', oK h' now len tb rk rs rg gr num N bt bc bk be bn ap pl → (∀ j, 37 < j → h' j = h j) → Post (some (vl (if w = 0 then rdU (agT (flowS (SA ap bc pl bt N t) rk gr) rs rg (dbtS (SA ap bc pl bt N t) rk gr) r) (agD (flowS (SA ap bc pl bt N t) rk gr) rs rg (dbtS (SA ap bc pl bt N t) rk gr)) else rdL (agT (flowS (SA ap bc pl bt N t) rk gr) rs rg (dbtS (SA ap bc pl bt N t) rk gr) r) (agD (flowS (SA ap bc pl bt N t) rk gr) rs rg (dbtS (SA ap bc pl bt N t) rk gr))))) n h') (kx : ¬ (((((0 ≤ r ∧ r < 16) ∧ rk r = 1) ∧ 0 ≤ t) ∧ (w = 0 ∨ w = 1)) ∧ flowS (SA ap bc pl bt N t) rk gr r ≠ -1) → ∀ h', oK h' now len tb rk rs rg gr num N bt bc bk be bn ap pl → (∀ j, 37 < j → h' j = h j) → PX h') : zMX G mX7_agreed [.ref 0, vi r, vi t, vi w] n h Post PX := by
  have hK' := hK
  obtain ⟨⟨g0, g1, g2, g3, g4, g5, g6, g7, g8, g9, g10, g11, g12, g13, g14⟩, ⟨i1, i2, i3, i4, i5, i6, i7, i8, i9, i10⟩, ⟨g16, ssz0, fnd0, tm0, wk0, mo0, to0, po0, wp0, sd0, sc0, pr0, sq0, fl0, db0, yu0, yl0, ⟨g15, -⟩, -⟩, ⟨g30, ⟨dv0, T0, ex0, pu0, b1, b2, b3, b4, b5, b6, b7⟩, u0, l0, g37⟩⟩ := hK'
  have hs50 : ∀ p, SA ap bc pl bt N t p ≤ 50 := fun p => (stO_R (hK.stO (t := t)) p).2
  have go : ((((0 ≤ r ∧ r < 16) ∧ rk r = 1) ∧ 0 ≤ t) ∧ (w = 0 ∨ w = 1)) → zAW G mX7_agreed zXT (zFx G mX7_agreed Post PX) 26 [some (.ref 0), some (vi r), some (vi t), some (vi w)] [] n h 0 0 := fun q => by
    refine zr_aload_n (pc := 26)  (i := 0) rfl rfl dX7_agreed_26 ?_
    refine zr_get (pc := 27)  fl_X7_35 (by first | assumption | rfl | (repeat (first | assumption | exact zup_s | refine zup_g (by decide) ?_))) rfl dX7_agreed_27 ?_
    refine zr_iload_n (pc := 30)  (i := 2) rfl rfl dX7_agreed_30 ?_
    refine zv_call1 (pc := 31)  cv_X7_agreed_104 (by first | assumption | rfl | (repeat (first | assumption | exact zup_s | refine zup_g (by decide) ?_))) ⟨_, rfl, rfl⟩ (Nat.le_of_ble_eq_true rfl) (by decide) dX7_agreed_31 ?_
    refine k_look hK ht (by omega) (fun ssz fnd wk mo to po wp sd sc pr sq fl db yu yl hv hf hfl => ?_)
    dsimp only [Option.toList, List.cons_append, List.nil_append]
    refine zr_aload_n (pc := 34)  (i := 0) rfl rfl dX7_agreed_34 ?_
    refine zr_get (pc := 35)  fl_X7_35 (by first | assumption | rfl | (repeat (first | assumption | exact zup_s | refine zup_g (by decide) ?_))) rfl dX7_agreed_35 ?_
    refine zv_call0 (pc := 38)  cv_X7_agreed_155 (by first | assumption | rfl | (repeat (first | assumption | exact zup_s | refine zup_g (by decide) ?_))) ⟨_, rfl, rfl⟩ (Nat.le_of_ble_eq_true rfl) (by decide) dX7_agreed_38 ?_
    refine k_X6_findFlows g37 g3 g4 g16 (hK.stO (t := t)) i4 hv ht hf hfl (fun ssz sd sc pr sq fl db yu yl hfl => ?_)
    dsimp only [Option.toList, List.cons_append, List.nil_append]
    have hVK := hK.view (ssz := ssz) (fnd := 1) (tm := t) (wk := wk) (mo := mo) (to := to) (po := po) (wp := wp) (sd := sd) (sc := sc) (pr := pr) (sq := sq) (fl := fl) (db := db) (yu := yu) (yl := yl) (vwI.mk' ht hv (Or.inr rfl) (fun _ => hfl))
    have hfr : ∀ r : Int, 0 ≤ r → r < 16 → fl r = flowS (SA ap bc pl bt N t) rk gr r ∧ db r = dbtS (SA ap bc pl bt N t) rk gr r := fun r a b => ⟨(hfl r a b).1.trans (fl_of hv ⟨a, b⟩).1, (hfl r a b).2.trans (fl_of hv ⟨a, b⟩).2⟩
    have hR : ∀ i, 0 ≤ i → i < 16 → -1 ≤ flowS (SA ap bc pl bt N t) rk gr i ∧ flowS (SA ap bc pl bt N t) rk gr i ≤ 100000 := fun i _ _ => flowS_R hs50
    have hne : ∀ i, 0 ≤ i → i < 16 → flowS (SA ap bc pl bt N t) rk gr i ≠ -1 → rs i ≠ rg i := fun i a b c => i8 i (by
      unfold flowS at c
      by_cases z : (rk i = 1 ∧ yOS (SA ap bc pl bt N t) rk gr i) ∧ yVS (SA ap bc pl bt N t) rk gr i ≤ 100000
      · exact z.1.1
      · rw [if_neg z] at c; exact absurd rfl c)
    have hd : ∀ i, 0 ≤ i → i < 16 → flowS (SA ap bc pl bt N t) rk gr i ≠ -1 → 1 ≤ dbtS (SA ap bc pl bt N t) rk gr i ∧ dbtS (SA ap bc pl bt N t) rk gr i ≤ 14 := fun i _ _ c => dbtS_R c
    have hdR : ∀ i, 0 ≤ i → i < 16 → iR (db i) := fun i a b => by
      rw [(hfr i a b).2]
      unfold dbtS
      have hc := cnD_R (dyS (SA ap bc pl bt N t) i) (lmS_R (s := SA ap bc pl bt N t) (rk := rk) (gr := gr) (r := i)).1 84
      have hl := (lmS_R (s := SA ap bc pl bt N t) (rk := rk) (gr := gr) (r := i)).2
      split
      · exact ⟨by omega, by omega⟩
      · exact ⟨by omega, by omega⟩
    have hlp := lpZ_congr (rs := rs) (rg := rg) hfr
    have hex : ∀ c, exZ fl rs rg c 16 = exZ (flowS (SA ap bc pl bt N t) rk gr) rs rg c 16 := fun c => exZ_congr (fun r a b => (hfr r a b).1)
    have hAR := ag_R (rs := rs) (rg := rg) hR hne hd
    have er := hfr r (by omega) (by omega)
    refine zr_aload_n (pc := 41)  (i := 0) rfl rfl dX7_agreed_41 ?_
    refine zr_get (pc := 42)  fl_X7_35 (by first | assumption | rfl | (repeat (first | assumption | exact zup_s | refine zup_g (by decide) ?_))) rfl dX7_agreed_42 ?_
    refine zr_iload_n (pc := 45)  (i := 1) rfl rfl dX7_agreed_45 ?_
    refine zv_call1 (pc := 46)  cv_X7_agreed_158 (by first | assumption | rfl | (repeat (first | assumption | exact zup_s | refine zup_g (by decide) ?_))) ⟨_, rfl, rfl⟩ (Nat.le_of_ble_eq_true rfl) (by decide) dX7_agreed_46 ?_
    refine k_X6_flowOf rfl rfl (by omega) ?_
    dsimp only [Option.toList, List.cons_append, List.nil_append]
    have hrr := hR r (by omega) (by omega)
    rw [← er.1] at hrr
    refine zr_iconst (pc := 49)  dX7_agreed_49 ?_
    refine zr_icmp_ne (pc := 50)  (tgt := 63) ⟨by omega, by omega⟩ ⟨by omega, by omega⟩ (by decide) dX7_agreed_50 (fun q50 => ?_) (fun q50 => ?_)
    · have hB0 := hB_self (h := hV h ssz 1 t wk mo to po wp sd sc pr sq fl db yu yl) (dv := dv0) (T := T0) (ex := ex0) (pu := pu0) b1 b2 b3 b4 b5 b6 b7
      rw [← hB0]
      refine zr_aload_n (pc := 63)  (i := 0) rfl rfl dX7_agreed_63 ?_
      refine zv_call0 (pc := 64)  cv_X7_agreed_168 (by first | assumption | rfl | (repeat (first | assumption | exact zup_s | refine zup_g (by decide) ?_))) ⟨_, rfl, rfl⟩ (Nat.le_of_ble_eq_true rfl) (by decide) dX7_agreed_64 ?_
      refine k_X7_settleBalance g0 g3 g5 g6 rfl rfl rfl g30 (fun i a b => by rw [(hfr i a b).1]; exact hR i a b) i5 i6 (fun i a b c => hne i a b (by rw [← (hfr i a b).1]; exact c)) hdR (by rw [hlp]; exact lp_seB hne hd) (fun T2 ex pu2 hT2 hp1 hp2 => ?_)
      rw [hlp] at hT2 hp1 ⊢
      have hpe := d4_be (P := agP (flowS (SA ap bc pl bt N t) rk gr) rs rg (dbtS (SA ap bc pl bt N t) rk gr)) (fun c c0 c4 => (hp1 c c0 c4).trans (plZ_congr (fun _ _ _ _ _ _ => rfl) (fun c _ _ => hex c) ⟨c0, c4⟩)) hp2 (i5 r) (i6 r)
      have hT := hAR.2.2 r (by omega) (by omega) (by rw [← er.1]; omega)
      dsimp only [Option.toList, List.cons_append, List.nil_append]
      refine zr_aload_n (pc := 67)  (i := 0) rfl rfl dX7_agreed_67 ?_
      refine zr_get (pc := 68)  fl_X7_42 (by first | assumption | rfl | (repeat (first | assumption | exact zup_s | refine zup_g (by decide) ?_))) rfl dX7_agreed_68 ?_
      refine zr_aload_n (pc := 71)  (i := 0) rfl rfl dX7_agreed_71 ?_
      refine zr_get (pc := 72)  fl_X7_19 (by first | assumption | rfl | (repeat (first | assumption | exact zup_s | refine zup_g (by decide) ?_))) rfl dX7_agreed_72 ?_
      refine zr_iload_n (pc := 75)  (i := 1) rfl rfl dX7_agreed_75 ?_
      refine zv_call1 (pc := 76)  cv_X7_agreed_171 (by first | assumption | rfl | (repeat (first | assumption | exact zup_s | refine zup_g (by decide) ?_))) ⟨_, rfl, rfl⟩ (Nat.le_of_ble_eq_true rfl) (by decide) dX7_agreed_76 ?_
      refine k_X3_start g3 g5 (by omega) ?_
      dsimp only [Option.toList, List.cons_append, List.nil_append]
      refine zr_aload_n (pc := 79)  (i := 0) rfl rfl dX7_agreed_79 ?_
      refine zr_get (pc := 80)  fl_X7_19 (by first | assumption | rfl | (repeat (first | assumption | exact zup_s | refine zup_g (by decide) ?_))) rfl dX7_agreed_80 ?_
      refine zr_iload_n (pc := 83)  (i := 1) rfl rfl dX7_agreed_83 ?_
      refine zv_call1 (pc := 84)  cv_X7_agreed_174 (by first | assumption | rfl | (repeat (first | assumption | exact zup_s | refine zup_g (by decide) ?_))) ⟨_, rfl, rfl⟩ (Nat.le_of_ble_eq_true rfl) (by decide) dX7_agreed_84 ?_
      refine k_X3_goal g3 g6 (by omega) ?_
      dsimp only [Option.toList, List.cons_append, List.nil_append]
      refine zr_aload_n (pc := 87)  (i := 0) rfl rfl dX7_agreed_87 ?_
      refine zr_get (pc := 88)  fl_X7_35 (by first | assumption | rfl | (repeat (first | assumption | exact zup_s | refine zup_g (by decide) ?_))) rfl dX7_agreed_88 ?_
      refine zr_iload_n (pc := 91)  (i := 1) rfl rfl dX7_agreed_91 ?_
      refine zv_call1 (pc := 92)  cv_X7_agreed_158 (by first | assumption | rfl | (repeat (first | assumption | exact zup_s | refine zup_g (by decide) ?_))) ⟨_, rfl, rfl⟩ (Nat.le_of_ble_eq_true rfl) (by decide) dX7_agreed_92 ?_
      refine k_X6_flowOf rfl rfl (by omega) ?_
      dsimp only [Option.toList, List.cons_append, List.nil_append]
      refine zr_aload_n (pc := 95)  (i := 0) rfl rfl dX7_agreed_95 ?_
      refine zr_get (pc := 96)  fl_X7_35 (by first | assumption | rfl | (repeat (first | assumption | exact zup_s | refine zup_g (by decide) ?_))) rfl dX7_agreed_96 ?_
      refine zr_iload_n (pc := 99)  (i := 1) rfl rfl dX7_agreed_99 ?_
      refine zv_call1 (pc := 100)  cv_X7_agreed_177 (by first | assumption | rfl | (repeat (first | assumption | exact zup_s | refine zup_g (by decide) ?_))) ⟨_, rfl, rfl⟩ (Nat.le_of_ble_eq_true rfl) (by decide) dX7_agreed_100 ?_
      refine k_X6_doubtOf rfl rfl (by omega) ?_
      dsimp only [Option.toList, List.cons_append, List.nil_append]
      refine zr_aload_n (pc := 103)  (i := 0) rfl rfl dX7_agreed_103 ?_
      refine zr_get (pc := 104)  fl_X7_49 (by first | assumption | rfl | (repeat (first | assumption | exact zup_s | refine zup_g (by decide) ?_))) rfl dX7_agreed_104 ?_
      refine zv_call5 (pc := 107)  cv_X7_agreed_180 (by first | assumption | rfl | (repeat (first | assumption | exact zup_s | refine zup_g (by decide) ?_))) ⟨_, rfl, rfl⟩ (Nat.le_of_ble_eq_true rfl) (by decide) dX7_agreed_107 ?_
      refine k_X0_putAgreed g37 (i5 r) (i6 r) ⟨by omega, by omega⟩ (hdR r (by omega) (by omega)) ⟨hAR.1.1, by have h2 := hAR.1.2; unfold agD at h2; omega⟩ (by rw [hpe, er.1, er.2]; unfold agT agD at hT; exact ⟨by have := hT.1; omega, by have := hT.2; omega⟩) ?_
      rw [hpe, er.1, er.2]
      dsimp only [Option.toList, List.cons_append, List.nil_append]
      refine zr_aload_n (pc := 110)  (i := 0) rfl rfl dX7_agreed_110 ?_
      refine zr_get (pc := 111)  fl_X7_49 (by first | assumption | rfl | (repeat (first | assumption | exact zup_s | refine zup_g (by decide) ?_))) rfl dX7_agreed_111 ?_
      refine zr_iload_n (pc := 114)  (i := 3) rfl rfl dX7_agreed_114 ?_
      refine zv_call1 (pc := 115)  cv_X7_agreed_146 (by first | assumption | rfl | (repeat (first | assumption | exact zup_s | refine zup_g (by decide) ?_))) ⟨_, rfl, rfl⟩ (Nat.le_of_ble_eq_true rfl) (by decide) dX7_agreed_115 ?_
      refine k_X2_part rfl hw ?_
      dsimp only [Option.toList, List.cons_append, List.nil_append]
      refine zx_ret ?_
      refine zr_lreturn (pc := 118)  rfl (by decide) (by decide) dX7_agreed_118 ?_
      exact k1 q (by rw [← er.1]; omega) _ ((hVK.frac).bal) (fun j hj => by rw [hB_hi (by omega), zup_n (by omega)]; exact hV_hi (by omega))
    · exact zx_throw (pc := 53) (is := 166) (text := "the road has no flow") hG rfl (by decide) dX7_agreed_53 dX7_agreed_56 dX7_agreed_57 dX7_agreed_59 dX7_agreed_62 (by decide) (Nat.le_of_ble_eq_true rfl) (by decide) (by decide) (kx (fun z => z.2 (by omega)) _ hVK (fun j hj => hV_hi (by omega)))
  refine zMX_of (by decide) [some _, some _, some _, some _] (Nat.le_of_ble_eq_true rfl) rfl ?_
  refine zr_aload_n (pc := 0)  (i := 0) rfl rfl dX7_agreed_0 ?_
  refine zr_iload_n (pc := 1)  (i := 1) rfl rfl dX7_agreed_1 ?_
  refine zr_iload_n (pc := 2)  (i := 2) rfl rfl dX7_agreed_2 ?_
  refine zv_call2 (pc := 3)  cv_X7_agreed_94 (by first | assumption | rfl | (repeat (first | assumption | exact zup_s | refine zup_g (by decide) ?_))) ⟨_, rfl, rfl⟩ (Nat.le_of_ble_eq_true rfl) (by decide) dX7_agreed_3 ?_
  refine k_X7_isAskable (by first | assumption | omega | (refine ⟨?_, ?_⟩ <;> omega) | rfl | (repeat (first | assumption | exact zup_s | refine zup_g (by decide) ?_))) (by first | assumption | omega | (refine ⟨?_, ?_⟩ <;> omega) | rfl | (repeat (first | assumption | exact zup_s | refine zup_g (by decide) ?_))) (by first | assumption | omega | (refine ⟨?_, ?_⟩ <;> omega) | rfl | (repeat (first | assumption | exact zup_s | refine zup_g (by decide) ?_))) ?_
  dsimp only [Option.toList, List.cons_append, List.nil_append]
  refine zb_eq (pc := 6) (tgt := 16) (by decide) dX7_agreed_6 (fun q6 => ?_) (fun q6 => ?_)
  · exact zx_throw (pc := 16) (is := 138) (text := "no such road, time or part") hG rfl (by decide) dX7_agreed_16 dX7_agreed_19 dX7_agreed_20 dX7_agreed_22 dX7_agreed_25 (by decide) (Nat.le_of_ble_eq_true rfl) (by decide) (by decide) (kx (fun q => by have := q.1; omega) h hK (fun _ _ => rfl))
  · refine zr_iload_n (pc := 9)  (i := 3) rfl rfl dX7_agreed_9 ?_
    refine zc_call1 (pc := 10)  cs_X7_agreed_135 (Nat.le_of_ble_eq_true rfl) (by decide) dX7_agreed_10 ?_
    refine k_X7_isPart (by first | assumption | omega | (refine ⟨?_, ?_⟩ <;> omega) | rfl | (repeat (first | assumption | exact zup_s | refine zup_g (by decide) ?_))) ?_
    dsimp only [Option.toList, List.cons_append, List.nil_append]
    refine zb_ne (pc := 13) (tgt := 26) (by decide) dX7_agreed_13 (fun q13 => ?_) (fun q13 => ?_)
    · exact go (by omega)
    · exact zx_throw (pc := 16) (is := 138) (text := "no such road, time or part") hG rfl (by decide) dX7_agreed_16 dX7_agreed_19 dX7_agreed_20 dX7_agreed_22 dX7_agreed_25 (by decide) (Nat.le_of_ble_eq_true rfl) (by decide) (by decide) (kx (fun q => by have := q.1; omega) h hK (fun _ _ => rfl))
end OFF
