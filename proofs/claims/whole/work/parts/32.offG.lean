theorem flS_move {s rk gr wp wk mo to po wk2 mo2 to2 po2 fl db : Int → Int} (h1 : vwS s rk gr wp wk mo to po) (h2 : vwS s rk gr wp wk2 mo2 to2 po2) (h : flS rk wp wk mo to po s 16 fl db) : flS rk wp wk2 mo2 to2 po2 s 16 fl db := fun r a b => by
  obtain ⟨e1, e2⟩ := h r a b
  exact ⟨e1.trans ((fl_of h1 ⟨a, b⟩).1.trans (fl_of h2 ⟨a, b⟩).1.symm), e2⟩
theorem sumD_nn {f : Int → Int} {lim : Int} {F : Int → Int} : ∀ k : Nat, (∀ j : Int, 0 ≤ j → j < k → 0 ≤ f j → 0 ≤ F j) → 0 ≤ sumD f lim F k
  | 0, _ => by simp [sumD]
  | k + 1, h => by
    have h1 := sumD_nn (lim := lim) k (fun j a b => h j a (by omega))
    show 0 ≤ sumD f lim F k + ind (cnD f lim k < lim ∧ 0 ≤ f k) * F k
    by_cases q : cnD f lim k < lim ∧ 0 ≤ f k
    · have := h k (by omega) (by omega) q.2
      rw [ind_t q]; omega
    · rw [ind_f q]; omega
theorem yS_R {s rk gr : Int → Int} (hs : ∀ p, s p ≤ 50) {r : Int} (ho : yOS s rk gr r) : 0 ≤ yTS s rk gr r ∧ 0 < yBS s rk gr r := by
  unfold yTS yBS
  by_cases q : wpP s rk gr r
  · rw [if_pos q, if_pos q]
    have := sumZ_R (f := dyS s r) (B := 50) 84 (fun x y z => ⟨q.2 x y (by omega), hs _⟩)
    omega
  · rw [if_neg q, if_neg q]
    have hb : fitS s rk gr r 0 ≠ -1 := ho.resolve_left q
    have ht := fs4_t (c := fun g => 0 < QS s rk gr (dyS s r) (lmS s rk gr r) (-1) g ∧ ahZ (PS s rk gr (dyS s r) (lmS s rk gr r) (-1)) (QS s rk gr (dyS s r) (lmS s rk gr r) (-1)) g = 0) hb
    refine ⟨?_, ht.1⟩
    have hSR := S_R (rk := rk) (gr := gr) hs (fitS s rk gr r 0) (-1)
    have hp : 0 ≤ PS s rk gr (dyS s r) (lmS s rk gr r) (-1) (fitS s rk gr r 0) := by
      unfold PS
      have h1 : 0 ≤ sumD (dyS s r) (lmS s rk gr r) (fun d => vS s rk gr (fitS s rk gr r 0) (-1) d * dyS s r d) 84 := sumD_nn 84 (fun j a b c => by
        refine Int.mul_nonneg ?_ c
        unfold vS
        exact Int.mul_nonneg (hSR.1 _ (by omega) (by omega)).1 (hSR.2.1 _ (by omega) (by omega)).1)
      rcases ind_R (thS s rk gr (fitS s rk gr r 0) (-1)) with e | e
      · rw [e]; omega
      · rw [e]; omega
    exact Int.mul_nonneg hp (Int.mul_nonneg hSR.2.2.1.1 hSR.2.2.1.1)
theorem flowS_R {s rk gr : Int → Int} (hs : ∀ p, s p ≤ 50) {r : Int} : -1 ≤ flowS s rk gr r ∧ flowS s rk gr r ≤ 100000 := by
  unfold flowS
  by_cases q : (rk r = 1 ∧ yOS s rk gr r) ∧ yVS s rk gr r ≤ 100000
  · rw [if_pos q]
    have h1 := yS_R hs q.1.2
    have h2 := rd_R h1.1 h1.2
    have h3 := rnd_R h2.1.1 h2.2.1
    have h4 := q.2
    unfold yVS at h4 ⊢
    omega
  · rw [if_neg q]; omega
theorem exZ_congr {fl fl2 rs rg : Int → Int} {c : Int} (h : ∀ r : Int, 0 ≤ r → r < 16 → fl r = fl2 r) : exZ fl rs rg c 16 = exZ fl2 rs rg c 16 := by
  unfold exZ
  exact sumZ_congr 16 (fun j a b => by rw [h j a (by omega)])
section OFF
variable {G : zG} {n : Nat} {h : zH} {Post : Option Value → Nat → zH → Prop} {now len num : Int} {tb rk rs rg gr bt bc bk be bn ap pl : Int → Int} {N : Nat}
theorem k_X7_worth {PX : zH → Prop} {g d t : Int} (hG : (zgl G).stackTraces = false) (hK : oK h now len tb rk rs rg gr num N bt bc bk be bn ap pl) (hg : iR g) (hd : iR d) (ht : iR t) (k1 : ((0 ≤ g ∧ g < 4) ∧ (0 ≤ d ∧ d < 84)) ∧ 0 ≤ t → thS (SA ap bc pl bt N t) rk gr g (-1) → ∀ h', oK h' now len tb rk rs rg gr num N bt bc bk be bn ap pl → (∀ j, 37 < j → h' j = h j) → Post (some (vi (vS (SA ap bc pl bt N t) rk gr g (-1) d))) n h') (kx : ¬ ((((0 ≤ g ∧ g < 4) ∧ (0 ≤ d ∧ d < 84)) ∧ 0 ≤ t) ∧ thS (SA ap bc pl bt N t) rk gr g (-1)) → ∀ h', oK h' now len tb rk rs rg gr num N bt bc bk be bn ap pl → (∀ j, 37 < j → h' j = h j) → PX h') : zMX G mX7_worth [.ref 0, vi g, vi d, vi t] n h Post PX := by
  have hK' := hK
  obtain ⟨⟨g0, g1, g2, g3, g4, g5, g6, g7, g8, g9, g10, g11, g12, g13, g14⟩, ⟨i1, i2, i3, i4, i5, i6, i7, i8, i9, i10⟩, ⟨g16, ssz0, fnd0, tm0, wk0, mo0, to0, po0, wp0, sd0, sc0, pr0, sq0, fl0, db0, yu0, yl0, ⟨g15, -⟩, -⟩, ⟨g30, ⟨dv0, T0, ex0, pu0, b1, b2, b3, b4, b5, b6, b7⟩, u0, l0, g37⟩⟩ := hK'
  have hs50 : ∀ p, SA ap bc pl bt N t p ≤ 50 := fun p => (stO_R (hK.stO (t := t)) p).2
  refine zMX_of (by decide) [some _, some _, some _, some _] (Nat.le_of_ble_eq_true rfl) rfl ?_
  refine zr_iload_n (pc := 0)  (i := 1) rfl rfl dX7_worth_0 ?_
  refine zr_iconst (pc := 1)  dX7_worth_1 ?_
  refine zc_call2 (pc := 2)  cs_X7_worth_69 (Nat.le_of_ble_eq_true rfl) (by decide) dX7_worth_2 ?_
  refine k_X7_isBelow (by first | assumption | omega | (refine ⟨?_, ?_⟩ <;> omega) | rfl | (repeat (first | assumption | exact zup_s | refine zup_g (by decide) ?_))) (by first | assumption | omega | (refine ⟨?_, ?_⟩ <;> omega) | rfl | (repeat (first | assumption | exact zup_s | refine zup_g (by decide) ?_))) ?_
  dsimp only [Option.toList, List.cons_append, List.nil_append]
  refine zb_eq (pc := 5) (tgt := 21) (by decide) dX7_worth_5 (fun q5 => ?_) (fun q5 => ?_)
  · exact zx_throw (pc := 21) (is := 119) (text := "no such group, day or time") hG rfl (by decide) dX7_worth_21 dX7_worth_24 dX7_worth_25 dX7_worth_27 dX7_worth_30 (by decide) (Nat.le_of_ble_eq_true rfl) (by decide) (by decide) (kx (fun q => by have := q.1; omega) h hK (fun _ _ => rfl))
  · refine zr_iload_n (pc := 8)  (i := 2) rfl rfl dX7_worth_8 ?_
    refine zr_bipush (pc := 9)  (by decide) dX7_worth_9 ?_
    refine zc_call2 (pc := 11)  cs_X7_worth_69 (Nat.le_of_ble_eq_true rfl) (by decide) dX7_worth_11 ?_
    refine k_X7_isBelow (by first | assumption | omega | (refine ⟨?_, ?_⟩ <;> omega) | rfl | (repeat (first | assumption | exact zup_s | refine zup_g (by decide) ?_))) (by first | assumption | omega | (refine ⟨?_, ?_⟩ <;> omega) | rfl | (repeat (first | assumption | exact zup_s | refine zup_g (by decide) ?_))) ?_
    dsimp only [Option.toList, List.cons_append, List.nil_append]
    refine zb_eq (pc := 14) (tgt := 21) (by decide) dX7_worth_14 (fun q14 => ?_) (fun q14 => ?_)
    · exact zx_throw (pc := 21) (is := 119) (text := "no such group, day or time") hG rfl (by decide) dX7_worth_21 dX7_worth_24 dX7_worth_25 dX7_worth_27 dX7_worth_30 (by decide) (Nat.le_of_ble_eq_true rfl) (by decide) (by decide) (kx (fun q => by have := q.1; omega) h hK (fun _ _ => rfl))
    · refine zr_iload_n (pc := 17)  (i := 3) rfl rfl dX7_worth_17 ?_
      refine zr_if_ge (pc := 18)  (tgt := 31) ⟨by omega, by omega⟩ (by decide) dX7_worth_18 (fun q18 => ?_) (fun q18 => ?_)
      · refine zr_aload_n (pc := 31)  (i := 0) rfl rfl dX7_worth_31 ?_
        refine zr_get (pc := 32)  fl_X7_35 (by first | assumption | rfl | (repeat (first | assumption | exact zup_s | refine zup_g (by decide) ?_))) rfl dX7_worth_32 ?_
        refine zr_iload_n (pc := 35)  (i := 3) rfl rfl dX7_worth_35 ?_
        refine zv_call1 (pc := 36)  cv_X7_worth_104 (by first | assumption | rfl | (repeat (first | assumption | exact zup_s | refine zup_g (by decide) ?_))) ⟨_, rfl, rfl⟩ (Nat.le_of_ble_eq_true rfl) (by decide) dX7_worth_36 ?_
        refine k_look hK ht (by omega) (fun ssz fnd wk mo to po wp sd sc pr sq fl db yu yl hv hf hfl => ?_)
        have hKv := (hK.view (ssz := ssz) (fnd := fnd) (tm := t) (wk := wk) (mo := mo) (to := to) (po := po) (wp := wp) (sd := sd) (sc := sc) (pr := pr) (sq := sq) (fl := fl) (db := db) (yu := yu) (yl := yl) (vwI.mk' ht hv hf hfl))
        have hsl := slS_S hv.1 (hv.2 g (by omega) (by omega))
        have htb := vwS_tb hs50 hv g (by omega) (by omega)
        have htb3 := htb.2.2.1
        have htb4 := htb.2.2.2
        dsimp only [Option.toList, List.cons_append, List.nil_append]
        refine zr_aload_n (pc := 39)  (i := 0) rfl rfl dX7_worth_39 ?_
        refine zr_get (pc := 40)  fl_X7_35 (by first | assumption | rfl | (repeat (first | assumption | exact zup_s | refine zup_g (by decide) ?_))) rfl dX7_worth_40 ?_
        refine zr_iload_n (pc := 43)  (i := 1) rfl rfl dX7_worth_43 ?_
        refine zv_call1 (pc := 44)  cv_X7_worth_110 (by first | assumption | rfl | (repeat (first | assumption | exact zup_s | refine zup_g (by decide) ?_))) ⟨_, rfl, rfl⟩ (Nat.le_of_ble_eq_true rfl) (by decide) dX7_worth_44 ?_
        refine k_X6_isThere rfl (by assumption) rfl rfl (by omega) ⟨by omega, by omega⟩ ⟨by omega, by omega⟩ ?_
        rw [hsl.2.2.1, hsl.2.2.2]
        dsimp only [Option.toList, List.cons_append, List.nil_append]
        refine zb_ne (pc := 47) (tgt := 60) (by decide) dX7_worth_47 (fun q47 => ?_) (fun q47 => ?_)
        · refine zr_aload_n (pc := 60)  (i := 0) rfl rfl dX7_worth_60 ?_
          refine zr_get (pc := 61)  fl_X7_35 (by first | assumption | rfl | (repeat (first | assumption | exact zup_s | refine zup_g (by decide) ?_))) rfl dX7_worth_61 ?_
          refine zr_iload_n (pc := 64)  (i := 1) rfl rfl dX7_worth_64 ?_
          refine zr_iload_n (pc := 65)  (i := 2) rfl rfl dX7_worth_65 ?_
          refine zv_call2 (pc := 66)  cv_X7_worth_126 (by first | assumption | rfl | (repeat (first | assumption | exact zup_s | refine zup_g (by decide) ?_))) ⟨_, rfl, rfl⟩ (Nat.le_of_ble_eq_true rfl) (by decide) dX7_worth_66 ?_
          refine k_X6_dayValue rfl (by assumption) rfl rfl (by omega) (by omega) ?_
          rw [hsl.1 _ (by omega) (by omega), hsl.2.1 _ (by omega) (by omega)]
          dsimp only [Option.toList, List.cons_append, List.nil_append]
          refine zx_ret ?_
          refine zr_ireturn (pc := 69)  rfl (by decide) (by decide) dX7_worth_69 ?_
          exact k1 (by omega) q47 _ hKv (fun j hj => hV_hi (by omega))
        · exact zx_throw (pc := 50) (is := 124) (text := "the group is not there") hG rfl (by decide) dX7_worth_50 dX7_worth_53 dX7_worth_54 dX7_worth_56 dX7_worth_59 (by decide) (Nat.le_of_ble_eq_true rfl) (by decide) (by decide) (kx (fun q => q47 q.2) _ hKv (fun j hj => hV_hi (by omega)))
      · exact zx_throw (pc := 21) (is := 119) (text := "no such group, day or time") hG rfl (by decide) dX7_worth_21 dX7_worth_24 dX7_worth_25 dX7_worth_27 dX7_worth_30 (by decide) (Nat.le_of_ble_eq_true rfl) (by decide) (by decide) (kx (fun q => by have := q.1; omega) h hK (fun _ _ => rfl))
theorem k_X7_year {PX : zH → Prop} {r t w : Int} (hG : (zgl G).stackTraces = false) (hK : oK h now len tb rk rs rg gr num N bt bc bk be bn ap pl) (hr : iR r) (ht : iR t) (hw : iR w) (k1 : ((((0 ≤ r ∧ r < 16) ∧ rk r = 1) ∧ 0 ≤ t) ∧ (w = 0 ∨ w = 1)) → yOS (SA ap bc pl bt N t) rk gr r → (0 ≤ yTS (SA ap bc pl bt N t) rk gr r ∧ yTS (SA ap bc pl bt N t) rk gr r ≤ 663828480000000000) ∧ (0 < yBS (SA ap bc pl bt N t) rk gr r ∧ yBS (SA ap bc pl bt N t) rk gr r ≤ 158054400000000) → ∀ h', oK h' now len tb rk rs rg gr num N bt bc bk be bn ap pl → (∀ j, 37 < j → h' j = h j) → Post (some (vl (if w = 0 then rdU (yTS (SA ap bc pl bt N t) rk gr r) (yBS (SA ap bc pl bt N t) rk gr r) else rdL (yTS (SA ap bc pl bt N t) rk gr r) (yBS (SA ap bc pl bt N t) rk gr r)))) n h') (kx : ¬ (((((0 ≤ r ∧ r < 16) ∧ rk r = 1) ∧ 0 ≤ t) ∧ (w = 0 ∨ w = 1)) ∧ yOS (SA ap bc pl bt N t) rk gr r) → ∀ h', oK h' now len tb rk rs rg gr num N bt bc bk be bn ap pl → (∀ j, 37 < j → h' j = h j) → PX h') : zMX G mX7_year [.ref 0, vi r, vi t, vi w] n h Post PX := by
  have hK' := hK
  obtain ⟨⟨g0, g1, g2, g3, g4, g5, g6, g7, g8, g9, g10, g11, g12, g13, g14⟩, ⟨i1, i2, i3, i4, i5, i6, i7, i8, i9, i10⟩, ⟨g16, ssz0, fnd0, tm0, wk0, mo0, to0, po0, wp0, sd0, sc0, pr0, sq0, fl0, db0, yu0, yl0, ⟨g15, -⟩, -⟩, ⟨g30, ⟨dv0, T0, ex0, pu0, b1, b2, b3, b4, b5, b6, b7⟩, u0, l0, g37⟩⟩ := hK'
  have hs50 : ∀ p, SA ap bc pl bt N t p ≤ 50 := fun p => (stO_R (hK.stO (t := t)) p).2
  have go : ((((0 ≤ r ∧ r < 16) ∧ rk r = 1) ∧ 0 ≤ t) ∧ (w = 0 ∨ w = 1)) → zAW G mX7_year zXT (zFx G mX7_year Post PX) 26 [some (.ref 0), some (vi r), some (vi t), some (vi w)] [] n h 0 0 := fun q => by
    refine zr_aload_n (pc := 26)  (i := 0) rfl rfl dX7_year_26 ?_
    refine zr_get (pc := 27)  fl_X7_35 (by first | assumption | rfl | (repeat (first | assumption | exact zup_s | refine zup_g (by decide) ?_))) rfl dX7_year_27 ?_
    refine zr_iload_n (pc := 30)  (i := 2) rfl rfl dX7_year_30 ?_
    refine zv_call1 (pc := 31)  cv_X7_year_104 (by first | assumption | rfl | (repeat (first | assumption | exact zup_s | refine zup_g (by decide) ?_))) ⟨_, rfl, rfl⟩ (Nat.le_of_ble_eq_true rfl) (by decide) dX7_year_31 ?_
    refine k_look hK ht (by omega) (fun ssz fnd wk mo to po wp sd sc pr sq fl db yu yl hv hf hfl => ?_)
    dsimp only [Option.toList, List.cons_append, List.nil_append]
    have hyr := yr_of hv (r := r) (by omega)
    refine zr_aload_n (pc := 34)  (i := 0) rfl rfl dX7_year_34 ?_
    refine zr_get (pc := 35)  fl_X7_35 (by first | assumption | rfl | (repeat (first | assumption | exact zup_s | refine zup_g (by decide) ?_))) rfl dX7_year_35 ?_
    refine zr_iload_n (pc := 38)  (i := 1) rfl rfl dX7_year_38 ?_
    refine zr_aload_n (pc := 39)  (i := 0) rfl rfl dX7_year_39 ?_
    refine zr_get (pc := 40)  fl_X7_49 (by first | assumption | rfl | (repeat (first | assumption | exact zup_s | refine zup_g (by decide) ?_))) rfl dX7_year_40 ?_
    refine zv_call2 (pc := 43)  cv_X7_year_140 (by first | assumption | rfl | (repeat (first | assumption | exact zup_s | refine zup_g (by decide) ?_))) ⟨_, rfl, rfl⟩ (Nat.le_of_ble_eq_true rfl) (by decide) dX7_year_43 ?_
    refine k_X6_putYear (Or.inr rfl) g37 g16 (hK.stO (t := t)) hv (by omega) ht (fun c1 c2 ssz sd sc pr sq => ?_) (fun c1 ssz sd sc pr sq => ?_)
    · dsimp only [Option.toList, List.cons_append, List.nil_append]
      have e := hyr.2 c1
      rw [e.1, e.2] at c2 ⊢
      rw [hV_out (by decide)]
      refine zk_ne1 (pc := 46) (tgt := 59) (by decide) dX7_year_46 ?_
      refine zr_aload_n (pc := 59)  (i := 0) rfl rfl dX7_year_59 ?_
      refine zr_get (pc := 60)  fl_X7_49 (by first | assumption | rfl | (repeat (first | assumption | exact zup_s | refine zup_g (by decide) ?_))) rfl dX7_year_60 ?_
      refine zr_iload_n (pc := 63)  (i := 3) rfl rfl dX7_year_63 ?_
      refine zv_call1 (pc := 64)  cv_X7_year_146 (by first | assumption | rfl | (repeat (first | assumption | exact zup_s | refine zup_g (by decide) ?_))) ⟨_, rfl, rfl⟩ (Nat.le_of_ble_eq_true rfl) (by decide) dX7_year_64 ?_
      refine k_X2_part rfl hw ?_
      dsimp only [Option.toList, List.cons_append, List.nil_append]
      refine zx_ret ?_
      refine zr_lreturn (pc := 67)  rfl (by decide) (by decide) dX7_year_67 ?_
      rw [← hV_out (by decide)]
      exact k1 q (hyr.1.mp c1) c2 _ (by rw [hV_out (by decide)]; exact (hK.frac).view (vwI.mk' ht hv hf hfl)) (fun j hj => by rw [zup_n (by omega)]; exact hV_hi (by omega))
    · dsimp only [Option.toList, List.cons_append, List.nil_append]
      refine zk_ne0 (pc := 46) dX7_year_46 (tgt := 59) (by decide) ?_
      exact zx_throw (pc := 49) (is := 144) (text := "the year is not told") hG rfl (by decide) dX7_year_49 dX7_year_52 dX7_year_53 dX7_year_55 dX7_year_58 (by decide) (Nat.le_of_ble_eq_true rfl) (by decide) (by decide) (kx (fun z => c1 (hyr.1.mpr z.2)) _ (hK.view (ssz := ssz) (fnd := fnd) (tm := t) (wk := wk) (mo := mo) (to := to) (po := po) (wp := wp) (sd := sd) (sc := sc) (pr := pr) (sq := sq) (fl := fl) (db := db) (yu := yu) (yl := yl) (vwI.mk' ht hv hf hfl)) (fun j hj => hV_hi (by omega)))
  refine zMX_of (by decide) [some _, some _, some _, some _] (Nat.le_of_ble_eq_true rfl) rfl ?_
  refine zr_aload_n (pc := 0)  (i := 0) rfl rfl dX7_year_0 ?_
  refine zr_iload_n (pc := 1)  (i := 1) rfl rfl dX7_year_1 ?_
  refine zr_iload_n (pc := 2)  (i := 2) rfl rfl dX7_year_2 ?_
  refine zv_call2 (pc := 3)  cv_X7_year_94 (by first | assumption | rfl | (repeat (first | assumption | exact zup_s | refine zup_g (by decide) ?_))) ⟨_, rfl, rfl⟩ (Nat.le_of_ble_eq_true rfl) (by decide) dX7_year_3 ?_
  refine k_X7_isAskable (by first | assumption | omega | (refine ⟨?_, ?_⟩ <;> omega) | rfl | (repeat (first | assumption | exact zup_s | refine zup_g (by decide) ?_))) (by first | assumption | omega | (refine ⟨?_, ?_⟩ <;> omega) | rfl | (repeat (first | assumption | exact zup_s | refine zup_g (by decide) ?_))) (by first | assumption | omega | (refine ⟨?_, ?_⟩ <;> omega) | rfl | (repeat (first | assumption | exact zup_s | refine zup_g (by decide) ?_))) ?_
  dsimp only [Option.toList, List.cons_append, List.nil_append]
  refine zb_eq (pc := 6) (tgt := 16) (by decide) dX7_year_6 (fun q6 => ?_) (fun q6 => ?_)
  · exact zx_throw (pc := 16) (is := 138) (text := "no such road, time or part") hG rfl (by decide) dX7_year_16 dX7_year_19 dX7_year_20 dX7_year_22 dX7_year_25 (by decide) (Nat.le_of_ble_eq_true rfl) (by decide) (by decide) (kx (fun q => by have := q.1; omega) h hK (fun _ _ => rfl))
  · refine zr_iload_n (pc := 9)  (i := 3) rfl rfl dX7_year_9 ?_
    refine zc_call1 (pc := 10)  cs_X7_year_135 (Nat.le_of_ble_eq_true rfl) (by decide) dX7_year_10 ?_
    refine k_X7_isPart (by first | assumption | omega | (refine ⟨?_, ?_⟩ <;> omega) | rfl | (repeat (first | assumption | exact zup_s | refine zup_g (by decide) ?_))) ?_
    dsimp only [Option.toList, List.cons_append, List.nil_append]
    refine zb_ne (pc := 13) (tgt := 26) (by decide) dX7_year_13 (fun q13 => ?_) (fun q13 => ?_)
    · exact go (by omega)
    · exact zx_throw (pc := 16) (is := 138) (text := "no such road, time or part") hG rfl (by decide) dX7_year_16 dX7_year_19 dX7_year_20 dX7_year_22 dX7_year_25 (by decide) (Nat.le_of_ble_eq_true rfl) (by decide) (by decide) (kx (fun q => by have := q.1; omega) h hK (fun _ _ => rfl))
theorem k_X7_trial {PX : zH → Prop} {r t w : Int} (hG : (zgl G).stackTraces = false) (hK : oK h now len tb rk rs rg gr num N bt bc bk be bn ap pl) (hr : iR r) (ht : iR t) (hw : iR w) (k1 : ((((0 ≤ r ∧ r < 16) ∧ rk r = 1) ∧ 0 ≤ t) ∧ (w = 0 ∨ w = 1)) → wpP (SA ap bc pl bt N t) rk gr r ∧ 0 < QS (SA ap bc pl bt N t) rk gr (dyS (SA ap bc pl bt N t) r) 7 r (gr r) → ∀ h', oK h' now len tb rk rs rg gr num N bt bc bk be bn ap pl → (∀ j, 37 < j → h' j = h j) → Post (some (vl (if w = 0 then rdU (PS (SA ap bc pl bt N t) rk gr (dyS (SA ap bc pl bt N t) r) 7 r (gr r) * (TS (SA ap bc pl bt N t) rk gr (gr r) r * TS (SA ap bc pl bt N t) rk gr (gr r) r)) (QS (SA ap bc pl bt N t) rk gr (dyS (SA ap bc pl bt N t) r) 7 r (gr r)) else rdL (PS (SA ap bc pl bt N t) rk gr (dyS (SA ap bc pl bt N t) r) 7 r (gr r) * (TS (SA ap bc pl bt N t) rk gr (gr r) r * TS (SA ap bc pl bt N t) rk gr (gr r) r)) (QS (SA ap bc pl bt N t) rk gr (dyS (SA ap bc pl bt N t) r) 7 r (gr r))))) n h') (kx : ¬ (((((0 ≤ r ∧ r < 16) ∧ rk r = 1) ∧ 0 ≤ t) ∧ (w = 0 ∨ w = 1)) ∧ wpP (SA ap bc pl bt N t) rk gr r ∧ 0 < QS (SA ap bc pl bt N t) rk gr (dyS (SA ap bc pl bt N t) r) 7 r (gr r)) → ∀ h', oK h' now len tb rk rs rg gr num N bt bc bk be bn ap pl → (∀ j, 37 < j → h' j = h j) → PX h') : zMX G mX7_trial [.ref 0, vi r, vi t, vi w] n h Post PX := by
  have hK' := hK
  obtain ⟨⟨g0, g1, g2, g3, g4, g5, g6, g7, g8, g9, g10, g11, g12, g13, g14⟩, ⟨i1, i2, i3, i4, i5, i6, i7, i8, i9, i10⟩, ⟨g16, ssz0, fnd0, tm0, wk0, mo0, to0, po0, wp0, sd0, sc0, pr0, sq0, fl0, db0, yu0, yl0, ⟨g15, -⟩, -⟩, ⟨g30, ⟨dv0, T0, ex0, pu0, b1, b2, b3, b4, b5, b6, b7⟩, u0, l0, g37⟩⟩ := hK'
  have hs50 : ∀ p, SA ap bc pl bt N t p ≤ 50 := fun p => (stO_R (hK.stO (t := t)) p).2
  have go : ((((0 ≤ r ∧ r < 16) ∧ rk r = 1) ∧ 0 ≤ t) ∧ (w = 0 ∨ w = 1)) → zAW G mX7_trial zXT (zFx G mX7_trial Post PX) 26 [some (.ref 0), some (vi r), some (vi t), some (vi w)] [] n h 0 0 := fun q => by
    refine zr_aload_n (pc := 26)  (i := 0) rfl rfl dX7_trial_26 ?_
    refine zr_get (pc := 27)  fl_X7_35 (by first | assumption | rfl | (repeat (first | assumption | exact zup_s | refine zup_g (by decide) ?_))) rfl dX7_trial_27 ?_
    refine zr_iload_n (pc := 30)  (i := 2) rfl rfl dX7_trial_30 ?_
    refine zv_call1 (pc := 31)  cv_X7_trial_104 (by first | assumption | rfl | (repeat (first | assumption | exact zup_s | refine zup_g (by decide) ?_))) ⟨_, rfl, rfl⟩ (Nat.le_of_ble_eq_true rfl) (by decide) dX7_trial_31 ?_
    refine k_look hK ht (by omega) (fun ssz fnd wk mo to po wp sd sc pr sq fl db yu yl hv hf hfl => ?_)
    dsimp only [Option.toList, List.cons_append, List.nil_append]
    have hwr := hv.1.2 r (by omega) (by omega)
    refine zr_aload_n (pc := 34)  (i := 0) rfl rfl dX7_trial_34 ?_
    refine zr_get (pc := 35)  fl_X7_35 (by first | assumption | rfl | (repeat (first | assumption | exact zup_s | refine zup_g (by decide) ?_))) rfl dX7_trial_35 ?_
    refine zr_iload_n (pc := 38)  (i := 1) rfl rfl dX7_trial_38 ?_
    refine zr_aload_n (pc := 39)  (i := 0) rfl rfl dX7_trial_39 ?_
    refine zr_get (pc := 40)  fl_X7_49 (by first | assumption | rfl | (repeat (first | assumption | exact zup_s | refine zup_g (by decide) ?_))) rfl dX7_trial_40 ?_
    refine zv_call2 (pc := 43)  cv_X7_trial_150 (by first | assumption | rfl | (repeat (first | assumption | exact zup_s | refine zup_g (by decide) ?_))) ⟨_, rfl, rfl⟩ (Nat.le_of_ble_eq_true rfl) (by decide) dX7_trial_43 ?_
    refine k_X6_putTrial (Or.inr rfl) g37 g3 g7 g16 (hK.stO (t := t)) i7 hv (by omega) ht (fun c1 => ?_) (fun c1 ssz wk mo to po sd sc pr sq hv2 hsl c2 => ?_) (fun c1 ssz wk mo to po sd sc pr sq hv2 hsl c2 => ?_)
    · dsimp only [Option.toList, List.cons_append, List.nil_append]
      refine zk_ne0 (pc := 46) dX7_trial_46 (tgt := 59) (by decide) ?_
      exact zx_throw (pc := 49) (is := 153) (text := "there is no trial") hG rfl (by decide) dX7_trial_49 dX7_trial_52 dX7_trial_53 dX7_trial_55 dX7_trial_58 (by decide) (Nat.le_of_ble_eq_true rfl) (by decide) (by decide) (kx (fun z => c1 (hwr.mpr z.2.1)) _ (hK.view (ssz := ssz) (fnd := fnd) (tm := t) (wk := wk) (mo := mo) (to := to) (po := po) (wp := wp) (sd := sd) (sc := sc) (pr := pr) (sq := sq) (fl := fl) (db := db) (yu := yu) (yl := yl) (vwI.mk' ht hv hf hfl)) (fun j hj => hV_hi (by omega)))
    · dsimp only [Option.toList, List.cons_append, List.nil_append]
      refine zk_ne0 (pc := 46) dX7_trial_46 (tgt := 59) (by decide) ?_
      rw [(PQ_of hv2.1 hsl _ _).2] at c2
      exact zx_throw (pc := 49) (is := 153) (text := "there is no trial") hG rfl (by decide) dX7_trial_49 dX7_trial_52 dX7_trial_53 dX7_trial_55 dX7_trial_58 (by decide) (Nat.le_of_ble_eq_true rfl) (by decide) (by decide) (kx (fun z => c2 z.2.2) _ (hK.view (vwI.mk' ht hv2 hf (fun z => flS_move hv hv2 (hfl z)))) (fun j hj => hV_hi (by omega)))
    · dsimp only [Option.toList, List.cons_append, List.nil_append]
      have e := PQ_of hv2.1 hsl (fun d => SA ap bc pl bt N t (r * 84 + d)) 7
      have e3 := (slS_S hv2.1 hsl).2.2.1
      rw [e.2] at c2
      rw [e.1, e.2, e3, hV_out (by decide)]
      refine zk_ne1 (pc := 46) (tgt := 59) (by decide) dX7_trial_46 ?_
      refine zr_aload_n (pc := 59)  (i := 0) rfl rfl dX7_trial_59 ?_
      refine zr_get (pc := 60)  fl_X7_49 (by first | assumption | rfl | (repeat (first | assumption | exact zup_s | refine zup_g (by decide) ?_))) rfl dX7_trial_60 ?_
      refine zr_iload_n (pc := 63)  (i := 3) rfl rfl dX7_trial_63 ?_
      refine zv_call1 (pc := 64)  cv_X7_trial_146 (by first | assumption | rfl | (repeat (first | assumption | exact zup_s | refine zup_g (by decide) ?_))) ⟨_, rfl, rfl⟩ (Nat.le_of_ble_eq_true rfl) (by decide) dX7_trial_64 ?_
      refine k_X2_part rfl hw ?_
      dsimp only [Option.toList, List.cons_append, List.nil_append]
      refine zx_ret ?_
      refine zr_lreturn (pc := 67)  rfl (by decide) (by decide) dX7_trial_67 ?_
      rw [← hV_out (by decide)]
      exact k1 q ⟨hwr.mp c1, c2⟩ _ (by rw [hV_out (by decide)]; exact (hK.frac).view (vwI.mk' ht hv2 hf (fun z => flS_move hv hv2 (hfl z)))) (fun j hj => by rw [zup_n (by omega)]; exact hV_hi (by omega))
  refine zMX_of (by decide) [some _, some _, some _, some _] (Nat.le_of_ble_eq_true rfl) rfl ?_
  refine zr_aload_n (pc := 0)  (i := 0) rfl rfl dX7_trial_0 ?_
  refine zr_iload_n (pc := 1)  (i := 1) rfl rfl dX7_trial_1 ?_
  refine zr_iload_n (pc := 2)  (i := 2) rfl rfl dX7_trial_2 ?_
  refine zv_call2 (pc := 3)  cv_X7_trial_94 (by first | assumption | rfl | (repeat (first | assumption | exact zup_s | refine zup_g (by decide) ?_))) ⟨_, rfl, rfl⟩ (Nat.le_of_ble_eq_true rfl) (by decide) dX7_trial_3 ?_
  refine k_X7_isAskable (by first | assumption | omega | (refine ⟨?_, ?_⟩ <;> omega) | rfl | (repeat (first | assumption | exact zup_s | refine zup_g (by decide) ?_))) (by first | assumption | omega | (refine ⟨?_, ?_⟩ <;> omega) | rfl | (repeat (first | assumption | exact zup_s | refine zup_g (by decide) ?_))) (by first | assumption | omega | (refine ⟨?_, ?_⟩ <;> omega) | rfl | (repeat (first | assumption | exact zup_s | refine zup_g (by decide) ?_))) ?_
  dsimp only [Option.toList, List.cons_append, List.nil_append]
  refine zb_eq (pc := 6) (tgt := 16) (by decide) dX7_trial_6 (fun q6 => ?_) (fun q6 => ?_)
  · exact zx_throw (pc := 16) (is := 138) (text := "no such road, time or part") hG rfl (by decide) dX7_trial_16 dX7_trial_19 dX7_trial_20 dX7_trial_22 dX7_trial_25 (by decide) (Nat.le_of_ble_eq_true rfl) (by decide) (by decide) (kx (fun q => by have := q.1; omega) h hK (fun _ _ => rfl))
  · refine zr_iload_n (pc := 9)  (i := 3) rfl rfl dX7_trial_9 ?_
    refine zc_call1 (pc := 10)  cs_X7_trial_135 (Nat.le_of_ble_eq_true rfl) (by decide) dX7_trial_10 ?_
    refine k_X7_isPart (by first | assumption | omega | (refine ⟨?_, ?_⟩ <;> omega) | rfl | (repeat (first | assumption | exact zup_s | refine zup_g (by decide) ?_))) ?_
    dsimp only [Option.toList, List.cons_append, List.nil_append]
    refine zb_ne (pc := 13) (tgt := 26) (by decide) dX7_trial_13 (fun q13 => ?_) (fun q13 => ?_)
    · exact go (by omega)
    · exact zx_throw (pc := 16) (is := 138) (text := "no such road, time or part") hG rfl (by decide) dX7_trial_16 dX7_trial_19 dX7_trial_20 dX7_trial_22 dX7_trial_25 (by decide) (Nat.le_of_ble_eq_true rfl) (by decide) (by decide) (kx (fun q => by have := q.1; omega) h hK (fun _ _ => rfl))
theorem k_X7_missing {PX : zH → Prop} {c t : Int} (hG : (zgl G).stackTraces = false) (hK : oK h now len tb rk rs rg gr num N bt bc bk be bn ap pl) (hc : iR c) (ht : iR t) (k1 : (0 ≤ c ∧ c < 8) ∧ 0 ≤ t → ∀ h', oK h' now len tb rk rs rg gr num N bt bc bk be bn ap pl → (∀ j, 37 < j → h' j = h j) → Post (some (vi (exZ (flowS (SA ap bc pl bt N t) rk gr) rs rg c 16))) n h') (kx : ¬ ((0 ≤ c ∧ c < 8) ∧ 0 ≤ t) → PX h) : zMX G mX7_missing [.ref 0, vi c, vi t] n h Post PX := by
  have hK' := hK
  obtain ⟨⟨g0, g1, g2, g3, g4, g5, g6, g7, g8, g9, g10, g11, g12, g13, g14⟩, ⟨i1, i2, i3, i4, i5, i6, i7, i8, i9, i10⟩, ⟨g16, ssz0, fnd0, tm0, wk0, mo0, to0, po0, wp0, sd0, sc0, pr0, sq0, fl0, db0, yu0, yl0, ⟨g15, -⟩, -⟩, ⟨g30, ⟨dv0, T0, ex0, pu0, b1, b2, b3, b4, b5, b6, b7⟩, u0, l0, g37⟩⟩ := hK'
  have hs50 : ∀ p, SA ap bc pl bt N t p ≤ 50 := fun p => (stO_R (hK.stO (t := t)) p).2
  refine zMX_of (by decide) [some _, some _, some _] (Nat.le_of_ble_eq_true rfl) rfl ?_
  refine zr_iload_n (pc := 0)  (i := 1) rfl rfl dX7_missing_0 ?_
  refine zr_bipush (pc := 1)  (by decide) dX7_missing_1 ?_
  refine zc_call2 (pc := 3)  cs_X7_missing_69 (Nat.le_of_ble_eq_true rfl) (by decide) dX7_missing_3 ?_
  refine k_X7_isBelow (by first | assumption | omega | (refine ⟨?_, ?_⟩ <;> omega) | rfl | (repeat (first | assumption | exact zup_s | refine zup_g (by decide) ?_))) (by first | assumption | omega | (refine ⟨?_, ?_⟩ <;> omega) | rfl | (repeat (first | assumption | exact zup_s | refine zup_g (by decide) ?_))) ?_
  dsimp only [Option.toList, List.cons_append, List.nil_append]
  refine zb_eq (pc := 6) (tgt := 13) (by decide) dX7_missing_6 (fun q6 => ?_) (fun q6 => ?_)
  · exact zx_throw (pc := 13) (is := 161) (text := "no such crossing or time") hG rfl (by decide) dX7_missing_13 dX7_missing_16 dX7_missing_17 dX7_missing_19 dX7_missing_22 (by decide) (Nat.le_of_ble_eq_true rfl) (by decide) (by decide) (kx (by omega))
  · refine zr_iload_n (pc := 9)  (i := 2) rfl rfl dX7_missing_9 ?_
    refine zr_if_ge (pc := 10)  (tgt := 23) ⟨by omega, by omega⟩ (by decide) dX7_missing_10 (fun q10 => ?_) (fun q10 => ?_)
    · refine zr_aload_n (pc := 23)  (i := 0) rfl rfl dX7_missing_23 ?_
      refine zr_get (pc := 24)  fl_X7_35 (by first | assumption | rfl | (repeat (first | assumption | exact zup_s | refine zup_g (by decide) ?_))) rfl dX7_missing_24 ?_
      refine zr_iload_n (pc := 27)  (i := 2) rfl rfl dX7_missing_27 ?_
      refine zv_call1 (pc := 28)  cv_X7_missing_104 (by first | assumption | rfl | (repeat (first | assumption | exact zup_s | refine zup_g (by decide) ?_))) ⟨_, rfl, rfl⟩ (Nat.le_of_ble_eq_true rfl) (by decide) dX7_missing_28 ?_
      refine k_look hK ht (by omega) (fun ssz fnd wk mo to po wp sd sc pr sq fl db yu yl hv hf hfl => ?_)
      dsimp only [Option.toList, List.cons_append, List.nil_append]
      refine zr_aload_n (pc := 31)  (i := 0) rfl rfl dX7_missing_31 ?_
      refine zr_get (pc := 32)  fl_X7_35 (by first | assumption | rfl | (repeat (first | assumption | exact zup_s | refine zup_g (by decide) ?_))) rfl dX7_missing_32 ?_
      refine zv_call0 (pc := 35)  cv_X7_missing_155 (by first | assumption | rfl | (repeat (first | assumption | exact zup_s | refine zup_g (by decide) ?_))) ⟨_, rfl, rfl⟩ (Nat.le_of_ble_eq_true rfl) (by decide) dX7_missing_35 ?_
      refine k_X6_findFlows g37 g3 g4 g16 (hK.stO (t := t)) i4 hv ht hf hfl (fun ssz sd sc pr sq fl db yu yl hfl => ?_)
      have hfin := k1 (by omega) _ (hK.view (ssz := ssz) (fnd := 1) (tm := t) (wk := wk) (mo := mo) (to := to) (po := po) (wp := wp) (sd := sd) (sc := sc) (pr := pr) (sq := sq) (fl := fl) (db := db) (yu := yu) (yl := yl) (vwI.mk' ht hv (Or.inr rfl) (fun _ => hfl))) (fun j hj => hV_hi (by omega))
      have hfr : ∀ r : Int, 0 ≤ r → r < 16 → fl r = flowS (SA ap bc pl bt N t) rk gr r := fun r a b => (hfl r a b).1.trans (fl_of hv ⟨a, b⟩).1
      dsimp only [Option.toList, List.cons_append, List.nil_append]
      refine zr_aload_n (pc := 38)  (i := 0) rfl rfl dX7_missing_38 ?_
      refine zr_iload_n (pc := 39)  (i := 1) rfl rfl dX7_missing_39 ?_
      refine zv_call1 (pc := 40)  cv_X7_missing_163 (by first | assumption | rfl | (repeat (first | assumption | exact zup_s | refine zup_g (by decide) ?_))) ⟨_, rfl, rfl⟩ (Nat.le_of_ble_eq_true rfl) (by decide) dX7_missing_40 ?_
      refine k_X7_excessAt g0 g3 g5 g6 rfl rfl (fun i a b => by rw [hfr i a b]; exact flowS_R hs50) i5 i6 hc ?_
      rw [exZ_congr (fl2 := flowS (SA ap bc pl bt N t) rk gr) (fun r a b => hfr r a b)]
      dsimp only [Option.toList, List.cons_append, List.nil_append]
      refine zx_ret ?_
      refine zr_ireturn (pc := 43)  rfl (by decide) (by decide) dX7_missing_43 ?_
      exact hfin
    · exact zx_throw (pc := 13) (is := 161) (text := "no such crossing or time") hG rfl (by decide) dX7_missing_13 dX7_missing_16 dX7_missing_17 dX7_missing_19 dX7_missing_22 (by decide) (Nat.le_of_ble_eq_true rfl) (by decide) (by decide) (kx (by omega))
end OFF
