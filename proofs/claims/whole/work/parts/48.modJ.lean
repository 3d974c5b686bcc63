/-! the reference's years -/
theorem sW_R {s rk gr : Int → Int} {r : Int} (hs : ∀ p, s p ≤ 50) (hw : wpP s rk gr r) : ∀ m : Nat, m ≤ 84 → 0 ≤ sumZ (dyS s r) m ∧ sumZ (dyS s r) m ≤ 4200 := fun m hm => by
  have := sumZ_R (f := dyS s r) (B := 50) m (fun x y z => ⟨hw.2 x y (by omega), hs _⟩)
  omega
theorem led_R {p q a : Int} (hp : 0 ≤ p ∧ p ≤ 2352000000) (hq : 0 < q ∧ q ≤ 158054400000000) (ha : 0 ≤ a ∧ a ≤ 16800) : (0 ≤ p / gz p q * a * a ∧ p / gz p q * a * a ≤ 663828480000000000) ∧ (0 < q / gz p q ∧ q / gz p q ≤ 158054400000000) := by
  have hg := gz_pos (a := p) hq.1
  have h1 : 0 ≤ p / gz p q ∧ p / gz p q ≤ 2352000000 := ⟨Int.ediv_nonneg hp.1 (by omega), Int.le_trans (Int.ediv_le_self _ hp.1) hp.2⟩
  have h2 := mulB h1 ha
  have h3 := mulB h2 ha
  exact ⟨h3, (rd_twice (a := a) hp.1 hq.1).1, Int.le_trans (Int.ediv_le_self _ (by omega)) hq.2⟩
section MOD
variable {G : zG} {n : Nat} {h : zH} {Post : Option Value → Nat → zH → Prop} {th len now al pm pd sq up lw : Int} {tb rk rs rg gr bt bc ek ap pl : Int → Int} {N : Nat}
variable {s sn iw : Int → Int}
theorem k_X8_yearOf {r : Int} {od0 fp0 fq0 bw0 bm0 : Int → Int} (m38 : h 38 = some (oMod th len N now al pm pd sq up lw)) (m44 : h 44 = some (aI 16 gr)) (m50 : h 50 = some (aI 1344 sn)) (m51 : h 51 = some (aZ 16 iw)) (hW : mW h bw0 bm0) (hF : mF h od0 fp0 fq0) (hl : lkS s rk gr sn iw) (hs : ∀ p, -3 ≤ s p ∧ s p ≤ 50) (i7 : ∀ i, -1 ≤ gr i ∧ gr i < 4) (hr : (0 ≤ r ∧ r < 16) ∧ rk r = 1) (kT : ∀ h' od fp fq bw bm al pm pd sq, yOS s rk gr r → frF h h' → h' 38 = some (oMod th len N now al pm pd sq (rdU (yTS s rk gr r) (yBS s rk gr r)) (rdL (yTS s rk gr r) (yBS s rk gr r))) → mW h' bw bm → mF h' od fp fq → (0 ≤ yTS s rk gr r ∧ yTS s rk gr r ≤ 663828480000000000) ∧ (0 < yBS s rk gr r ∧ yBS s rk gr r ≤ 158054400000000) → Post (some (vi 1)) n h') (kF : ∀ h' od fp fq bw bm al pm pd sq, ¬ yOS s rk gr r → frF h h' → h' 38 = some (oMod th len N now al pm pd sq up lw) → mW h' bw bm → mF h' od fp fq → Post (some (vi 0)) n h') : zMP G mX8_yearOf [.ref 38, vi r] n h Post := by
  have hwr := hl.2.1 r hr.1.1 hr.1.2
  have hzr := hl.2.2 r
  have hs50 : ∀ p, s p ≤ 50 := fun p => (hs p).2
  have hlm := lmS_R (s := s) (rk := rk) (gr := gr) (r := r)
  have hPQ : ∀ g, (0 ≤ PS s rk gr (dyS s r) (lmS s rk gr r) (-1) g ∧ PS s rk gr (dyS s r) (lmS s rk gr r) (-1) g ≤ 2352000000) ∧ (0 ≤ QS s rk gr (dyS s r) (lmS s rk gr r) (-1) g ∧ QS s rk gr (dyS s r) (lmS s rk gr r) (-1) g ≤ 158054400000000) := fun g => PQ_R hs50 hlm (fun d => hs50 _)
  have hTR : ∀ g, 0 ≤ TS s rk gr g (-1) ∧ TS s rk gr g (-1) ≤ 16800 := fun g => (S_R (rk := rk) (gr := gr) hs50 g (-1)).2.2.1
  have hWF := And.intro hW hF
  have lp : wpP s rk gr r → ∀ (k m : Nat) (v : Int), 84 - m ≤ k → m ≤ 84 → v = sumZ (dyS s r) m → zAW G mX8_yearOf zTT (zF G mX8_yearOf Post) 14 [some (.ref 38), some (vi r), some (vl v), none, some (vi m)] [] n h 0 0 := by
    intro hw k
    have eT : yTS s rk gr r = sumZ (dyS s r) 84 := if_pos hw
    have eB : yBS s rk gr r = 1 := if_pos hw
    have fin : ∀ v : Int, v = sumZ (dyS s r) 84 → Post (some (vi 1)) n (zup h 38 (oMod th len N now al pm pd sq (rdU v 1) (rdL v 1))) := fun v hv => by
      have h1 := sW_R hs50 hw 84 (by omega)
      refine kT _ od0 fp0 fq0 bw0 bm0 al pm pd sq (Or.inl hw) (fun j hj => zup_n (by omega)) (by rw [eT, eB, ← hv]; exact zup_s) hW hF ?_
      rw [eT, eB]
      omega
    clear eT eB
    induction k with
    | zero =>
      intro m v hk hm hT
      obtain rfl : m = 84 := by omega
      have h1 := sW_R hs50 hw 84 (by omega)
      rw [← hT] at h1
      refine zr_iload (pc := 14)  rfl dX8_yearOf_14 ?_
      refine zr_bipush (pc := 16)  (by decide) dX8_yearOf_16 ?_
      refine zr_icmp_ge (pc := 18)  (tgt := 43) ⟨by omega, by omega⟩ ⟨by omega, by omega⟩ (by decide) dX8_yearOf_18 (fun q18 => ?_) (fun q18 => ?_)
      · refine zr_aload_n (pc := 43)  (i := 0) rfl rfl dX8_yearOf_43 ?_
        refine zr_lload_n (pc := 44)  (i := 2) rfl rfl dX8_yearOf_44 ?_
        refine zr_lconst (pc := 45)  (z := 1) (by decide) dX8_yearOf_45 ?_
        refine zv_call2 (pc := 46)  cv_X8_yearOf_188 (by first | assumption | rfl | (repeat (first | assumption | exact zup_s | refine zup_g (by decide) ?_))) ⟨_, rfl, rfl⟩ (Nat.le_of_ble_eq_true rfl) (by decide) dX8_yearOf_46 ?_
        refine k_X8_set m38 (by omega) (by omega) ?_
        dsimp only [Option.toList, List.cons_append, List.nil_append]
        refine zr_iconst (pc := 49)  dX8_yearOf_49 ?_
        refine zr_zreturn (pc := 50)  rfl (by omega) (by decide) (by decide) dX8_yearOf_50 ?_
        exact fin v hT
      · exact absurd q18 (by omega)
    | succ k ih =>
      intro m v hk hm hT
      have h1 := sW_R hs50 hw m (by omega)
      rw [← hT] at h1
      have hsd := hs (r * 84 + m)
      have hsn : m < 84 → sn (84 * r + m) = s (r * 84 + m) := fun z => by rw [Int.mul_comm 84 r]; exact hl.1 (r * 84 + m) (by omega) (by omega) (by rw [show (r * 84 + (m : Int)) / 84 = r by omega]; exact hr.2)
      refine zr_iload (pc := 14)  rfl dX8_yearOf_14 ?_
      refine zr_bipush (pc := 16)  (by decide) dX8_yearOf_16 ?_
      refine zr_icmp_ge (pc := 18)  (tgt := 43) ⟨by omega, by omega⟩ ⟨by omega, by omega⟩ (by decide) dX8_yearOf_18 (fun q18 => ?_) (fun q18 => ?_)
      · refine zr_aload_n (pc := 43)  (i := 0) rfl rfl dX8_yearOf_43 ?_
        refine zr_lload_n (pc := 44)  (i := 2) rfl rfl dX8_yearOf_44 ?_
        refine zr_lconst (pc := 45)  (z := 1) (by decide) dX8_yearOf_45 ?_
        refine zv_call2 (pc := 46)  cv_X8_yearOf_188 (by first | assumption | rfl | (repeat (first | assumption | exact zup_s | refine zup_g (by decide) ?_))) ⟨_, rfl, rfl⟩ (Nat.le_of_ble_eq_true rfl) (by decide) dX8_yearOf_46 ?_
        refine k_X8_set m38 (by omega) (by omega) ?_
        dsimp only [Option.toList, List.cons_append, List.nil_append]
        refine zr_iconst (pc := 49)  dX8_yearOf_49 ?_
        refine zr_zreturn (pc := 50)  rfl (by omega) (by decide) (by decide) dX8_yearOf_50 ?_
        obtain rfl : m = 84 := by omega
        exact fin v hT
      · have hsn' := hsn (by omega)
        refine zr_lload_n (pc := 21)  (i := 2) rfl rfl dX8_yearOf_21 ?_
        refine zr_aload_n (pc := 22)  (i := 0) rfl rfl dX8_yearOf_22 ?_
        refine zr_get (pc := 23)  fl_X8_45 (by first | assumption | rfl | (repeat (first | assumption | exact zup_s | refine zup_g (by decide) ?_))) rfl dX8_yearOf_23 ?_
        refine zr_bipush (pc := 26)  (by decide) dX8_yearOf_26 ?_
        refine zr_iload_n (pc := 28)  (i := 1) rfl rfl dX8_yearOf_28 ?_
        refine zr_imul (pc := 29)  dX8_yearOf_29 ?_
        refine zr_iload (pc := 30)  rfl dX8_yearOf_30 ?_
        refine zr_iadd (pc := 32)  dX8_yearOf_32 ?_
        refine zr_iald (pc := 33)  (by first | assumption | rfl | (repeat (first | assumption | exact zup_s | refine zup_g (by decide) ?_))) ⟨by omega, by omega⟩ (by decide) dX8_yearOf_33 ?_
        refine zr_i2l (pc := 34)  ⟨by omega, by omega⟩ dX8_yearOf_34 ?_
        refine zr_ladd (pc := 35)  dX8_yearOf_35 ?_
        refine zs_lstore_n_2 (pc := 36)  (by first | exact zn_i | exact zn_r | exact zn_0) (by decide) dX8_yearOf_36 ?_
        refine zs_iinc_4 (pc := 37)  (by first | exact zn_i | exact zn_r | exact zn_0) (by decide) dX8_yearOf_37 ?_
        refine zr_goto (pc := 40)  (tgt := 14) (by decide) dX8_yearOf_40 ?_
        exact ih (m + 1) _ (by omega) (by omega) (by rw [hsn', hT]; rfl)
  refine zMP_of (by decide) [some _, some _, none, none, none] (Nat.le_of_ble_eq_true rfl) rfl ?_
  refine zr_aload_n (pc := 0)  (i := 0) rfl rfl dX8_yearOf_0 ?_
  refine zr_get (pc := 1)  fl_X8_48 (by first | assumption | rfl | (repeat (first | assumption | exact zup_s | refine zup_g (by decide) ?_))) rfl dX8_yearOf_1 ?_
  refine zr_iload_n (pc := 4)  (i := 1) rfl rfl dX8_yearOf_4 ?_
  refine zr_zald (pc := 5)  (by first | assumption | rfl | (repeat (first | assumption | exact zup_s | refine zup_g (by decide) ?_))) ⟨by omega, by omega⟩ (by decide) dX8_yearOf_5 ?_
  refine zr_if_eq (pc := 6)  (tgt := 51) ⟨by omega, by omega⟩ (by decide) dX8_yearOf_6 (fun q6 => ?_) (fun q6 => ?_)
  · refine zr_aload_n (pc := 51)  (i := 0) rfl rfl dX8_yearOf_51 ?_
    refine zr_iload_n (pc := 52)  (i := 1) rfl rfl dX8_yearOf_52 ?_
    refine zv_call1 (pc := 53)  cv_X8_yearOf_175 (by first | assumption | rfl | (repeat (first | assumption | exact zup_s | refine zup_g (by decide) ?_))) ⟨_, rfl, rfl⟩ (Nat.le_of_ble_eq_true rfl) (by decide) dX8_yearOf_53 ?_
    refine k_X8_fitAll m38 m44 m50 m51 hW hF hl hs i7 hr (fun h1 od fp fq bw bm al2 pm2 pd2 sq2 nn f1 f38 fW fF fJ ffp => ?_)
    have hod := od_rk fJ
    have hj1 := fJ.2.1 0 (by omega)
    have hn4 := fJ.1
    clear fJ
    dsimp only [Option.toList, List.cons_append, List.nil_append]
    refine zr_if_ne (pc := 56)  (tgt := 61) ⟨by omega, by omega⟩ (by decide) dX8_yearOf_56 (fun q56 => ?_) (fun q56 => ?_)
    · have hnw : ¬ wpP s rk gr r := fun z => by have := hwr.mpr z; omega
      have hfit : fitS s rk gr r 0 = od 0 := hod.1 0 (by omega) (by omega)
      clear hod
      have hj := hj1 (by omega)
      have e1 := ffp (od 0) hj.1.1 hj.1.2 hj.2
      have hPo := hPQ (od 0)
      have hQo := hj.2
      have hTo := hTR (od 0)
      have h0 := hj.1
      have eT : yTS s rk gr r = PS s rk gr (dyS s r) (lmS s rk gr r) (-1) (od 0) * (TS s rk gr (od 0) (-1) * TS s rk gr (od 0) (-1)) := (if_neg hnw).trans (by rw [hfit])
      have eB : yBS s rk gr r = QS s rk gr (dyS s r) (lmS s rk gr r) (-1) (od 0) := (if_neg hnw).trans (by rw [hfit])
      have hyo : yOS s rk gr r := Or.inr (by rw [hfit]; omega)
      have hTp : 0 < TS s rk gr (od 0) (-1) := Classical.byContradiction (fun z => by have := Q_no (f := dyS s r) (lim := lmS s rk gr r) hs50 z; omega)
      have hrt := rd_twice (p := PS s rk gr (dyS s r) (lmS s rk gr r) (-1) (od 0)) (q := QS s rk gr (dyS s r) (lmS s rk gr r) (-1) (od 0)) (a := TS s rk gr (od 0) (-1)) hPo.1.1 hQo
      have hlr := led_R hPo.1 ⟨hQo, hPo.2.2⟩ hTo
      have hyr : (0 ≤ yTS s rk gr r ∧ yTS s rk gr r ≤ 663828480000000000) ∧ (0 < yBS s rk gr r ∧ yBS s rk gr r ≤ 158054400000000) := by rw [eT, eB]; exact ⟨by have := mulB hPo.1 (mulB hTo hTo); omega, hQo, hPo.2.2⟩
      have hrt : rdU (PS s rk gr (dyS s r) (lmS s rk gr r) (-1) (od 0) / gz (PS s rk gr (dyS s r) (lmS s rk gr r) (-1) (od 0)) (QS s rk gr (dyS s r) (lmS s rk gr r) (-1) (od 0)) * TS s rk gr (od 0) (-1) * TS s rk gr (od 0) (-1)) (QS s rk gr (dyS s r) (lmS s rk gr r) (-1) (od 0) / gz (PS s rk gr (dyS s r) (lmS s rk gr r) (-1) (od 0)) (QS s rk gr (dyS s r) (lmS s rk gr r) (-1) (od 0))) = rdU (yTS s rk gr r) (yBS s rk gr r) ∧ rdL (PS s rk gr (dyS s r) (lmS s rk gr r) (-1) (od 0) / gz (PS s rk gr (dyS s r) (lmS s rk gr r) (-1) (od 0)) (QS s rk gr (dyS s r) (lmS s rk gr r) (-1) (od 0)) * TS s rk gr (od 0) (-1) * TS s rk gr (od 0) (-1)) (QS s rk gr (dyS s r) (lmS s rk gr r) (-1) (od 0) / gz (PS s rk gr (dyS s r) (lmS s rk gr r) (-1) (od 0)) (QS s rk gr (dyS s r) (lmS s rk gr r) (-1) (od 0))) = rdL (yTS s rk gr r) (yBS s rk gr r) := by rw [eT, eB]; exact hrt.2
      clear eT eB hfit
      generalize PS s rk gr (dyS s r) (lmS s rk gr r) (-1) (od 0) = P at *
      generalize QS s rk gr (dyS s r) (lmS s rk gr r) (-1) (od 0) = Q at *
      obtain ⟨e1, e2⟩ := e1
      obtain ⟨f54, f55, f56⟩ := fF
      refine zr_aload_n (pc := 61)  (i := 0) rfl rfl dX8_yearOf_61 ?_
      refine zr_aload_n (pc := 62)  (i := 0) rfl rfl dX8_yearOf_62 ?_
      refine zr_get (pc := 63)  fl_X8_58 (by first | assumption | rfl | (repeat (first | assumption | exact zup_s | refine zup_g (by decide) ?_))) rfl dX8_yearOf_63 ?_
      refine zr_iconst (pc := 66)  dX8_yearOf_66 ?_
      refine zr_iald (pc := 67)  (by first | assumption | rfl | (repeat (first | assumption | exact zup_s | refine zup_g (by decide) ?_))) ⟨by omega, by omega⟩ (by decide) dX8_yearOf_67 ?_
      refine zr_iconst (pc := 68)  dX8_yearOf_68 ?_
      clear hj1 ffp
      refine zv_call2 (pc := 69)  cv_X8_yearOf_147 (by first | assumption | rfl | (repeat (first | assumption | exact zup_s | refine zup_g (by decide) ?_))) ⟨_, rfl, rfl⟩ (Nat.le_of_ble_eq_true rfl) (by decide) dX8_yearOf_69 ?_
      refine k_X8_sums (sn := sn) (iw := iw) f38 ((f1 44 (by omega)).trans m44) ((f1 50 (by omega)).trans m50) ((f1 51 (by omega)).trans m51) fW.1 fW.2 hl hs i7 ⟨by omega, by omega⟩ ⟨by omega, by omega⟩ (fun bw2 bm2 _ _ => ?_) (fun _ _ _ z => absurd hTp z)
      dsimp only [Option.toList, List.cons_append, List.nil_append]
      refine zr_pop (pc := 72)  rfl dX8_yearOf_72 ?_
      refine zr_aload_n (pc := 73)  (i := 0) rfl rfl dX8_yearOf_73 ?_
      refine zr_get (pc := 74)  fl_X8_61 (by first | assumption | rfl | (repeat (first | assumption | exact zup_s | refine zup_g (by decide) ?_))) rfl dX8_yearOf_74 ?_
      refine zr_aload_n (pc := 77)  (i := 0) rfl rfl dX8_yearOf_77 ?_
      refine zr_get (pc := 78)  fl_X8_58 (by first | assumption | rfl | (repeat (first | assumption | exact zup_s | refine zup_g (by decide) ?_))) rfl dX8_yearOf_78 ?_
      refine zr_iconst (pc := 81)  dX8_yearOf_81 ?_
      refine zr_iald (pc := 82)  (by first | assumption | rfl | (repeat (first | assumption | exact zup_s | refine zup_g (by decide) ?_))) ⟨by omega, by omega⟩ (by decide) dX8_yearOf_82 ?_
      refine zr_lald (pc := 83)  (by first | assumption | rfl | (repeat (first | assumption | exact zup_s | refine zup_g (by decide) ?_))) ⟨by omega, by omega⟩ (by decide) dX8_yearOf_83 ?_
      refine zr_aload_n (pc := 84)  (i := 0) rfl rfl dX8_yearOf_84 ?_
      refine zr_get (pc := 85)  fl_X8_64 (by first | assumption | rfl | (repeat (first | assumption | exact zup_s | refine zup_g (by decide) ?_))) rfl dX8_yearOf_85 ?_
      refine zr_aload_n (pc := 88)  (i := 0) rfl rfl dX8_yearOf_88 ?_
      refine zr_get (pc := 89)  fl_X8_58 (by first | assumption | rfl | (repeat (first | assumption | exact zup_s | refine zup_g (by decide) ?_))) rfl dX8_yearOf_89 ?_
      refine zr_iconst (pc := 92)  dX8_yearOf_92 ?_
      refine zr_iald (pc := 93)  (by first | assumption | rfl | (repeat (first | assumption | exact zup_s | refine zup_g (by decide) ?_))) ⟨by omega, by omega⟩ (by decide) dX8_yearOf_93 ?_
      refine zr_lald (pc := 94)  (by first | assumption | rfl | (repeat (first | assumption | exact zup_s | refine zup_g (by decide) ?_))) ⟨by omega, by omega⟩ (by decide) dX8_yearOf_94 ?_
      rw [e1, e2]
      refine zc_call2 (pc := 95)  cs_X8_yearOf_178 (Nat.le_of_ble_eq_true rfl) (by decide) dX8_yearOf_95 ?_
      refine k_X8_common ⟨by omega, by omega⟩ ⟨by omega, by omega⟩ ?_
      rw [show absZ P = P from if_neg (by omega)]
      have hgp := gz_pos (a := P) hQo
      have hgl := gz_le (a := P) hQo
      dsimp only [Option.toList, List.cons_append, List.nil_append]
      refine zs_lstore_n_2 (pc := 98)  (by first | exact zn_i | exact zn_r | exact zn_0) (by decide) dX8_yearOf_98 ?_
      refine zr_aload_n (pc := 99)  (i := 0) rfl rfl dX8_yearOf_99 ?_
      refine zr_aload_n (pc := 100)  (i := 0) rfl rfl dX8_yearOf_100 ?_
      refine zr_get (pc := 101)  fl_X8_61 (by first | assumption | rfl | (repeat (first | assumption | exact zup_s | refine zup_g (by decide) ?_))) rfl dX8_yearOf_101 ?_
      refine zr_aload_n (pc := 104)  (i := 0) rfl rfl dX8_yearOf_104 ?_
      refine zr_get (pc := 105)  fl_X8_58 (by first | assumption | rfl | (repeat (first | assumption | exact zup_s | refine zup_g (by decide) ?_))) rfl dX8_yearOf_105 ?_
      refine zr_iconst (pc := 108)  dX8_yearOf_108 ?_
      refine zr_iald (pc := 109)  (by first | assumption | rfl | (repeat (first | assumption | exact zup_s | refine zup_g (by decide) ?_))) ⟨by omega, by omega⟩ (by decide) dX8_yearOf_109 ?_
      refine zr_lald (pc := 110)  (by first | assumption | rfl | (repeat (first | assumption | exact zup_s | refine zup_g (by decide) ?_))) ⟨by omega, by omega⟩ (by decide) dX8_yearOf_110 ?_
      refine zr_lload_n (pc := 111)  (i := 2) rfl rfl dX8_yearOf_111 ?_
      rw [e1]
      refine zr_ldivN (pc := 112)  ⟨by omega, by omega⟩ ⟨by omega, by omega⟩ dX8_yearOf_112 ?_
      refine zr_aload_n (pc := 113)  (i := 0) rfl rfl dX8_yearOf_113 ?_
      refine zr_get (pc := 114)  fl_X8_137 (by first | assumption | rfl | (repeat (first | assumption | exact zup_s | refine zup_g (by decide) ?_))) rfl dX8_yearOf_114 ?_
      refine zr_lmul (pc := 117)  dX8_yearOf_117 ?_
      refine zr_aload_n (pc := 118)  (i := 0) rfl rfl dX8_yearOf_118 ?_
      refine zr_get (pc := 119)  fl_X8_137 (by first | assumption | rfl | (repeat (first | assumption | exact zup_s | refine zup_g (by decide) ?_))) rfl dX8_yearOf_119 ?_
      refine zr_lmul (pc := 122)  dX8_yearOf_122 ?_
      refine zr_aload_n (pc := 123)  (i := 0) rfl rfl dX8_yearOf_123 ?_
      refine zr_get (pc := 124)  fl_X8_64 (by first | assumption | rfl | (repeat (first | assumption | exact zup_s | refine zup_g (by decide) ?_))) rfl dX8_yearOf_124 ?_
      refine zr_aload_n (pc := 127)  (i := 0) rfl rfl dX8_yearOf_127 ?_
      refine zr_get (pc := 128)  fl_X8_58 (by first | assumption | rfl | (repeat (first | assumption | exact zup_s | refine zup_g (by decide) ?_))) rfl dX8_yearOf_128 ?_
      refine zr_iconst (pc := 131)  dX8_yearOf_131 ?_
      refine zr_iald (pc := 132)  (by first | assumption | rfl | (repeat (first | assumption | exact zup_s | refine zup_g (by decide) ?_))) ⟨by omega, by omega⟩ (by decide) dX8_yearOf_132 ?_
      refine zr_lald (pc := 133)  (by first | assumption | rfl | (repeat (first | assumption | exact zup_s | refine zup_g (by decide) ?_))) ⟨by omega, by omega⟩ (by decide) dX8_yearOf_133 ?_
      refine zr_lload_n (pc := 134)  (i := 2) rfl rfl dX8_yearOf_134 ?_
      rw [e2]
      refine zr_ldivN (pc := 135)  ⟨by omega, by omega⟩ ⟨by omega, by omega⟩ dX8_yearOf_135 ?_
      refine zv_call2 (pc := 136)  cv_X8_yearOf_188 (by first | assumption | rfl | (repeat (first | assumption | exact zup_s | refine zup_g (by decide) ?_))) ⟨_, rfl, rfl⟩ (Nat.le_of_ble_eq_true rfl) (by decide) dX8_yearOf_136 ?_
      refine k_X8_set rfl (by omega) (by omega) ?_
      dsimp only [Option.toList, List.cons_append, List.nil_append]
      refine zr_iconst (pc := 139)  dX8_yearOf_139 ?_
      refine zr_zreturn (pc := 140)  rfl (by omega) (by decide) (by decide) dX8_yearOf_140 ?_
      exact kT _ od fp fq bw2 bm2 (TS s rk gr (od 0) (-1)) (CS s rk gr (od 0) (-1)) pd2 sq2 hyo (fun j hj => by rw [zup_n (by omega), hU_fr (by omega)]; exact f1 j hj) (by rw [← hrt.1, ← hrt.2]; exact zup_s) ⟨rfl, rfl⟩ ⟨f54, f55, f56⟩ hyr
    · refine zr_iconst (pc := 59)  dX8_yearOf_59 ?_
      refine zr_zreturn (pc := 60)  rfl (by omega) (by decide) (by decide) dX8_yearOf_60 ?_
      exact kF h1 od fp fq bw bm al2 pm2 pd2 sq2 (fun z => by rcases z with z | z; (have := hwr.mpr z; omega); exact z (hod.2 0 (by omega))) f1 f38 fW fF
  · refine zr_lconst (pc := 9)  (z := 0) (by decide) dX8_yearOf_9 ?_
    refine zs_lstore_n_2 (pc := 10)  (by first | exact zn_i | exact zn_r | exact zn_0) (by decide) dX8_yearOf_10 ?_
    refine zr_iconst (pc := 11)  dX8_yearOf_11 ?_
    refine zs_istore_4 (pc := 12)  (by first | exact zn_i | exact zn_r | exact zn_0) (by decide) dX8_yearOf_12 ?_
    exact lp (hwr.mp (by omega)) 84 0 0 (by omega) (by omega) rfl
end MOD
section MOD2
variable {G : zG} {n : Nat} {h : zH} {Post : Option Value → Nat → zH → Prop} {th len now num : Int} {tb rk rs rg gr bt bc bk be bn ap pl : Int → Int} {N : Nat}
theorem k_X8_begins {r t : Int} (hM : mK h th now len tb rk rs rg gr N bt bc bk ap pl) (hI : oI now len tb rk rs rg gr num N bt bc be bn ap pl) (hr : iR r) (ht : iR t) (kT : ∀ sn iw, ((0 ≤ r ∧ r < 16) ∧ rk r = 1) ∧ 0 ≤ t → lkS (SA ap bc pl bt N t) rk gr sn iw → Post (some (vi 1)) n (zup (zup h 50 (aI 1344 sn)) 51 (aZ 16 iw))) (kF : ¬ (((0 ≤ r ∧ r < 16) ∧ rk r = 1) ∧ 0 ≤ t) → Post (some (vi 0)) n h) : zMP G mX8_begins [.ref 38, vi r, vi t] n h Post := by
  obtain ⟨i1, i2, i3, i4, i5, i6, i7, i8, i9, ⟨j1, j2, j3, j4, j5⟩⟩ := hI
  have hM' := hM
  obtain ⟨⟨al, pm, pd, sq, up, lw, m38⟩, ⟨ek, ⟨m39, m40, m41, m42, m43, m44, m45, m46, m47, m48, m49⟩, hE⟩, ⟨⟨sn0, iw0, ⟨m50, m51⟩, hz⟩, ⟨bw0, bm0, m52, m53⟩, ⟨od0, fp0, fq0, m54, m55, m56⟩, ⟨fl0, db0, m57, m58⟩, -⟩, hp⟩ := hM
  have hs := SA_R (ap := ap) (pl := pl) (bt := bt) (N := N) j2 t
  have hs50 : ∀ p, SA ap bc pl bt N t p ≤ 50 := fun p => (hs p).2
  have hK1 : ∀ x : Int, mK (zup h 38 (oMod x len N now al pm pd sq up lw)) x now len tb rk rs rg gr N bt bc bk ap pl := fun x => mK_V hM' rfl (fun j hj => by rw [zup_n (by omega)]) ⟨m50, m51⟩ hz ⟨m52, m53⟩ ⟨m54, m55, m56⟩ ⟨m57, m58⟩
  refine zMP_of (by decide) [some _, some _, some _] (Nat.le_of_ble_eq_true rfl) rfl ?_
  refine zr_aload_n (pc := 0)  (i := 0) rfl rfl dX8_begins_0 ?_
  refine zr_iload_n (pc := 1)  (i := 1) rfl rfl dX8_begins_1 ?_
  refine zv_call1 (pc := 2)  cv_X8_begins_112 (by first | assumption | rfl | (repeat (first | assumption | exact zup_s | refine zup_g (by decide) ?_))) ⟨_, rfl, rfl⟩ (Nat.le_of_ble_eq_true rfl) (by decide) dX8_begins_2 ?_
  refine k_X8_isRoad (by first | assumption | omega | (refine ⟨?_, ?_⟩ <;> omega) | rfl | (repeat (first | assumption | exact zup_s | refine zup_g (by decide) ?_))) (by first | assumption | omega | (refine ⟨?_, ?_⟩ <;> omega) | rfl | (repeat (first | assumption | exact zup_s | refine zup_g (by decide) ?_))) (by first | assumption | omega | (refine ⟨?_, ?_⟩ <;> omega) | rfl | (repeat (first | assumption | exact zup_s | refine zup_g (by decide) ?_))) (by first | assumption | omega | (refine ⟨?_, ?_⟩ <;> omega) | rfl | (repeat (first | assumption | exact zup_s | refine zup_g (by decide) ?_))) ?_
  dsimp only [Option.toList, List.cons_append, List.nil_append]
  refine zb_eq (pc := 5) (tgt := 12) (by decide) dX8_begins_5 (fun q5 => ?_) (fun q5 => ?_)
  · refine zr_iconst (pc := 12)  dX8_begins_12 ?_
    refine zr_zreturn (pc := 13)  rfl (by omega) (by decide) (by decide) dX8_begins_13 ?_
    exact kF (by omega)
  · refine zr_iload_n (pc := 8)  (i := 2) rfl rfl dX8_begins_8 ?_
    refine zr_if_ge (pc := 9)  (tgt := 14) ⟨by omega, by omega⟩ (by decide) dX8_begins_9 (fun q9 => ?_) (fun q9 => ?_)
    · refine zr_aload_n (pc := 14)  (i := 0) rfl rfl dX8_begins_14 ?_
      refine zr_iload_n (pc := 15)  (i := 2) rfl rfl dX8_begins_15 ?_
      refine zv_call1 (pc := 16)  cv_X8_begins_134 (by first | assumption | rfl | (repeat (first | assumption | exact zup_s | refine zup_g (by decide) ?_))) ⟨_, rfl, rfl⟩ (Nat.le_of_ble_eq_true rfl) (by decide) dX8_begins_16 ?_
      refine k_X8_lookUp m38 m40 m41 m44 m45 m46 m47 m48 m50 m51 hz i4 i7 j5 hp j1 j2 j3 ht (fun sn iw hl => ?_)
      dsimp only [Option.toList, List.cons_append, List.nil_append]
      refine zr_iconst (pc := 19)  dX8_begins_19 ?_
      refine zr_zreturn (pc := 20)  rfl (by omega) (by decide) (by decide) dX8_begins_20 ?_
      exact kT sn iw (by omega) hl
    · refine zr_iconst (pc := 12)  dX8_begins_12 ?_
      refine zr_zreturn (pc := 13)  rfl (by omega) (by decide) (by decide) dX8_begins_13 ?_
      exact kF (by omega)
theorem k_X8_year {r t w : Int} (hM : mK h th now len tb rk rs rg gr N bt bc bk ap pl) (hI : oI now len tb rk rs rg gr num N bt bc be bn ap pl) (hr : iR r) (ht : iR t) (hw : iR w) (k1 : (((0 ≤ r ∧ r < 16) ∧ rk r = 1) ∧ 0 ≤ t) ∧ (w = 0 ∨ w = 1) → yOS (SA ap bc pl bt N t) rk gr r → ∀ h', mK h' 0 now len tb rk rs rg gr N bt bc bk ap pl → (∀ j, j < 38 ∨ 64 < j → h' j = h j) → Post (some (vl (if w = 0 then rdU (yTS (SA ap bc pl bt N t) rk gr r) (yBS (SA ap bc pl bt N t) rk gr r) else rdL (yTS (SA ap bc pl bt N t) rk gr r) (yBS (SA ap bc pl bt N t) rk gr r)))) n h') (kx : ¬ (((((0 ≤ r ∧ r < 16) ∧ rk r = 1) ∧ 0 ≤ t) ∧ (w = 0 ∨ w = 1)) ∧ yOS (SA ap bc pl bt N t) rk gr r) → ∀ h', mK h' 1 now len tb rk rs rg gr N bt bc bk ap pl → (∀ j, j < 38 ∨ 64 < j → h' j = h j) → Post (some (vl 0)) n h') : zMP G mX8_year [.ref 38, vi r, vi t, vi w] n h Post := by
  have hI' := hI
  obtain ⟨i1, i2, i3, i4, i5, i6, i7, i8, i9, ⟨j1, j2, j3, j4, j5⟩⟩ := hI
  have hM' := hM
  obtain ⟨⟨al, pm, pd, sq, up, lw, m38⟩, ⟨ek, ⟨m39, m40, m41, m42, m43, m44, m45, m46, m47, m48, m49⟩, hE⟩, ⟨⟨sn0, iw0, ⟨m50, m51⟩, hz⟩, ⟨bw0, bm0, m52, m53⟩, ⟨od0, fp0, fq0, m54, m55, m56⟩, ⟨fl0, db0, m57, m58⟩, -⟩, hp⟩ := hM
  have hs := SA_R (ap := ap) (pl := pl) (bt := bt) (N := N) j2 t
  have hs50 : ∀ p, SA ap bc pl bt N t p ≤ 50 := fun p => (hs p).2
  have hK1 : ∀ x : Int, mK (zup h 38 (oMod x len N now al pm pd sq up lw)) x now len tb rk rs rg gr N bt bc bk ap pl := fun x => mK_V hM' rfl (fun j hj => by rw [zup_n (by omega)]) ⟨m50, m51⟩ hz ⟨m52, m53⟩ ⟨m54, m55, m56⟩ ⟨m57, m58⟩
  have hK2 : ∀ (sn iw : Int → Int), lkS (SA ap bc pl bt N t) rk gr sn iw → ∀ x : Int, mK (zup (zup (zup h 50 (aI 1344 sn)) 51 (aZ 16 iw)) 38 (oMod x len N now al pm pd sq up lw)) x now len tb rk rs rg gr N bt bc bk ap pl := fun sn iw hl x => mK_V hM' rfl (fun j hj => by (repeat rw [zup_n (by omega)])) ⟨rfl, rfl⟩ hl.2.2 ⟨m52, m53⟩ ⟨m54, m55, m56⟩ ⟨m57, m58⟩
  have hK3 : ∀ (sn iw : Int → Int) (h1 : zH) (od fp fq bw bm : Int → Int) (al pm pd sq up lw : Int), lkS (SA ap bc pl bt N t) rk gr sn iw → frF (zup (zup h 50 (aI 1344 sn)) 51 (aZ 16 iw)) h1 → mW h1 bw bm → mF h1 od fp fq → ∀ x : Int, mK (zup h1 38 (oMod x len N now al pm pd sq up lw)) x now len tb rk rs rg gr N bt bc bk ap pl ∧ (∀ j, j < 38 ∨ 64 < j → zup h1 38 (oMod x len N now al pm pd sq up lw) j = h j) := fun sn iw h1 od fp fq bw bm al pm pd sq up lw hl f1 fW fF x => ⟨mK_V hM' zup_s (fun j hj => by rw [zup_n (by omega), f1 j (by omega), zup_n (by omega), zup_n (by omega)]) ⟨(f1 50 (by omega)).trans rfl, (f1 51 (by omega)).trans rfl⟩ hl.2.2 fW fF ⟨(f1 57 (by omega)).trans m57, (f1 58 (by omega)).trans m58⟩, fun j hj => by rw [zup_n (by omega), f1 j (by omega), zup_n (by omega), zup_n (by omega)]⟩
  refine zMP_of (by decide) [some _, some _, some _, some _] (Nat.le_of_ble_eq_true rfl) rfl ?_
  refine zr_aload_n (pc := 0)  (i := 0) rfl rfl dX8_year_0 ?_
  refine zr_iload_n (pc := 1)  (i := 3) rfl rfl dX8_year_1 ?_
  refine zc_call1 (pc := 2)  cs_X8_year_192 (Nat.le_of_ble_eq_true rfl) (by decide) dX8_year_2 ?_
  refine k_X8_isWhat hw ?_
  dsimp only [Option.toList, List.cons_append, List.nil_append]
  refine zb_eq (pc := 5) (tgt := 25) (by decide) dX8_year_5 (fun q5 => ?_) (fun q5 => ?_)
  · refine zr_iconst (pc := 25)  dX8_year_25 ?_
    refine zr_goto (pc := 26)  (tgt := 30) (by decide) dX8_year_26 ?_
    refine zv_call1 (pc := 30)  cv_X8_year_151 (by first | assumption | rfl | (repeat (first | assumption | exact zup_s | refine zup_g (by decide) ?_))) ⟨_, rfl, rfl⟩ (Nat.le_of_ble_eq_true rfl) (by decide) dX8_year_30 ?_
    refine k_X8_throwsIf (by first | assumption | omega | (refine ⟨?_, ?_⟩ <;> omega) | rfl | (repeat (first | assumption | exact zup_s | refine zup_g (by decide) ?_))) (by decide) ?_
    dsimp only [Option.toList, List.cons_append, List.nil_append]
    refine zk_eq1 (pc := 33) (tgt := 38) dX8_year_33 (by decide) ?_
    refine zr_lconst (pc := 36)  (z := 0) (by decide) dX8_year_36 ?_
    refine zr_lreturn (pc := 37)  rfl (by decide) (by decide) dX8_year_37 ?_
    first | exact kx (fun z => q5 z.1.2) _ (hK1 1) (fun j hj => by (repeat rw [zup_n (by omega)])) | exact kx (fun z => c11 z.1.1) _ (hK1 1) (fun j hj => by (repeat rw [zup_n (by omega)])) | exact kx (fun z => c19_10 z.2) _ (hK3 _ _ c19 _ _ _ _ _ _ _ _ _ _ _ c11_3 c19_11 c19_13 c19_14 1).1 (hK3 _ _ c19 _ _ _ _ _ _ _ _ _ _ _ c11_3 c19_11 c19_13 c19_14 1).2
  · refine zr_aload_n (pc := 8)  (i := 0) rfl rfl dX8_year_8 ?_
    refine zr_iload_n (pc := 9)  (i := 1) rfl rfl dX8_year_9 ?_
    refine zr_iload_n (pc := 10)  (i := 2) rfl rfl dX8_year_10 ?_
    refine zv_call2 (pc := 11)  cv_X8_year_195 (by first | assumption | rfl | (repeat (first | assumption | exact zup_s | refine zup_g (by decide) ?_))) ⟨_, rfl, rfl⟩ (Nat.le_of_ble_eq_true rfl) (by decide) dX8_year_11 ?_
    refine k_X8_begins (hM') (hI') (by first | assumption | omega | (refine ⟨?_, ?_⟩ <;> omega) | rfl | (repeat (first | assumption | exact zup_s | refine zup_g (by decide) ?_))) (by first | assumption | omega | (refine ⟨?_, ?_⟩ <;> omega) | rfl | (repeat (first | assumption | exact zup_s | refine zup_g (by decide) ?_))) (fun c11 c11_1 c11_2 c11_3 => ?_) (fun c11 => ?_)
    · dsimp only [Option.toList, List.cons_append, List.nil_append]
      refine zk_eq1 (pc := 14) (tgt := 25) dX8_year_14 (by decide) ?_
      refine zr_aload_n (pc := 17)  (i := 0) rfl rfl dX8_year_17 ?_
      refine zr_iload_n (pc := 18)  (i := 1) rfl rfl dX8_year_18 ?_
      refine zv_call1 (pc := 19)  cv_X8_year_198 (by first | assumption | rfl | (repeat (first | assumption | exact zup_s | refine zup_g (by decide) ?_))) ⟨_, rfl, rfl⟩ (Nat.le_of_ble_eq_true rfl) (by decide) dX8_year_19 ?_
      refine k_X8_yearOf (m38) (m44) (rfl) (rfl) (⟨m52, m53⟩) (⟨m54, m55, m56⟩) (c11_3) (hs) (by first | assumption | omega | (refine ⟨?_, ?_⟩ <;> omega) | rfl | (repeat (first | assumption | exact zup_s | refine zup_g (by decide) ?_))) (by omega) (fun c19 c19_1 c19_2 c19_3 c19_4 c19_5 c19_6 c19_7 c19_8 c19_9 c19_10 c19_11 c19_12 c19_13 c19_14 c19_15 => ?_) (fun c19 c19_1 c19_2 c19_3 c19_4 c19_5 c19_6 c19_7 c19_8 c19_9 c19_10 c19_11 c19_12 c19_13 c19_14 => ?_)
      · dsimp only [Option.toList, List.cons_append, List.nil_append]
        refine zk_ne1 (pc := 22) (tgt := 29) (by decide) dX8_year_22 ?_
        refine zr_iconst (pc := 29)  dX8_year_29 ?_
        refine zv_call1 (pc := 30)  cv_X8_year_151 (by first | assumption | rfl | (repeat (first | assumption | exact zup_s | refine zup_g (by decide) ?_))) ⟨_, rfl, rfl⟩ (Nat.le_of_ble_eq_true rfl) (by decide) dX8_year_30 ?_
        refine k_X8_throwsIf (by first | assumption | omega | (refine ⟨?_, ?_⟩ <;> omega) | rfl | (repeat (first | assumption | exact zup_s | refine zup_g (by decide) ?_))) (by decide) ?_
        dsimp only [Option.toList, List.cons_append, List.nil_append]
        refine zk_eq0 (pc := 33) (tgt := 38) (by decide) dX8_year_33 ?_
        have k2 := k1 ⟨c11_2, q5⟩ c19_10 _ (hK3 c11 c11_1 c19 c19_1 c19_2 c19_3 c19_4 c19_5 c19_6 c19_7 c19_8 c19_9 (rdU (yTS (SA ap bc pl bt N t) rk gr r) (yBS (SA ap bc pl bt N t) rk gr r)) (rdL (yTS (SA ap bc pl bt N t) rk gr r) (yBS (SA ap bc pl bt N t) rk gr r)) c11_3 c19_11 c19_13 c19_14 0).1 (hK3 c11 c11_1 c19 c19_1 c19_2 c19_3 c19_4 c19_5 c19_6 c19_7 c19_8 c19_9 (rdU (yTS (SA ap bc pl bt N t) rk gr r) (yBS (SA ap bc pl bt N t) rk gr r)) (rdL (yTS (SA ap bc pl bt N t) rk gr r) (yBS (SA ap bc pl bt N t) rk gr r)) c11_3 c19_11 c19_13 c19_14 0).2
        refine zr_iload_n (pc := 38)  (i := 3) rfl rfl dX8_year_38 ?_
        refine zr_if_ne (pc := 39)  (tgt := 49) ⟨by omega, by omega⟩ (by decide) dX8_year_39 (fun q39 => ?_) (fun q39 => ?_)
        · refine zr_aload_n (pc := 49)  (i := 0) rfl rfl dX8_year_49 ?_
          refine zr_get (pc := 50)  fl_X8_185 (by first | assumption | rfl | (repeat (first | assumption | exact zup_s | refine zup_g (by decide) ?_))) rfl dX8_year_50 ?_
          refine zr_lreturn (pc := 53)  rfl (by decide) (by decide) dX8_year_53 ?_
          first | (rw [if_pos (by omega)] at k2; exact k2) | (rw [if_neg (by omega)] at k2; exact k2)
        · refine zr_aload_n (pc := 42)  (i := 0) rfl rfl dX8_year_42 ?_
          refine zr_get (pc := 43)  fl_X8_182 (by first | assumption | rfl | (repeat (first | assumption | exact zup_s | refine zup_g (by decide) ?_))) rfl dX8_year_43 ?_
          refine zr_goto (pc := 46)  (tgt := 53) (by decide) dX8_year_46 ?_
          refine zr_lreturn (pc := 53)  rfl (by decide) (by decide) dX8_year_53 ?_
          first | (rw [if_pos (by omega)] at k2; exact k2) | (rw [if_neg (by omega)] at k2; exact k2)
      · dsimp only [Option.toList, List.cons_append, List.nil_append]
        refine zk_ne0 (pc := 22) (tgt := 29) dX8_year_22 (by decide) ?_
        refine zr_iconst (pc := 25)  dX8_year_25 ?_
        refine zr_goto (pc := 26)  (tgt := 30) (by decide) dX8_year_26 ?_
        refine zv_call1 (pc := 30)  cv_X8_year_151 (by first | assumption | rfl | (repeat (first | assumption | exact zup_s | refine zup_g (by decide) ?_))) ⟨_, rfl, rfl⟩ (Nat.le_of_ble_eq_true rfl) (by decide) dX8_year_30 ?_
        refine k_X8_throwsIf (by first | assumption | omega | (refine ⟨?_, ?_⟩ <;> omega) | rfl | (repeat (first | assumption | exact zup_s | refine zup_g (by decide) ?_))) (by decide) ?_
        dsimp only [Option.toList, List.cons_append, List.nil_append]
        refine zk_eq1 (pc := 33) (tgt := 38) dX8_year_33 (by decide) ?_
        refine zr_lconst (pc := 36)  (z := 0) (by decide) dX8_year_36 ?_
        refine zr_lreturn (pc := 37)  rfl (by decide) (by decide) dX8_year_37 ?_
        first | exact kx (fun z => q5 z.1.2) _ (hK1 1) (fun j hj => by (repeat rw [zup_n (by omega)])) | exact kx (fun z => c11 z.1.1) _ (hK1 1) (fun j hj => by (repeat rw [zup_n (by omega)])) | exact kx (fun z => c19_10 z.2) _ (hK3 _ _ c19 _ _ _ _ _ _ _ _ _ _ _ c11_3 c19_11 c19_13 c19_14 1).1 (hK3 _ _ c19 _ _ _ _ _ _ _ _ _ _ _ c11_3 c19_11 c19_13 c19_14 1).2
    · dsimp only [Option.toList, List.cons_append, List.nil_append]
      refine zk_eq0 (pc := 14) (tgt := 25) (by decide) dX8_year_14 ?_
      refine zr_iconst (pc := 25)  dX8_year_25 ?_
      refine zr_goto (pc := 26)  (tgt := 30) (by decide) dX8_year_26 ?_
      refine zv_call1 (pc := 30)  cv_X8_year_151 (by first | assumption | rfl | (repeat (first | assumption | exact zup_s | refine zup_g (by decide) ?_))) ⟨_, rfl, rfl⟩ (Nat.le_of_ble_eq_true rfl) (by decide) dX8_year_30 ?_
      refine k_X8_throwsIf (by first | assumption | omega | (refine ⟨?_, ?_⟩ <;> omega) | rfl | (repeat (first | assumption | exact zup_s | refine zup_g (by decide) ?_))) (by decide) ?_
      dsimp only [Option.toList, List.cons_append, List.nil_append]
      refine zk_eq1 (pc := 33) (tgt := 38) dX8_year_33 (by decide) ?_
      refine zr_lconst (pc := 36)  (z := 0) (by decide) dX8_year_36 ?_
      refine zr_lreturn (pc := 37)  rfl (by decide) (by decide) dX8_year_37 ?_
      first | exact kx (fun z => q5 z.1.2) _ (hK1 1) (fun j hj => by (repeat rw [zup_n (by omega)])) | exact kx (fun z => c11 z.1.1) _ (hK1 1) (fun j hj => by (repeat rw [zup_n (by omega)])) | exact kx (fun z => c19_10 z.2) _ (hK3 _ _ c19 _ _ _ _ _ _ _ _ _ _ _ c11_3 c19_11 c19_13 c19_14 1).1 (hK3 _ _ c19 _ _ _ _ _ _ _ _ _ _ _ c11_3 c19_11 c19_13 c19_14 1).2
end MOD2
