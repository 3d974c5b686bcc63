section MOD
variable {G : zG} {n : Nat} {h : zH} {Post : Option Value → Nat → zH → Prop} {th len now al pm pd sq up lw : Int} {tb rk rs rg gr bt bc ek ap pl : Int → Int} {N : Nat}
variable {s sn iw bw bm : Int → Int}
theorem k_X8_fits {r c : Int} (m38 : h 38 = some (oMod th len N now al pm pd sq up lw)) (m50 : h 50 = some (aI 1344 sn)) (m52 : h 52 = some (aJ 7 bw)) (m53 : h 53 = some (aJ 12 bm)) (hl : lkS s rk gr sn iw) (hs : ∀ p, -3 ≤ s p ∧ s p ≤ 50) (hr : (0 ≤ r ∧ r < 16) ∧ rk r = 1) (hc : 0 ≤ c ∧ c ≤ 14) (hbw : ∀ i, 0 ≤ i → i < 7 → 0 ≤ bw i ∧ bw i ≤ 2400) (hbm : ∀ i, 0 ≤ i → i < 12 → 0 ≤ bm i ∧ bm i ≤ 1400) (kT : 0 < sumD (dyS s r) c (fun d => bw (d % 7) * bm (d / 7) * (bw (d % 7) * bm (d / 7))) 84 → Post (some (vi 1)) n (zup h 38 (oMod th len N now al pm (sumD (dyS s r) c (fun d => bw (d % 7) * bm (d / 7) * dyS s r d) 84) (sumD (dyS s r) c (fun d => bw (d % 7) * bm (d / 7) * (bw (d % 7) * bm (d / 7))) 84) up lw))) (kF : ¬ 0 < sumD (dyS s r) c (fun d => bw (d % 7) * bm (d / 7) * (bw (d % 7) * bm (d / 7))) 84 → Post (some (vi 0)) n (zup h 38 (oMod th len N now al pm (sumD (dyS s r) c (fun d => bw (d % 7) * bm (d / 7) * dyS s r d) 84) (sumD (dyS s r) c (fun d => bw (d % 7) * bm (d / 7) * (bw (d % 7) * bm (d / 7))) 84) up lw))) : zMP G mX8_fits [.ref 38, vi r, vi c] n h Post := by
  have hv : ∀ d : Int, 0 ≤ d → d < 84 → 0 ≤ bw (d % 7) * bm (d / 7) ∧ bw (d % 7) * bm (d / 7) ≤ 3360000 := fun d a b => mulB (hbw _ (by omega) (by omega)) (hbm _ (by omega) (by omega))
  have hQ := sumD_bd (f := dyS s r) (lim := c) (F := fun d => bw (d % 7) * bm (d / 7) * (bw (d % 7) * bm (d / 7))) (B := 11289600000000) (by omega) hc.1 84 (fun j a b _ => mulB (hv j a (by omega)) (hv j a (by omega)))
  have hcc := cnD_R (dyS s r) hc.1 84
  have fin : ∀ (P Q : Int) (lo : List (Option Value)), P = sumD (dyS s r) c (fun d => bw (d % 7) * bm (d / 7) * dyS s r d) 84 → Q = sumD (dyS s r) c (fun d => bw (d % 7) * bm (d / 7) * (bw (d % 7) * bm (d / 7))) 84 → zAW G mX8_fits zTT (zF G mX8_fits Post) 99 (some (.ref 38) :: lo) [] n (zup h 38 (oMod th len N now al pm P Q up lw)) 0 0 := fun P Q lo hP hQ2 => by
    rw [← hP, ← hQ2] at kT kF
    rw [← hQ2] at hQ
    refine zr_aload_n (pc := 99)  (i := 0) rfl rfl dX8_fits_99 ?_
    refine zr_get (pc := 100)  fl_X8_165 (by first | assumption | rfl | (repeat (first | assumption | exact zup_s | refine zup_g (by decide) ?_))) rfl dX8_fits_100 ?_
    refine zr_lconst (pc := 103)  (z := 0) (by decide) dX8_fits_103 ?_
    refine zr_lcmp_le (pc := 104)  (tgt := 112) ⟨by omega, by omega⟩ ⟨by omega, by omega⟩ (by decide) dX8_fits_104 dX8_fits_105 (fun q105 => ?_) (fun q105 => ?_)
    · refine zr_iconst (pc := 112)  dX8_fits_112 ?_
      refine zr_zreturn (pc := 113)  rfl (by omega) (by decide) (by decide) dX8_fits_113 ?_
      first | exact kT (by omega) | exact kF (by omega)
    · refine zr_iconst (pc := 108)  dX8_fits_108 ?_
      refine zr_goto (pc := 109)  (tgt := 113) (by decide) dX8_fits_109 ?_
      refine zr_zreturn (pc := 113)  rfl (by omega) (by decide) (by decide) dX8_fits_113 ?_
      first | exact kT (by omega) | exact kF (by omega)
  have main : ∀ (k m : Nat) (ct P Q : Int) (x5 : Option Value), 84 - m ≤ k → m ≤ 84 → ct = cnD (dyS s r) c m → P = sumD (dyS s r) c (fun d => bw (d % 7) * bm (d / 7) * dyS s r d) m → Q = sumD (dyS s r) c (fun d => bw (d % 7) * bm (d / 7) * (bw (d % 7) * bm (d / 7))) m → zAW G mX8_fits zTT (zF G mX8_fits Post) 15 [some (.ref 38), some (vi r), some (vi c), some (vi ct), some (vi m), x5] [] n (zup h 38 (oMod th len N now al pm P Q up lw)) 0 0 := by
    intro k
    induction k with
    | zero =>
      intro m ct P Q x5 hk hm h1 h2 h3
      obtain rfl : m = 84 := by omega
      refine zr_iload (pc := 15)  rfl dX8_fits_15 ?_
      refine zr_bipush (pc := 17)  (by decide) dX8_fits_17 ?_
      refine zr_icmp_ge (pc := 19)  (tgt := 99) ⟨by omega, by omega⟩ ⟨by omega, by omega⟩ (by decide) dX8_fits_19 (fun q19 => ?_) (fun q19 => ?_)
      · exact fin P Q _ h2 h3
      · exact absurd q19 (by omega)
    | succ k ih =>
      intro m ct P Q x5 hk hm h1 h2 h3
      have hsd := hs (r * 84 + m)
      have hsn : m < 84 → sn (84 * r + m) = s (r * 84 + m) := fun z => by rw [Int.mul_comm 84 r]; exact hl.1 (r * 84 + m) (by omega) (by omega) (by rw [show (r * 84 + (m : Int)) / 84 = r by omega]; exact hr.2)
      have hcR := cnD_R (dyS s r) hc.1 m
      rw [← h1] at hcR
      have hd : dyS s r m = s (r * 84 + m) := rfl
      have es : cnD (dyS s r) c (m + 1) = ct + ind (ct < c ∧ 0 ≤ s (r * 84 + m)) := by rw [h1]; rfl
      have eF : ∀ F : Int → Int, sumD (dyS s r) c F (m + 1) = sumD (dyS s r) c F m + ind (ct < c ∧ 0 ≤ s (r * 84 + m)) * F m := fun F => by rw [h1]; rfl
      refine zr_iload (pc := 15)  rfl dX8_fits_15 ?_
      refine zr_bipush (pc := 17)  (by decide) dX8_fits_17 ?_
      refine zr_icmp_ge (pc := 19)  (tgt := 99) ⟨by omega, by omega⟩ ⟨by omega, by omega⟩ (by decide) dX8_fits_19 (fun q19 => ?_) (fun q19 => ?_)
      · first | (have e : m = 84 := (by omega); subst e; exact fin P Q _ h2 h3) | (have z := cnD_stop (f := dyS s r) (most := c) (k := m) (by rw [← h1]; omega) 84 hm; exact fin P Q _ (h2.trans (z.2 _).symm) (h3.trans (z.2 _).symm))
      · refine zr_iload_n (pc := 22)  (i := 3) rfl rfl dX8_fits_22 ?_
        refine zr_iload_n (pc := 23)  (i := 2) rfl rfl dX8_fits_23 ?_
        refine zr_icmp_ge (pc := 24)  (tgt := 99) ⟨by omega, by omega⟩ ⟨by omega, by omega⟩ (by decide) dX8_fits_24 (fun q24 => ?_) (fun q24 => ?_)
        · first | (have e : m = 84 := (by omega); subst e; exact fin P Q _ h2 h3) | (have z := cnD_stop (f := dyS s r) (most := c) (k := m) (by rw [← h1]; omega) 84 hm; exact fin P Q _ (h2.trans (z.2 _).symm) (h3.trans (z.2 _).symm))
        · have hsn' := hsn (by omega)
          refine zr_aload_n (pc := 27)  (i := 0) rfl rfl dX8_fits_27 ?_
          refine zr_get (pc := 28)  fl_X8_45 (by first | assumption | rfl | (repeat (first | assumption | exact zup_s | refine zup_g (by decide) ?_))) rfl dX8_fits_28 ?_
          refine zr_bipush (pc := 31)  (by decide) dX8_fits_31 ?_
          refine zr_iload_n (pc := 33)  (i := 1) rfl rfl dX8_fits_33 ?_
          refine zr_imul (pc := 34)  dX8_fits_34 ?_
          refine zr_iload (pc := 35)  rfl dX8_fits_35 ?_
          refine zr_iadd (pc := 37)  dX8_fits_37 ?_
          refine zr_iald (pc := 38)  (by first | assumption | rfl | (repeat (first | assumption | exact zup_s | refine zup_g (by decide) ?_))) ⟨by omega, by omega⟩ (by decide) dX8_fits_38 ?_
          rw [hsn']
          refine zs_istore_5 (pc := 39)  (by first | exact zn_i | exact zn_r | exact zn_0) (by decide) dX8_fits_39 ?_
          refine zr_iload (pc := 41)  rfl dX8_fits_41 ?_
          refine zr_if_ge (pc := 43)  (tgt := 49) ⟨by omega, by omega⟩ (by decide) dX8_fits_43 (fun q43 => ?_) (fun q43 => ?_)
          · refine zs_iinc_3 (pc := 49)  (by first | exact zn_i | exact zn_r | exact zn_0) (by decide) dX8_fits_49 ?_
            refine zr_aload_n (pc := 52)  (i := 0) rfl rfl dX8_fits_52 ?_
            refine zr_dup (pc := 53)  rfl dX8_fits_53 ?_
            refine zr_get (pc := 54)  fl_X8_162 (by first | assumption | rfl | (repeat (first | assumption | exact zup_s | refine zup_g (by decide) ?_))) rfl dX8_fits_54 ?_
            refine zr_iload (pc := 57)  rfl dX8_fits_57 ?_
            refine zr_i2l (pc := 59)  ⟨by omega, by omega⟩ dX8_fits_59 ?_
            refine zr_aload_n (pc := 60)  (i := 0) rfl rfl dX8_fits_60 ?_
            refine zr_iload (pc := 61)  rfl dX8_fits_61 ?_
            refine zv_call1 (pc := 63)  cv_X8_fits_155 (by first | assumption | rfl | (repeat (first | assumption | exact zup_s | refine zup_g (by decide) ?_))) ⟨_, rfl, rfl⟩ (Nat.le_of_ble_eq_true rfl) (by decide) dX8_fits_63 ?_
            refine k_X8_worthOf zup_s m52 m53 (by omega) ?_
            dsimp only [Option.toList, List.cons_append, List.nil_append]
            refine zr_lmul (pc := 66)  dX8_fits_66 ?_
            refine zr_ladd (pc := 67)  dX8_fits_67 ?_
            refine zr_put (pc := 68)  (oMod _ _ _ _ _ _ _ _ _ _) (fp_X8_162 rfl) (by first | assumption | rfl | (repeat (first | assumption | exact zup_s | refine zup_g (by decide) ?_))) (Nat.le_of_ble_eq_true rfl) rfl rfl rfl dX8_fits_68 ?_
            rw [zup_zup]
            refine zr_aload_n (pc := 71)  (i := 0) rfl rfl dX8_fits_71 ?_
            refine zr_dup (pc := 72)  rfl dX8_fits_72 ?_
            refine zr_get (pc := 73)  fl_X8_165 (by first | assumption | rfl | (repeat (first | assumption | exact zup_s | refine zup_g (by decide) ?_))) rfl dX8_fits_73 ?_
            refine zr_aload_n (pc := 76)  (i := 0) rfl rfl dX8_fits_76 ?_
            refine zr_iload (pc := 77)  rfl dX8_fits_77 ?_
            refine zv_call1 (pc := 79)  cv_X8_fits_155 (by first | assumption | rfl | (repeat (first | assumption | exact zup_s | refine zup_g (by decide) ?_))) ⟨_, rfl, rfl⟩ (Nat.le_of_ble_eq_true rfl) (by decide) dX8_fits_79 ?_
            refine k_X8_worthOf zup_s m52 m53 (by omega) ?_
            dsimp only [Option.toList, List.cons_append, List.nil_append]
            refine zr_aload_n (pc := 82)  (i := 0) rfl rfl dX8_fits_82 ?_
            refine zr_iload (pc := 83)  rfl dX8_fits_83 ?_
            refine zv_call1 (pc := 85)  cv_X8_fits_155 (by first | assumption | rfl | (repeat (first | assumption | exact zup_s | refine zup_g (by decide) ?_))) ⟨_, rfl, rfl⟩ (Nat.le_of_ble_eq_true rfl) (by decide) dX8_fits_85 ?_
            refine k_X8_worthOf zup_s m52 m53 (by omega) ?_
            dsimp only [Option.toList, List.cons_append, List.nil_append]
            refine zr_lmul (pc := 88)  dX8_fits_88 ?_
            refine zr_ladd (pc := 89)  dX8_fits_89 ?_
            refine zr_put (pc := 90)  (oMod _ _ _ _ _ _ _ _ _ _) (fp_X8_165 rfl) (by first | assumption | rfl | (repeat (first | assumption | exact zup_s | refine zup_g (by decide) ?_))) (Nat.le_of_ble_eq_true rfl) rfl rfl rfl dX8_fits_90 ?_
            try rw [zup_zup]
            refine zs_iinc_4 (pc := 93)  (by first | exact zn_i | exact zn_r | exact zn_0) (by decide) dX8_fits_93 ?_
            refine zr_goto (pc := 96)  (tgt := 15) (by decide) dX8_fits_96 ?_
            first | exact ih (m + 1) _ _ _ _ (by omega) (by omega) (by rw [es, ind_t (by omega)]) (by rw [eF, ind_t (by omega), h2, hd, Int.one_mul, Int.mul_comm (s _)]) (by rw [eF, ind_t (by omega), h3, Int.one_mul]) | exact ih (m + 1) _ _ _ _ (by omega) (by omega) (by rw [es, ind_f (by omega)]; omega) (by rw [eF, ind_f (by omega), h2]; omega) (by rw [eF, ind_f (by omega), h3]; omega)
          · refine zr_goto (pc := 46)  (tgt := 93) (by decide) dX8_fits_46 ?_
            try rw [zup_zup]
            refine zs_iinc_4 (pc := 93)  (by first | exact zn_i | exact zn_r | exact zn_0) (by decide) dX8_fits_93 ?_
            refine zr_goto (pc := 96)  (tgt := 15) (by decide) dX8_fits_96 ?_
            first | exact ih (m + 1) _ _ _ _ (by omega) (by omega) (by rw [es, ind_t (by omega)]) (by rw [eF, ind_t (by omega), h2, hd, Int.one_mul, Int.mul_comm (s _)]) (by rw [eF, ind_t (by omega), h3, Int.one_mul]) | exact ih (m + 1) _ _ _ _ (by omega) (by omega) (by rw [es, ind_f (by omega)]; omega) (by rw [eF, ind_f (by omega), h2]; omega) (by rw [eF, ind_f (by omega), h3]; omega)
  refine zMP_of (by decide) [some _, some _, some _, none, none, none] (Nat.le_of_ble_eq_true rfl) rfl ?_
  refine zr_aload_n (pc := 0)  (i := 0) rfl rfl dX8_fits_0 ?_
  refine zr_lconst (pc := 1)  (z := 0) (by decide) dX8_fits_1 ?_
  refine zr_put (pc := 2)  (oMod _ _ _ _ _ _ _ _ _ _) (fp_X8_162 rfl) (by first | assumption | rfl | (repeat (first | assumption | exact zup_s | refine zup_g (by decide) ?_))) (Nat.le_of_ble_eq_true rfl) rfl rfl rfl dX8_fits_2 ?_
  refine zr_aload_n (pc := 5)  (i := 0) rfl rfl dX8_fits_5 ?_
  refine zr_lconst (pc := 6)  (z := 0) (by decide) dX8_fits_6 ?_
  refine zr_put (pc := 7)  (oMod _ _ _ _ _ _ _ _ _ _) (fp_X8_165 rfl) (by first | assumption | rfl | (repeat (first | assumption | exact zup_s | refine zup_g (by decide) ?_))) (Nat.le_of_ble_eq_true rfl) rfl rfl rfl dX8_fits_7 ?_
  refine zr_iconst (pc := 10)  dX8_fits_10 ?_
  refine zs_istore_n_3 (pc := 11)  (by first | exact zn_i | exact zn_r | exact zn_0) (by decide) dX8_fits_11 ?_
  refine zr_iconst (pc := 12)  dX8_fits_12 ?_
  refine zs_istore_4 (pc := 13)  (by first | exact zn_i | exact zn_r | exact zn_0) (by decide) dX8_fits_13 ?_
  rw [zup_zup]
  exact main 84 0 0 0 0 _ (by omega) (by omega) rfl rfl rfl
theorem l_X8_isLess {x0 x2 x4 x6 : Option Value} : ∀ (K : Nat) (p q r s tn : Int) (x17 x18 x19 x20 x21 x22 : Option Value), q ≤ K → (tn = 0 ∨ tn = 1) → (0 ≤ p ∧ p < 9223372036854775808) → (0 < q ∧ q < 9223372036854775808) → (0 ≤ r ∧ r < 9223372036854775808) → (0 < s ∧ s < 9223372036854775808) → Post (some (vb (if tn = 0 then p * s < r * q else r * q < p * s))) n h → zAW G mX8_isLess zTT (zF G mX8_isLess Post) 17 [x0, none, x2, none, x4, none, x6, none, some (vl p), none, some (vl q), none, some (vl r), none, some (vl s), none, some (vi tn), x17, x18, x19, x20, x21, x22] [] n h 0 0 := by
  intro K
  induction K with
  | zero => intro p q r s tn x17 x18 x19 x20 x21 x22 hK; intros; omega
  | succ K ih =>
    intro p q r s tn x17 x18 x19 x20 x21 x22 hK htn hp hq hr hs kk
    have e1 := Int.mul_ediv_add_emod p q
    have e2 := Int.mul_ediv_add_emod r s
    have b1 := Int.emod_nonneg p (show q ≠ 0 by omega)
    have b2 := Int.emod_lt_of_pos p hq.1
    have b3 := Int.emod_nonneg r (show s ≠ 0 by omega)
    have b4 := Int.emod_lt_of_pos r hs.1
    have c1 : 0 ≤ p / q ∧ p / q ≤ p := ⟨Int.ediv_nonneg hp.1 (by omega), Int.ediv_le_self _ hp.1⟩
    have c2 : 0 ≤ r / s ∧ r / s ≤ r := ⟨Int.ediv_nonneg hr.1 (by omega), Int.ediv_le_self _ hr.1⟩
    have k1 : p / q < r / s → p * s < r * q := fun z => by
      have h1 : p < q * (p / q + 1) := by rw [Int.mul_add]; omega
      have h2 : s * (p / q + 1) ≤ r := by
        have := Int.mul_le_mul_of_nonneg_left (show p / q + 1 ≤ r / s by omega) (Int.le_of_lt hs.1)
        omega
      have h3 := Int.mul_lt_mul_of_pos_right h1 hs.1
      have h4 := Int.mul_le_mul_of_nonneg_right h2 (Int.le_of_lt hq.1)
      have h5 : q * (p / q + 1) * s = s * (p / q + 1) * q := by grind
      omega
    have k2 : r / s < p / q → r * q < p * s := fun z => by
      have h1 : r < s * (r / s + 1) := by rw [Int.mul_add]; omega
      have h2 : q * (r / s + 1) ≤ p := by
        have := Int.mul_le_mul_of_nonneg_left (show r / s + 1 ≤ p / q by omega) (Int.le_of_lt hq.1)
        omega
      have h3 := Int.mul_lt_mul_of_pos_right h1 hq.1
      have h4 := Int.mul_le_mul_of_nonneg_right h2 (Int.le_of_lt hs.1)
      have h5 : s * (r / s + 1) * q = q * (r / s + 1) * s := by grind
      omega
    have k3 : p / q = r / s → p * s - r * q = p % q * s - r % s * q := fun z => by
      rw [z] at e1
      have h1 : p * s = (q * (r / s) + p % q) * s := by rw [e1]
      have h2 : r * q = (s * (r / s) + r % s) * q := by rw [e2]
      grind
    have m1 : 0 ≤ p % q * s := Int.mul_nonneg b1 (by omega)
    have m2 : 0 ≤ r % s * q := Int.mul_nonneg b3 (by omega)
    have m3 : p % q ≠ 0 → 0 < p % q * s := fun z => Int.mul_pos (by omega) hs.1
    have m4 : r % s ≠ 0 → 0 < r % s * q := fun z => Int.mul_pos (by omega) hq.1
    have m5 : p % q = 0 → p % q * s = 0 := fun z => by rw [z, Int.zero_mul]
    have m6 : r % s = 0 → r % s * q = 0 := fun z => by rw [z, Int.zero_mul]
    have nxt : p / q = r / s → p % q ≠ 0 → r % s ≠ 0 → ∀ tn2 : Int, tn2 = 1 - tn → Post (some (vb (if tn2 = 0 then q * (r % s) < s * (p % q) else s * (p % q) < q * (r % s)))) n h := fun z z1 z2 tn2 ht => by
      have h1 := k3 z
      have h2 : q * (r % s) = r % s * q := Int.mul_comm _ _
      have h3 : s * (p % q) = p % q * s := Int.mul_comm _ _
      have e : (if tn2 = 0 then q * (r % s) < s * (p % q) else s * (p % q) < q * (r % s)) = (if tn = 0 then p * s < r * q else r * q < p * s) := by
        rw [h2, h3]
        by_cases w : tn = 0
        · rw [if_pos w, if_neg (by omega)]; exact propext ⟨fun u => by omega, fun u => by omega⟩
        · rw [if_neg w, if_pos (by omega)]; exact propext ⟨fun u => by omega, fun u => by omega⟩
      rw [e]; exact kk
    have hT : ∀ X : Prop, (tn = 0 → (X ↔ p * s < r * q)) → (tn = 1 → (X ↔ r * q < p * s)) → (X → Post (some (vi 1)) n h) ∧ (¬ X → Post (some (vi 0)) n h) := fun X x1 x2 => by
      have e : X ↔ (if tn = 0 then p * s < r * q else r * q < p * s) := by
        by_cases w : tn = 0
        · rw [if_pos w]; exact x1 w
        · rw [if_neg w]; exact x2 (by omega)
      exact ⟨fun x => zb_t (e.mp x) kk, fun x => zb_f (fun y => x (e.mpr y)) kk⟩
    have R1 := fun z : p / q ≠ r / s => hT (if tn = 0 then p / q < r / s else ¬ p / q < r / s) (fun w => by rw [if_pos w]; exact ⟨k1, fun u => by by_cases y : p / q < r / s; exact y; exact absurd (k2 (by omega)) (by omega)⟩) (fun w => by rw [if_neg (by omega)]; exact ⟨fun u => k2 (by omega), fun u y => absurd (k1 y) (by omega)⟩)
    have R2 := fun (z : p / q = r / s) (y : p % q = 0 ∨ r % s = 0) => hT (p % q ≠ r % s ∧ (if tn = 0 then p % q = 0 else ¬ p % q = 0)) (fun w => by
      rw [if_pos w]
      have h1 := k3 z
      by_cases u : p % q = 0
      · have h2 := m5 u
        by_cases v : r % s = 0
        · have h3 := m6 v
          exact ⟨fun t => by omega, fun t => by omega⟩
        · have h3 := m4 v
          exact ⟨fun t => by omega, fun t => by omega⟩
      · have h2 := m3 u
        have h3 := m6 (by omega)
        exact ⟨fun t => by omega, fun t => by omega⟩) (fun w => by
      rw [if_neg (by omega)]
      have h1 := k3 z
      by_cases u : p % q = 0
      · have h2 := m5 u
        exact ⟨fun t => by omega, fun t => by omega⟩
      · have h2 := m3 u
        have h3 := m6 (by omega)
        exact ⟨fun t => by omega, fun t => by omega⟩)
    refine zr_lload (pc := 17)  rfl dX8_isLess_17 ?_
    refine zr_lload (pc := 19)  rfl dX8_isLess_19 ?_
    refine zr_ldivN (pc := 21)  ⟨by omega, by omega⟩ ⟨by omega, by omega⟩ dX8_isLess_21 ?_
    refine zs_lstore_17 (pc := 22)  (by first | exact zn_i | exact zn_r | exact zn_0) (by decide) dX8_isLess_22 ?_
    refine zr_lload (pc := 24)  rfl dX8_isLess_24 ?_
    refine zr_lload (pc := 26)  rfl dX8_isLess_26 ?_
    refine zr_ldivN (pc := 28)  ⟨by omega, by omega⟩ ⟨by omega, by omega⟩ dX8_isLess_28 ?_
    refine zs_lstore_19 (pc := 29)  (by first | exact zn_i | exact zn_r | exact zn_0) (by decide) dX8_isLess_29 ?_
    refine zr_lload (pc := 31)  rfl dX8_isLess_31 ?_
    refine zr_lload (pc := 33)  rfl dX8_isLess_33 ?_
    refine zr_lcmp_eq (pc := 35)  (tgt := 63) ⟨by omega, by omega⟩ ⟨by omega, by omega⟩ (by decide) dX8_isLess_35 dX8_isLess_36 (fun q36 => ?_) (fun q36 => ?_)
    · refine zr_lload (pc := 63)  rfl dX8_isLess_63 ?_
      refine zr_lload (pc := 65)  rfl dX8_isLess_65 ?_
      refine zr_lremN (pc := 67)  ⟨by omega, by omega⟩ ⟨by omega, by omega⟩ dX8_isLess_67 ?_
      refine zs_lstore_8 (pc := 68)  (by first | exact zn_i | exact zn_r | exact zn_0) (by decide) dX8_isLess_68 ?_
      refine zr_lload (pc := 70)  rfl dX8_isLess_70 ?_
      refine zr_lload (pc := 72)  rfl dX8_isLess_72 ?_
      refine zr_lremN (pc := 74)  ⟨by omega, by omega⟩ ⟨by omega, by omega⟩ dX8_isLess_74 ?_
      refine zs_lstore_12 (pc := 75)  (by first | exact zn_i | exact zn_r | exact zn_0) (by decide) dX8_isLess_75 ?_
      refine zr_lload (pc := 77)  rfl dX8_isLess_77 ?_
      refine zr_lconst (pc := 79)  (z := 0) (by decide) dX8_isLess_79 ?_
      refine zr_lcmp_eq (pc := 80)  (tgt := 91) ⟨by omega, by omega⟩ ⟨by omega, by omega⟩ (by decide) dX8_isLess_80 dX8_isLess_81 (fun q81 => ?_) (fun q81 => ?_)
      · refine zr_lload (pc := 91)  rfl dX8_isLess_91 ?_
        refine zr_lload (pc := 93)  rfl dX8_isLess_93 ?_
        refine zr_lcmp_eq (pc := 95)  (tgt := 120) ⟨by omega, by omega⟩ ⟨by omega, by omega⟩ (by decide) dX8_isLess_95 dX8_isLess_96 (fun q96 => ?_) (fun q96 => ?_)
        · refine zr_iconst (pc := 120)  dX8_isLess_120 ?_
          refine zr_zreturn (pc := 121)  rfl (by omega) (by decide) (by decide) dX8_isLess_121 ?_
          first | exact (R2 (by omega) (by omega)).1 ⟨by omega, by split <;> omega⟩ | exact (R2 (by omega) (by omega)).2 (fun u => by have u1 := u.1; have u2 := u.2; split at u2 <;> omega)
        · refine zr_lload (pc := 99)  rfl dX8_isLess_99 ?_
          refine zr_lconst (pc := 101)  (z := 0) (by decide) dX8_isLess_101 ?_
          refine zr_lcmp_ne (pc := 102)  (tgt := 110) ⟨by omega, by omega⟩ ⟨by omega, by omega⟩ (by decide) dX8_isLess_102 dX8_isLess_103 (fun q103 => ?_) (fun q103 => ?_)
          · refine zr_iconst (pc := 110)  dX8_isLess_110 ?_
            refine zr_iload (pc := 111)  rfl dX8_isLess_111 ?_
            refine zr_icmp_eq (pc := 113)  (tgt := 120) ⟨by omega, by omega⟩ ⟨by omega, by omega⟩ (by decide) dX8_isLess_113 (fun q113 => ?_) (fun q113 => ?_)
            · refine zr_iconst (pc := 120)  dX8_isLess_120 ?_
              refine zr_zreturn (pc := 121)  rfl (by omega) (by decide) (by decide) dX8_isLess_121 ?_
              first | exact (R2 (by omega) (by omega)).1 ⟨by omega, by split <;> omega⟩ | exact (R2 (by omega) (by omega)).2 (fun u => by have u1 := u.1; have u2 := u.2; split at u2 <;> omega)
            · refine zr_iconst (pc := 116)  dX8_isLess_116 ?_
              refine zr_goto (pc := 117)  (tgt := 121) (by decide) dX8_isLess_117 ?_
              refine zr_zreturn (pc := 121)  rfl (by omega) (by decide) (by decide) dX8_isLess_121 ?_
              first | exact (R2 (by omega) (by omega)).1 ⟨by omega, by split <;> omega⟩ | exact (R2 (by omega) (by omega)).2 (fun u => by have u1 := u.1; have u2 := u.2; split at u2 <;> omega)
          · refine zr_iconst (pc := 106)  dX8_isLess_106 ?_
            refine zr_goto (pc := 107)  (tgt := 111) (by decide) dX8_isLess_107 ?_
            refine zr_iload (pc := 111)  rfl dX8_isLess_111 ?_
            refine zr_icmp_eq (pc := 113)  (tgt := 120) ⟨by omega, by omega⟩ ⟨by omega, by omega⟩ (by decide) dX8_isLess_113 (fun q113 => ?_) (fun q113 => ?_)
            · refine zr_iconst (pc := 120)  dX8_isLess_120 ?_
              refine zr_zreturn (pc := 121)  rfl (by omega) (by decide) (by decide) dX8_isLess_121 ?_
              first | exact (R2 (by omega) (by omega)).1 ⟨by omega, by split <;> omega⟩ | exact (R2 (by omega) (by omega)).2 (fun u => by have u1 := u.1; have u2 := u.2; split at u2 <;> omega)
            · refine zr_iconst (pc := 116)  dX8_isLess_116 ?_
              refine zr_goto (pc := 117)  (tgt := 121) (by decide) dX8_isLess_117 ?_
              refine zr_zreturn (pc := 121)  rfl (by omega) (by decide) (by decide) dX8_isLess_121 ?_
              first | exact (R2 (by omega) (by omega)).1 ⟨by omega, by split <;> omega⟩ | exact (R2 (by omega) (by omega)).2 (fun u => by have u1 := u.1; have u2 := u.2; split at u2 <;> omega)
      · refine zr_lload (pc := 84)  rfl dX8_isLess_84 ?_
        refine zr_lconst (pc := 86)  (z := 0) (by decide) dX8_isLess_86 ?_
        refine zr_lcmp_ne (pc := 87)  (tgt := 122) ⟨by omega, by omega⟩ ⟨by omega, by omega⟩ (by decide) dX8_isLess_87 dX8_isLess_88 (fun q88 => ?_) (fun q88 => ?_)
        · refine zr_lload (pc := 122)  rfl dX8_isLess_122 ?_
          refine zs_lstore_21 (pc := 124)  (by first | exact zn_i | exact zn_r | exact zn_0) (by decide) dX8_isLess_124 ?_
          refine zr_lload (pc := 126)  rfl dX8_isLess_126 ?_
          refine zs_lstore_8 (pc := 128)  (by first | exact zn_i | exact zn_r | exact zn_0) (by decide) dX8_isLess_128 ?_
          refine zr_lload (pc := 130)  rfl dX8_isLess_130 ?_
          refine zs_lstore_10 (pc := 132)  (by first | exact zn_i | exact zn_r | exact zn_0) (by decide) dX8_isLess_132 ?_
          refine zr_lload (pc := 134)  rfl dX8_isLess_134 ?_
          refine zs_lstore_21 (pc := 136)  (by first | exact zn_i | exact zn_r | exact zn_0) (by decide) dX8_isLess_136 ?_
          refine zr_lload (pc := 138)  rfl dX8_isLess_138 ?_
          refine zs_lstore_12 (pc := 140)  (by first | exact zn_i | exact zn_r | exact zn_0) (by decide) dX8_isLess_140 ?_
          refine zr_lload (pc := 142)  rfl dX8_isLess_142 ?_
          refine zs_lstore_14 (pc := 144)  (by first | exact zn_i | exact zn_r | exact zn_0) (by decide) dX8_isLess_144 ?_
          refine zr_iload (pc := 146)  rfl dX8_isLess_146 ?_
          refine zr_if_ne (pc := 148)  (tgt := 155) ⟨by omega, by omega⟩ (by decide) dX8_isLess_148 (fun q148 => ?_) (fun q148 => ?_)
          · refine zr_iconst (pc := 155)  dX8_isLess_155 ?_
            refine zs_istore_16 (pc := 156)  (by first | exact zn_i | exact zn_r | exact zn_0) (by decide) dX8_isLess_156 ?_
            refine zr_goto (pc := 158)  (tgt := 17) (by decide) dX8_isLess_158 ?_
            exact ih _ _ _ _ _ _ _ _ _ _ _ (by omega) (by omega) (by omega) (by omega) (by omega) (by omega) (nxt (by omega) (by omega) (by omega) _ (by omega))
          · refine zr_iconst (pc := 151)  dX8_isLess_151 ?_
            refine zr_goto (pc := 152)  (tgt := 156) (by decide) dX8_isLess_152 ?_
            refine zs_istore_16 (pc := 156)  (by first | exact zn_i | exact zn_r | exact zn_0) (by decide) dX8_isLess_156 ?_
            refine zr_goto (pc := 158)  (tgt := 17) (by decide) dX8_isLess_158 ?_
            exact ih _ _ _ _ _ _ _ _ _ _ _ (by omega) (by omega) (by omega) (by omega) (by omega) (by omega) (nxt (by omega) (by omega) (by omega) _ (by omega))
        · refine zr_lload (pc := 91)  rfl dX8_isLess_91 ?_
          refine zr_lload (pc := 93)  rfl dX8_isLess_93 ?_
          refine zr_lcmp_eq (pc := 95)  (tgt := 120) ⟨by omega, by omega⟩ ⟨by omega, by omega⟩ (by decide) dX8_isLess_95 dX8_isLess_96 (fun q96 => ?_) (fun q96 => ?_)
          · refine zr_iconst (pc := 120)  dX8_isLess_120 ?_
            refine zr_zreturn (pc := 121)  rfl (by omega) (by decide) (by decide) dX8_isLess_121 ?_
            first | exact (R2 (by omega) (by omega)).1 ⟨by omega, by split <;> omega⟩ | exact (R2 (by omega) (by omega)).2 (fun u => by have u1 := u.1; have u2 := u.2; split at u2 <;> omega)
          · refine zr_lload (pc := 99)  rfl dX8_isLess_99 ?_
            refine zr_lconst (pc := 101)  (z := 0) (by decide) dX8_isLess_101 ?_
            refine zr_lcmp_ne (pc := 102)  (tgt := 110) ⟨by omega, by omega⟩ ⟨by omega, by omega⟩ (by decide) dX8_isLess_102 dX8_isLess_103 (fun q103 => ?_) (fun q103 => ?_)
            · refine zr_iconst (pc := 110)  dX8_isLess_110 ?_
              refine zr_iload (pc := 111)  rfl dX8_isLess_111 ?_
              refine zr_icmp_eq (pc := 113)  (tgt := 120) ⟨by omega, by omega⟩ ⟨by omega, by omega⟩ (by decide) dX8_isLess_113 (fun q113 => ?_) (fun q113 => ?_)
              · refine zr_iconst (pc := 120)  dX8_isLess_120 ?_
                refine zr_zreturn (pc := 121)  rfl (by omega) (by decide) (by decide) dX8_isLess_121 ?_
                first | exact (R2 (by omega) (by omega)).1 ⟨by omega, by split <;> omega⟩ | exact (R2 (by omega) (by omega)).2 (fun u => by have u1 := u.1; have u2 := u.2; split at u2 <;> omega)
              · refine zr_iconst (pc := 116)  dX8_isLess_116 ?_
                refine zr_goto (pc := 117)  (tgt := 121) (by decide) dX8_isLess_117 ?_
                refine zr_zreturn (pc := 121)  rfl (by omega) (by decide) (by decide) dX8_isLess_121 ?_
                first | exact (R2 (by omega) (by omega)).1 ⟨by omega, by split <;> omega⟩ | exact (R2 (by omega) (by omega)).2 (fun u => by have u1 := u.1; have u2 := u.2; split at u2 <;> omega)
            · refine zr_iconst (pc := 106)  dX8_isLess_106 ?_
              refine zr_goto (pc := 107)  (tgt := 111) (by decide) dX8_isLess_107 ?_
              refine zr_iload (pc := 111)  rfl dX8_isLess_111 ?_
              refine zr_icmp_eq (pc := 113)  (tgt := 120) ⟨by omega, by omega⟩ ⟨by omega, by omega⟩ (by decide) dX8_isLess_113 (fun q113 => ?_) (fun q113 => ?_)
              · refine zr_iconst (pc := 120)  dX8_isLess_120 ?_
                refine zr_zreturn (pc := 121)  rfl (by omega) (by decide) (by decide) dX8_isLess_121 ?_
                first | exact (R2 (by omega) (by omega)).1 ⟨by omega, by split <;> omega⟩ | exact (R2 (by omega) (by omega)).2 (fun u => by have u1 := u.1; have u2 := u.2; split at u2 <;> omega)
              · refine zr_iconst (pc := 116)  dX8_isLess_116 ?_
                refine zr_goto (pc := 117)  (tgt := 121) (by decide) dX8_isLess_117 ?_
                refine zr_zreturn (pc := 121)  rfl (by omega) (by decide) (by decide) dX8_isLess_121 ?_
                first | exact (R2 (by omega) (by omega)).1 ⟨by omega, by split <;> omega⟩ | exact (R2 (by omega) (by omega)).2 (fun u => by have u1 := u.1; have u2 := u.2; split at u2 <;> omega)
    · refine zr_lload (pc := 39)  rfl dX8_isLess_39 ?_
      refine zr_lload (pc := 41)  rfl dX8_isLess_41 ?_
      refine zr_lcmp_ge (pc := 43)  (tgt := 51) ⟨by omega, by omega⟩ ⟨by omega, by omega⟩ (by decide) dX8_isLess_43 dX8_isLess_44 (fun q44 => ?_) (fun q44 => ?_)
      · refine zr_iconst (pc := 51)  dX8_isLess_51 ?_
        refine zr_iload (pc := 52)  rfl dX8_isLess_52 ?_
        refine zr_icmp_eq (pc := 54)  (tgt := 61) ⟨by omega, by omega⟩ ⟨by omega, by omega⟩ (by decide) dX8_isLess_54 (fun q54 => ?_) (fun q54 => ?_)
        · refine zr_iconst (pc := 61)  dX8_isLess_61 ?_
          refine zr_zreturn (pc := 62)  rfl (by omega) (by decide) (by decide) dX8_isLess_62 ?_
          first | exact (R1 (by omega)).1 (by split <;> omega) | exact (R1 (by omega)).2 (by split <;> omega)
        · refine zr_iconst (pc := 57)  dX8_isLess_57 ?_
          refine zr_goto (pc := 58)  (tgt := 62) (by decide) dX8_isLess_58 ?_
          refine zr_zreturn (pc := 62)  rfl (by omega) (by decide) (by decide) dX8_isLess_62 ?_
          first | exact (R1 (by omega)).1 (by split <;> omega) | exact (R1 (by omega)).2 (by split <;> omega)
      · refine zr_iconst (pc := 47)  dX8_isLess_47 ?_
        refine zr_goto (pc := 48)  (tgt := 52) (by decide) dX8_isLess_48 ?_
        refine zr_iload (pc := 52)  rfl dX8_isLess_52 ?_
        refine zr_icmp_eq (pc := 54)  (tgt := 61) ⟨by omega, by omega⟩ ⟨by omega, by omega⟩ (by decide) dX8_isLess_54 (fun q54 => ?_) (fun q54 => ?_)
        · refine zr_iconst (pc := 61)  dX8_isLess_61 ?_
          refine zr_zreturn (pc := 62)  rfl (by omega) (by decide) (by decide) dX8_isLess_62 ?_
          first | exact (R1 (by omega)).1 (by split <;> omega) | exact (R1 (by omega)).2 (by split <;> omega)
        · refine zr_iconst (pc := 57)  dX8_isLess_57 ?_
          refine zr_goto (pc := 58)  (tgt := 62) (by decide) dX8_isLess_58 ?_
          refine zr_zreturn (pc := 62)  rfl (by omega) (by decide) (by decide) dX8_isLess_62 ?_
          first | exact (R1 (by omega)).1 (by split <;> omega) | exact (R1 (by omega)).2 (by split <;> omega)
theorem k_X8_isLess {p q r s : Int} (hp : 0 ≤ p ∧ p < 9223372036854775808) (hq : 0 < q ∧ q < 9223372036854775808) (hr : 0 ≤ r ∧ r < 9223372036854775808) (hs : 0 < s ∧ s < 9223372036854775808) (k : Post (some (vb (p * s < r * q))) n h) : zMP G mX8_isLess [vl p, vl q, vl r, vl s] n h Post := by
  refine zMP_of (by decide) [some _, none, some _, none, some _, none, some _, none, none, none, none, none, none, none, none, none, none, none, none, none, none, none, none] (Nat.le_of_ble_eq_true rfl) rfl ?_
  refine zr_lload_n (pc := 0)  (i := 0) rfl rfl dX8_isLess_0 ?_
  refine zs_lstore_8 (pc := 1)  (by first | exact zn_i | exact zn_r | exact zn_0) (by decide) dX8_isLess_1 ?_
  refine zr_lload_n (pc := 3)  (i := 2) rfl rfl dX8_isLess_3 ?_
  refine zs_lstore_10 (pc := 4)  (by first | exact zn_i | exact zn_r | exact zn_0) (by decide) dX8_isLess_4 ?_
  refine zr_lload (pc := 6)  rfl dX8_isLess_6 ?_
  refine zs_lstore_12 (pc := 8)  (by first | exact zn_i | exact zn_r | exact zn_0) (by decide) dX8_isLess_8 ?_
  refine zr_lload (pc := 10)  rfl dX8_isLess_10 ?_
  refine zs_lstore_14 (pc := 12)  (by first | exact zn_i | exact zn_r | exact zn_0) (by decide) dX8_isLess_12 ?_
  refine zr_iconst (pc := 14)  dX8_isLess_14 ?_
  refine zs_istore_16 (pc := 15)  (by first | exact zn_i | exact zn_r | exact zn_0) (by decide) dX8_isLess_15 ?_
  exact l_X8_isLess q.toNat p q r s 0 _ _ _ _ _ _ (by omega) (by omega) hp hq hr hs (by rw [if_pos rfl]; exact k)
theorem l_X8_shift {hx : zH} {r c nn m pp qq : Int} {fp fq od0 : Int → Int} (x38 : hx 38 = some (oMod th len N now al pm pp qq up lw)) (x55 : hx 55 = some (aJ 4 fp)) (x56 : hx 56 = some (aJ 4 fq)) (hn : nn ≤ 3) (ho : ∀ i, 0 ≤ i → i < nn → 0 ≤ od0 i ∧ od0 i < 4) (hf : ∀ i, 0 ≤ i → i < nn → (0 ≤ fp (od0 i) ∧ fp (od0 i) ≤ 2352000000) ∧ (0 < fq (od0 i) ∧ fq (od0 i) ≤ 158054400000000)) (hp : 0 ≤ pp ∧ pp ≤ 2352000000) (hq : 0 < qq ∧ qq ≤ 158054400000000) (kk : ∀ (a : Int) (od2 : Int → Int), 0 ≤ a → a ≤ nn → (∀ i, 0 ≤ i → i < a → od2 i = od0 i) → (∀ i, a ≤ i → i < nn → od2 (i + 1) = od0 i) → (∀ i, a ≤ i → i < nn → fp (od0 i) * fp (od0 i) * qq < pp * pp * fq (od0 i)) → (a = 0 ∨ ¬ fp (od0 (a - 1)) * fp (od0 (a - 1)) * qq < pp * pp * fq (od0 (a - 1))) → zAW G mX8_fitAll zTT (zF G mX8_fitAll Post) 157 [some (.ref 38), some (vi r), some (vi c), some (vi nn), some (vi m), some (vi a)] [] n (zup hx 54 (aI 4 od2)) 0 0) : ∀ (k : Nat) (od2 : Int → Int), (k : Int) ≤ nn → (∀ i, 0 ≤ i → i < (k : Int) → od2 i = od0 i) → (∀ i, (k : Int) ≤ i → i < nn → od2 (i + 1) = od0 i) → (∀ i, (k : Int) ≤ i → i < nn → fp (od0 i) * fp (od0 i) * qq < pp * pp * fq (od0 i)) → zAW G mX8_fitAll zTT (zF G mX8_fitAll Post) 68 [some (.ref 38), some (vi r), some (vi c), some (vi nn), some (vi m), some (vi k)] [] n (zup hx 54 (aI 4 od2)) 0 0 := by
  intro k
  induction k with
  | zero =>
    intro od2 hk h1 h2 h3
    refine zr_iload (pc := 68)  rfl dX8_fitAll_68 ?_
    refine zr_if_le (pc := 70)  (tgt := 157) ⟨by omega, by omega⟩ (by decide) dX8_fitAll_70 (fun q70 => ?_) (fun q70 => ?_)
    · exact kk 0 od2 (by omega) (by omega) h1 h2 h3 (Or.inl rfl)
    · exact absurd q70 (by omega)
  | succ k ih =>
    intro od2 hk h1 h2 h3
    have e1 : ((k + 1 : Nat) : Int) - 1 = k := by omega
    have eo := h1 k (by omega) (by omega)
    have hok := ho k (by omega) (by omega)
    have hfk := hf k (by omega) (by omega)
    have b1 := mulB hfk.1 hfk.1
    have b2 := mulB hp hp
    have e2 : od2 (((k + 1 : Nat) : Int) - 1) = od0 k := by rw [e1]; exact eo
    refine zr_iload (pc := 68)  rfl dX8_fitAll_68 ?_
    refine zr_if_le (pc := 70)  (tgt := 157) ⟨by omega, by omega⟩ (by decide) dX8_fitAll_70 (fun q70 => ?_) (fun q70 => ?_)
    · exact absurd q70 (by omega)
    · refine zr_aload_n (pc := 73)  (i := 0) rfl rfl dX8_fitAll_73 ?_
      refine zr_get (pc := 74)  fl_X8_61 (by first | assumption | rfl | (repeat (first | assumption | exact zup_s | refine zup_g (by decide) ?_))) rfl dX8_fitAll_74 ?_
      refine zr_aload_n (pc := 77)  (i := 0) rfl rfl dX8_fitAll_77 ?_
      refine zr_get (pc := 78)  fl_X8_58 (by first | assumption | rfl | (repeat (first | assumption | exact zup_s | refine zup_g (by decide) ?_))) rfl dX8_fitAll_78 ?_
      refine zr_iload (pc := 81)  rfl dX8_fitAll_81 ?_
      refine zr_iconst (pc := 83)  dX8_fitAll_83 ?_
      refine zr_isub (pc := 84)  dX8_fitAll_84 ?_
      refine zr_iald (pc := 85)  (by first | assumption | rfl | (repeat (first | assumption | exact zup_s | refine zup_g (by decide) ?_))) ⟨by omega, by omega⟩ (by decide) dX8_fitAll_85 ?_
      rw [e2]
      refine zr_lald (pc := 86)  (by first | assumption | rfl | (repeat (first | assumption | exact zup_s | refine zup_g (by decide) ?_))) ⟨by omega, by omega⟩ (by decide) dX8_fitAll_86 ?_
      refine zr_aload_n (pc := 87)  (i := 0) rfl rfl dX8_fitAll_87 ?_
      refine zr_get (pc := 88)  fl_X8_61 (by first | assumption | rfl | (repeat (first | assumption | exact zup_s | refine zup_g (by decide) ?_))) rfl dX8_fitAll_88 ?_
      refine zr_aload_n (pc := 91)  (i := 0) rfl rfl dX8_fitAll_91 ?_
      refine zr_get (pc := 92)  fl_X8_58 (by first | assumption | rfl | (repeat (first | assumption | exact zup_s | refine zup_g (by decide) ?_))) rfl dX8_fitAll_92 ?_
      refine zr_iload (pc := 95)  rfl dX8_fitAll_95 ?_
      refine zr_iconst (pc := 97)  dX8_fitAll_97 ?_
      refine zr_isub (pc := 98)  dX8_fitAll_98 ?_
      refine zr_iald (pc := 99)  (by first | assumption | rfl | (repeat (first | assumption | exact zup_s | refine zup_g (by decide) ?_))) ⟨by omega, by omega⟩ (by decide) dX8_fitAll_99 ?_
      rw [e2]
      refine zr_lald (pc := 100)  (by first | assumption | rfl | (repeat (first | assumption | exact zup_s | refine zup_g (by decide) ?_))) ⟨by omega, by omega⟩ (by decide) dX8_fitAll_100 ?_
      refine zr_lmul (pc := 101)  dX8_fitAll_101 ?_
      refine zr_aload_n (pc := 102)  (i := 0) rfl rfl dX8_fitAll_102 ?_
      refine zr_get (pc := 103)  fl_X8_64 (by first | assumption | rfl | (repeat (first | assumption | exact zup_s | refine zup_g (by decide) ?_))) rfl dX8_fitAll_103 ?_
      refine zr_aload_n (pc := 106)  (i := 0) rfl rfl dX8_fitAll_106 ?_
      refine zr_get (pc := 107)  fl_X8_58 (by first | assumption | rfl | (repeat (first | assumption | exact zup_s | refine zup_g (by decide) ?_))) rfl dX8_fitAll_107 ?_
      refine zr_iload (pc := 110)  rfl dX8_fitAll_110 ?_
      refine zr_iconst (pc := 112)  dX8_fitAll_112 ?_
      refine zr_isub (pc := 113)  dX8_fitAll_113 ?_
      refine zr_iald (pc := 114)  (by first | assumption | rfl | (repeat (first | assumption | exact zup_s | refine zup_g (by decide) ?_))) ⟨by omega, by omega⟩ (by decide) dX8_fitAll_114 ?_
      rw [e2]
      refine zr_lald (pc := 115)  (by first | assumption | rfl | (repeat (first | assumption | exact zup_s | refine zup_g (by decide) ?_))) ⟨by omega, by omega⟩ (by decide) dX8_fitAll_115 ?_
      refine zr_aload_n (pc := 116)  (i := 0) rfl rfl dX8_fitAll_116 ?_
      refine zr_get (pc := 117)  fl_X8_162 (by first | assumption | rfl | (repeat (first | assumption | exact zup_s | refine zup_g (by decide) ?_))) rfl dX8_fitAll_117 ?_
      refine zr_aload_n (pc := 120)  (i := 0) rfl rfl dX8_fitAll_120 ?_
      refine zr_get (pc := 121)  fl_X8_162 (by first | assumption | rfl | (repeat (first | assumption | exact zup_s | refine zup_g (by decide) ?_))) rfl dX8_fitAll_121 ?_
      refine zr_lmul (pc := 124)  dX8_fitAll_124 ?_
      refine zr_aload_n (pc := 125)  (i := 0) rfl rfl dX8_fitAll_125 ?_
      refine zr_get (pc := 126)  fl_X8_165 (by first | assumption | rfl | (repeat (first | assumption | exact zup_s | refine zup_g (by decide) ?_))) rfl dX8_fitAll_126 ?_
      refine zc_call4 (pc := 129)  cs_X8_fitAll_171 (Nat.le_of_ble_eq_true rfl) (by decide) dX8_fitAll_129 ?_
      refine k_X8_isLess (by omega) (by omega) (by omega) (by omega) ?_
      dsimp only [Option.toList, List.cons_append, List.nil_append]
      refine zb_eq (pc := 132) (tgt := 157) (by decide) dX8_fitAll_132 (fun q132 => ?_) (fun q132 => ?_)
      · refine kk ((k + 1 : Nat) : Int) od2 (by omega) (by omega) h1 h2 h3 (Or.inr ?_)
        rw [e1]
        exact q132
      · refine zr_aload_n (pc := 135)  (i := 0) rfl rfl dX8_fitAll_135 ?_
        refine zr_get (pc := 136)  fl_X8_58 (by first | assumption | rfl | (repeat (first | assumption | exact zup_s | refine zup_g (by decide) ?_))) rfl dX8_fitAll_136 ?_
        refine zr_iload (pc := 139)  rfl dX8_fitAll_139 ?_
        refine zr_aload_n (pc := 141)  (i := 0) rfl rfl dX8_fitAll_141 ?_
        refine zr_get (pc := 142)  fl_X8_58 (by first | assumption | rfl | (repeat (first | assumption | exact zup_s | refine zup_g (by decide) ?_))) rfl dX8_fitAll_142 ?_
        refine zr_iload (pc := 145)  rfl dX8_fitAll_145 ?_
        refine zr_iconst (pc := 147)  dX8_fitAll_147 ?_
        refine zr_isub (pc := 148)  dX8_fitAll_148 ?_
        refine zr_iald (pc := 149)  (by first | assumption | rfl | (repeat (first | assumption | exact zup_s | refine zup_g (by decide) ?_))) ⟨by omega, by omega⟩ (by decide) dX8_fitAll_149 ?_
        rw [e2]
        refine zr_iast (pc := 150)  (by first | assumption | rfl | (repeat (first | assumption | exact zup_s | refine zup_g (by decide) ?_))) ⟨by omega, by omega⟩ (by decide) dX8_fitAll_150 ?_
        rw [zup_zup]
        refine zs_iinc_5 (pc := 151)  (by first | exact zn_i | exact zn_r | exact zn_0) (by decide) dX8_fitAll_151 ?_
        refine zr_goto (pc := 154)  (tgt := 68) (by decide) dX8_fitAll_154 ?_
        rw [show ((k + 1 : Nat) : Int) + -1 = k by omega]
        refine ih _ (by omega) (fun i a b => ?_) (fun i a b => ?_) (fun i a b => ?_)
        (rw [uZ_n (by omega)]; exact h1 i a (by omega))
        (by_cases z : i = k; (rw [z, show (k : Int) + 1 = ((k + 1 : Nat) : Int) by omega, uZ_s]); (rw [uZ_n (by omega)]; exact h2 i (by omega) b))
        (by_cases z : i = k; (rw [z]; exact q132); exact h3 i (by omega) b)
end MOD
