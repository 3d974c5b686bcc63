/-! fractions: the same quotient, the same words -/
theorem absZ_mul {c t : Int} (hc : 0 < c) : absZ (c * t) = c * absZ t := by
  unfold absZ
  by_cases q : t < 0
  · rw [if_pos q, if_pos (by have := Int.mul_neg_of_pos_of_neg hc q; omega), Int.mul_neg]
  · rw [if_neg q, if_neg (by have := Int.mul_nonneg (Int.le_of_lt hc) (show 0 ≤ t by omega); omega)]
theorem absZ_R (t : Int) : 0 ≤ absZ t := by unfold absZ; split <;> omega
theorem gz_mul {c a b : Int} (hc : 0 < c) (ha : 0 ≤ a) (hb : 0 < b) : gz (c * a) (c * b) = c * gz a b := by
  unfold gz
  rw [Int.toNat_mul (by omega) ha, Int.toNat_mul (by omega) (by omega), Nat.gcd_mul_left, Int.natCast_mul, Int.toNat_of_nonneg (by omega)]
theorem rd_scale {c t b : Int} (hc : 0 < c) (hb : 0 < b) : rdU (c * t) (c * b) = rdU t b ∧ rdL (c * t) (c * b) = rdL t b := by
  have hg := gz_pos (a := absZ t) hb
  unfold rdU rdL
  rw [absZ_mul hc, gz_mul hc (absZ_R t) hb]
  exact ⟨Int.mul_tdiv_mul_of_pos _ _ hc, Int.mul_ediv_mul_of_pos _ _ hc⟩
theorem rd_same {t b t2 b2 : Int} (hb : 0 < b) (hb2 : 0 < b2) (h : t * b2 = t2 * b) : rdU t b = rdU t2 b2 ∧ rdL t b = rdL t2 b2 := by
  have e1 := rd_scale (c := b2) (t := t) hb2 hb
  have e2 := rd_scale (c := b) (t := t2) hb hb2
  rw [show b2 * t = b * t2 by rw [Int.mul_comm b2 t, h, Int.mul_comm], Int.mul_comm b2 b] at e1
  exact ⟨e1.1.symm.trans e2.1, e1.2.symm.trans e2.2⟩
theorem gz_dvd {a b : Int} (ha : 0 ≤ a) (hb : 0 < b) : a / gz a b * gz a b = a ∧ b / gz a b * gz a b = b := by
  have h1 : gz a b ∣ a := by
    unfold gz
    have := Int.natCast_dvd_natCast.mpr (Nat.gcd_dvd_left a.toNat b.toNat)
    rwa [Int.toNat_of_nonneg ha] at this
  have h2 : gz a b ∣ b := by
    unfold gz
    have := Int.natCast_dvd_natCast.mpr (Nat.gcd_dvd_right a.toNat b.toNat)
    rwa [Int.toNat_of_nonneg (Int.le_of_lt hb)] at this
  exact ⟨Int.ediv_mul_cancel h1, Int.ediv_mul_cancel h2⟩
theorem rd_twice {p q a : Int} (hp : 0 ≤ p) (hq : 0 < q) : 0 < q / gz p q ∧ rdU (p / gz p q * a * a) (q / gz p q) = rdU (p * (a * a)) q ∧ rdL (p / gz p q * a * a) (q / gz p q) = rdL (p * (a * a)) q := by
  have hg := gz_pos (a := p) hq
  have hd := gz_dvd hp hq
  have h0 : 0 < q / gz p q := (Int.le_ediv_iff_mul_le hg).mpr (by have := gz_le (a := p) hq; omega)
  refine ⟨h0, rd_same h0 hq ?_⟩
  generalize p / gz p q = x at *
  generalize q / gz p q = y at *
  generalize gz p q = g at *
  grind
theorem rnd_of {u l : Int} (hl : 0 < l) : (¬ u % l < l - u % l → rndZ u l = u / l + 1) ∧ (u % l < l - u % l → rndZ u l = u / l) := by
  have e := Int.mul_ediv_add_emod u l
  have h1 := Int.emod_lt_of_pos u hl
  have h0 := Int.emod_nonneg u (show l ≠ 0 by omega)
  have key : ∀ v : Int, 2 * l * v ≤ 2 * u + l → 2 * u + l < 2 * l * (v + 1) → rndZ u l = v := fun v a b => by
    unfold rndZ
    refine Int.le_antisymm ?_ ((Int.le_ediv_iff_mul_le (by omega)).mpr (by rw [Int.mul_comm]; exact a))
    have := (Int.ediv_lt_iff_lt_mul (a := 2 * u + l) (b := v + 1) (c := 2 * l) (by omega)).mpr (by rw [Int.mul_comm (v + 1)]; exact b)
    omega
  generalize u / l = v at *
  generalize u % l = w at *
  have e2 : 2 * l * v = 2 * (l * v) := Int.mul_assoc 2 l v
  have e3 : 2 * l * (v + 1) = 2 * (l * v) + 2 * l := by rw [Int.mul_add, e2]; omega
  have e4 : 2 * l * (v + 1 + 1) = 2 * (l * v) + 4 * l := by rw [Int.mul_add, e3]; omega
  exact ⟨fun q => key _ (by omega) (by omega), fun q => key _ (by omega) (by omega)⟩
/-- closing: what lasts lasts -/
theorem mK_V {h h' : zH} {th th2 now len al pm pd sq up lw : Int} {tb rk rs rg gr bt bc bk ap pl sn iw bw bm od fp fq fl db : Int → Int} {N : Nat} (hM : mK h th now len tb rk rs rg gr N bt bc bk ap pl) (m38 : h' 38 = some (oMod th2 len N now al pm pd sq up lw)) (hf : ∀ j, (j < 38 ∨ (38 < j ∧ j < 50) ∨ 58 < j) → h' j = h j) (hL : mL h' sn iw) (hz : ∀ i, iw i = 0 ∨ iw i = 1) (hW : mW h' bw bm) (hF : mF h' od fp fq) (hG : mG h' fl db) : mK h' th2 now len tb rk rs rg gr N bt bc bk ap pl := by
  obtain ⟨-, ⟨ek, hA, hE⟩, ⟨-, -, -, -, pc, co, ma, si, sh, op, b1, b2, b3, b4, b5, b6, b7⟩, hp⟩ := hM
  have f := fun (j : Nat) (a : 59 ≤ j) => hf j (by omega)
  exact ⟨⟨_, _, _, _, _, _, m38⟩, ⟨ek, mA_fr hA (fun j a b => hf j (by omega)), hE⟩, ⟨⟨sn, iw, hL, hz⟩, ⟨bw, bm, hW⟩, ⟨od, fp, fq, hF⟩, ⟨fl, db, hG⟩, pc, co, ma, si, sh, op, (f 59 (by omega)).trans b1, (f 60 (by omega)).trans b2, (f 61 (by omega)).trans b3, (f 62 (by omega)).trans b4, (f 63 (by omega)).trans b5, (f 64 (by omega)).trans b6, b7⟩, hp⟩
theorem SA_R {ap bc pl bt : Int → Int} {N : Nat} (hc : ∀ i, -1 ≤ bc i ∧ bc i ≤ 50) (t p : Int) : -3 ≤ SA ap bc pl bt N t p ∧ SA ap bc pl bt N t p ≤ 50 := by
  have h := hc (holdZ pl bt N p t)
  unfold SA stZ
  (repeat' split) <;> omega
section MOD
variable {G : zG} {n : Nat} {h : zH} {Post : Option Value → Nat → zH → Prop} {th len now al pm pd sq up lw : Int} {tb rk rs rg gr bt bc ek ap pl : Int → Int} {N : Nat}
theorem l_X8_common {x0 x2 : Option Value} : ∀ (K : Nat) (x y : Int) (x8 x9 : Option Value), y ≤ K → (0 ≤ x ∧ x < 9223372036854775808) → (0 ≤ y ∧ y < 9223372036854775808) → Post (some (vl (gz x y))) n h → zAW G mX8_common zTT (zF G mX8_common Post) 28 [x0, none, x2, none, some (vl x), none, some (vl y), none, x8, x9] [] n h 0 0 := by
  intro K
  induction K with
  | zero =>
    intro x y x8 x9 hK hx hy hp
    obtain rfl : y = 0 := by omega
    rw [gz_0 hx.1] at hp
    refine zr_lload (pc := 28)  rfl dX8_common_28 ?_
    refine zr_lconst (pc := 30)  (z := 0) (by decide) dX8_common_30 ?_
    refine zr_lcmp_eq (pc := 31)  (tgt := 53) ⟨by omega, by omega⟩ ⟨by omega, by omega⟩ (by decide) dX8_common_31 dX8_common_32 (fun q32 => ?_) (fun q32 => ?_)
    · refine zr_lload (pc := 53)  rfl dX8_common_53 ?_
      refine zr_lreturn (pc := 55)  rfl (by decide) (by decide) dX8_common_55 ?_
      exact hp
    · exact absurd q32 (by omega)
  | succ K ih =>
    intro x y x8 x9 hK hx hy hp
    refine zr_lload (pc := 28)  rfl dX8_common_28 ?_
    refine zr_lconst (pc := 30)  (z := 0) (by decide) dX8_common_30 ?_
    refine zr_lcmp_eq (pc := 31)  (tgt := 53) ⟨by omega, by omega⟩ ⟨by omega, by omega⟩ (by decide) dX8_common_31 dX8_common_32 (fun q32 => ?_) (fun q32 => ?_)
    · subst q32
      rw [gz_0 hx.1] at hp
      refine zr_lload (pc := 53)  rfl dX8_common_53 ?_
      refine zr_lreturn (pc := 55)  rfl (by decide) (by decide) dX8_common_55 ?_
      exact hp
    · have hm0 := Int.emod_nonneg x (show y ≠ 0 by omega)
      have hm1 := Int.emod_lt_of_pos x (show 0 < y by omega)
      refine zr_lload (pc := 35)  rfl dX8_common_35 ?_
      refine zr_lload (pc := 37)  rfl dX8_common_37 ?_
      refine zr_lremN (pc := 39)  ⟨by omega, by omega⟩ ⟨by omega, by omega⟩ dX8_common_39 ?_
      refine zs_lstore_8 (pc := 40)  (by first | exact zn_i | exact zn_r | exact zn_0) (by decide) dX8_common_40 ?_
      refine zr_lload (pc := 42)  rfl dX8_common_42 ?_
      refine zs_lstore_4 (pc := 44)  (by first | exact zn_i | exact zn_r | exact zn_0) (by decide) dX8_common_44 ?_
      refine zr_lload (pc := 46)  rfl dX8_common_46 ?_
      refine zs_lstore_6 (pc := 48)  (by first | exact zn_i | exact zn_r | exact zn_0) (by decide) dX8_common_48 ?_
      refine zr_goto (pc := 50)  (tgt := 28) (by decide) dX8_common_50 ?_
      exact ih y (x % y) _ _ (by omega) hy (by omega) (by rw [← gz_step hx.1 (by omega)]; exact hp)
theorem k_X8_common {p q : Int} (hp : -9223372036854775808 < p ∧ p < 9223372036854775808) (hq : 0 < q ∧ q < 9223372036854775808) (k : Post (some (vl (gz (absZ p) q))) n h) : zMP G mX8_common [vl p, vl q] n h Post := by
  have e1 : p < 0 → absZ p = -p := fun z => if_pos z
  have e2 : ¬ p < 0 → absZ p = p := fun z => if_neg z
  have ha := absZ_R p
  refine zMP_of (by decide) [some _, none, some _, none, none, none, none, none, none, none] (Nat.le_of_ble_eq_true rfl) rfl ?_
  refine zr_lload_n (pc := 0)  (i := 0) rfl rfl dX8_common_0 ?_
  refine zr_lconst (pc := 1)  (z := 0) (by decide) dX8_common_1 ?_
  refine zr_lcmp_ge (pc := 2)  (tgt := 11) ⟨by omega, by omega⟩ ⟨by omega, by omega⟩ (by decide) dX8_common_2 dX8_common_3 (fun q3 => ?_) (fun q3 => ?_)
  · refine zr_lload_n (pc := 11)  (i := 0) rfl rfl dX8_common_11 ?_
    refine zs_lstore_4 (pc := 12)  (by first | exact zn_i | exact zn_r | exact zn_0) (by decide) dX8_common_12 ?_
    refine zr_lload_n (pc := 14)  (i := 2) rfl rfl dX8_common_14 ?_
    refine zr_lconst (pc := 15)  (z := 0) (by decide) dX8_common_15 ?_
    refine zr_lcmp_ge (pc := 16)  (tgt := 25) ⟨by omega, by omega⟩ ⟨by omega, by omega⟩ (by decide) dX8_common_16 dX8_common_17 (fun q17 => ?_) (fun q17 => ?_)
    · refine zr_lload_n (pc := 25)  (i := 2) rfl rfl dX8_common_25 ?_
      refine zs_lstore_6 (pc := 26)  (by first | exact zn_i | exact zn_r | exact zn_0) (by decide) dX8_common_26 ?_
      first | (rw [e1 (by omega)] at k ha; exact l_X8_common q.toNat _ _ _ _ (by omega) (by omega) (by omega) k) | (rw [e2 (by omega)] at k ha; exact l_X8_common q.toNat _ _ _ _ (by omega) (by omega) (by omega) k)
    · exact absurd q17 (by omega)
  · refine zr_lload_n (pc := 6)  (i := 0) rfl rfl dX8_common_6 ?_
    refine zr_lneg (pc := 7)  dX8_common_7 ?_
    refine zr_goto (pc := 8)  (tgt := 12) (by decide) dX8_common_8 ?_
    refine zs_lstore_4 (pc := 12)  (by first | exact zn_i | exact zn_r | exact zn_0) (by decide) dX8_common_12 ?_
    refine zr_lload_n (pc := 14)  (i := 2) rfl rfl dX8_common_14 ?_
    refine zr_lconst (pc := 15)  (z := 0) (by decide) dX8_common_15 ?_
    refine zr_lcmp_ge (pc := 16)  (tgt := 25) ⟨by omega, by omega⟩ ⟨by omega, by omega⟩ (by decide) dX8_common_16 dX8_common_17 (fun q17 => ?_) (fun q17 => ?_)
    · refine zr_lload_n (pc := 25)  (i := 2) rfl rfl dX8_common_25 ?_
      refine zs_lstore_6 (pc := 26)  (by first | exact zn_i | exact zn_r | exact zn_0) (by decide) dX8_common_26 ?_
      first | (rw [e1 (by omega)] at k ha; exact l_X8_common q.toNat _ _ _ _ (by omega) (by omega) (by omega) k) | (rw [e2 (by omega)] at k ha; exact l_X8_common q.toNat _ _ _ _ (by omega) (by omega) (by omega) k)
    · exact absurd q17 (by omega)
theorem k_X8_set {t b : Int} (m38 : h 38 = some (oMod th len N now al pm pd sq up lw)) (ht : -9223372036854775808 < t ∧ t < 9223372036854775808) (hb : 0 < b ∧ b < 9223372036854775808) (k : Post none n (zup h 38 (oMod th len N now al pm pd sq (rdU t b) (rdL t b)))) : zMP G mX8_set [.ref 38, vl t, vl b] n h Post := by
  have hg := gz_pos (a := absZ t) hb.1
  have hg2 := gz_le (a := absZ t) hb.1
  refine zMP_of (by decide) [some _, some _, none, some _, none, none, none] (Nat.le_of_ble_eq_true rfl) rfl ?_
  refine zr_lload_n (pc := 0)  (i := 1) rfl rfl dX8_set_0 ?_
  refine zr_lload_n (pc := 1)  (i := 3) rfl rfl dX8_set_1 ?_
  refine zc_call2 (pc := 2)  cs_X8_set_178 (Nat.le_of_ble_eq_true rfl) (by decide) dX8_set_2 ?_
  refine k_X8_common (by first | assumption | omega | (refine ⟨?_, ?_⟩ <;> omega) | rfl | (repeat (first | assumption | exact zup_s | refine zup_g (by decide) ?_))) (by first | assumption | omega | (refine ⟨?_, ?_⟩ <;> omega) | rfl | (repeat (first | assumption | exact zup_s | refine zup_g (by decide) ?_))) ?_
  dsimp only [Option.toList, List.cons_append, List.nil_append]
  refine zs_lstore_5 (pc := 5)  (by first | exact zn_i | exact zn_r | exact zn_0) (by decide) dX8_set_5 ?_
  refine zr_aload_n (pc := 7)  (i := 0) rfl rfl dX8_set_7 ?_
  refine zr_lload_n (pc := 8)  (i := 3) rfl rfl dX8_set_8 ?_
  refine zr_lconst (pc := 9)  (z := 0) (by decide) dX8_set_9 ?_
  refine zr_lcmp_ge (pc := 10)  (tgt := 22) ⟨by omega, by omega⟩ ⟨by omega, by omega⟩ (by decide) dX8_set_10 dX8_set_11 (fun q11 => ?_) (fun q11 => ?_)
  · refine zr_lload_n (pc := 22)  (i := 1) rfl rfl dX8_set_22 ?_
    refine zr_lload (pc := 23)  rfl dX8_set_23 ?_
    refine zr_ldiv (pc := 25) ⟨by omega, by omega⟩ ⟨by omega, by omega⟩ (by omega) dX8_set_25 ?_
    refine zr_put (pc := 26)  (oMod _ _ _ _ _ _ _ _ _ _) (fp_X8_182 rfl) (by first | assumption | rfl | (repeat (first | assumption | exact zup_s | refine zup_g (by decide) ?_))) (Nat.le_of_ble_eq_true rfl) rfl rfl rfl dX8_set_26 ?_
    refine zr_aload_n (pc := 29)  (i := 0) rfl rfl dX8_set_29 ?_
    refine zr_lload_n (pc := 30)  (i := 3) rfl rfl dX8_set_30 ?_
    refine zr_lconst (pc := 31)  (z := 0) (by decide) dX8_set_31 ?_
    refine zr_lcmp_ge (pc := 32)  (tgt := 44) ⟨by omega, by omega⟩ ⟨by omega, by omega⟩ (by decide) dX8_set_32 dX8_set_33 (fun q33 => ?_) (fun q33 => ?_)
    · refine zr_lload_n (pc := 44)  (i := 3) rfl rfl dX8_set_44 ?_
      refine zr_lload (pc := 45)  rfl dX8_set_45 ?_
      refine zr_ldivN (pc := 47)  ⟨by omega, by omega⟩ ⟨by omega, by omega⟩ dX8_set_47 ?_
      refine zr_put (pc := 48)  (oMod _ _ _ _ _ _ _ _ _ _) (fp_X8_185 rfl) (by first | assumption | rfl | (repeat (first | assumption | exact zup_s | refine zup_g (by decide) ?_))) (Nat.le_of_ble_eq_true rfl) rfl rfl rfl dX8_set_48 ?_
      refine zr_vreturn (pc := 51)  rfl (by decide) (by decide) dX8_set_51 ?_
      rw [zup_zup]
      exact k
    · exact absurd q33 (by omega)
  · exact absurd q11 (by omega)
end MOD
