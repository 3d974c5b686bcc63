/-- Euclid's greatest common divisor, of whole numbers that aren't below 0 -/
def gz (a b : Int) : Int := (Nat.gcd a.toNat b.toNat : Nat)
theorem gz_step {a b : Int} (ha : 0 ≤ a) (hb : 0 < b) : gz a b = gz b (a % b) := by
  unfold gz
  rw [Int.toNat_emod ha (by omega), Nat.gcd_comm a.toNat, Nat.gcd_rec b.toNat a.toNat, Nat.gcd_comm]
theorem gz_0 {a : Int} (ha : 0 ≤ a) : gz a 0 = a := by
  unfold gz
  rw [Int.toNat_zero, Nat.gcd_zero_right]
  omega
theorem gz_pos {a b : Int} (hb : 0 < b) : 0 < gz a b := by
  unfold gz
  have : 0 < Nat.gcd a.toNat b.toNat := Nat.gcd_pos_of_pos_right _ (by omega)
  omega
theorem gz_le {a b : Int} (hb : 0 < b) : gz a b ≤ b := by
  unfold gz
  have := Nat.gcd_le_right a.toNat (n := b.toNat) (by omega)
  omega
/-- how many of Euclid's steps are left -/
def eB (a b : Int) (B : Nat) : Prop := (b ≤ a → a * b + 1 ≤ 2 ^ B) ∧ (a < b → 2 * (a * b + 1) ≤ 2 ^ B)
theorem eB_step {a b : Int} {B : Nat} (ha : 0 ≤ a) (hb : 0 < b) (h : eB a b B) : ∃ B' : Nat, B = B' + 1 ∧ eB b (a % b) B' := by
  have hr0 := Int.emod_nonneg a (show b ≠ 0 by omega)
  have hr1 := Int.emod_lt_of_pos a hb
  have hab : 0 ≤ a * b := Int.mul_nonneg ha (by omega)
  rcases Int.lt_or_le a b with q | q
  · have h2 := h.2 q
    match B, h2 with
    | 0, h2 => simp at h2; omega
    | B' + 1, h2 =>
      refine ⟨B', rfl, fun _ => ?_, fun z => by omega⟩
      rw [Int.emod_eq_of_lt ha q, Int.mul_comm]
      rw [Int.pow_succ] at h2
      omega
  · have h1 := h.1 q
    have hge : b * 1 ≤ b * (a / b) := Int.mul_le_mul_of_nonneg_left ((Int.le_ediv_iff_mul_le hb).mpr (by omega)) (by omega)
    have hdm := Int.mul_ediv_add_emod a b
    have h2r : 2 * (a % b) < a := by omega
    have hm : b * (2 * (a % b)) ≤ b * (a - 1) := Int.mul_le_mul_of_nonneg_left (by omega) (by omega)
    have e1 : b * (2 * (a % b)) = 2 * (b * (a % b)) := by rw [← Int.mul_assoc, Int.mul_comm b 2, Int.mul_assoc]
    have e2 : b * (a - 1) = a * b - b := by rw [Int.mul_sub, Int.mul_one, Int.mul_comm]
    rw [e1, e2] at hm
    match B, h1 with
    | 0, h1 => 
      have : b * 1 ≤ b * a := Int.mul_le_mul_of_nonneg_left (by omega) (by omega)
      rw [Int.mul_comm b a] at this
      simp at h1
      omega
    | B' + 1, h1 =>
      rw [Int.pow_succ] at h1
      exact ⟨B', rfl, fun _ => by omega, fun z => by omega⟩
theorem eB_0 {a b : Int} (ha : 0 ≤ a) (ha2 : a < 9223372036854775808) (hb : 0 < b) (hb2 : b < 9223372036854775808) : eB a b 128 := by
  have : a * b ≤ 9223372036854775808 * 9223372036854775808 := Int.mul_le_mul (by omega) (by omega) (by omega) (by omega)
  exact ⟨fun _ => by simp at *; omega, fun _ => by simp at *; omega⟩
theorem l_X2_commonDivisor {G : zG} {n : Nat} {h : zH} {Post : Option Value → Nat → zH → Prop} {x0 x2 : Option Value} : ∀ (B : Nat) (g l i : Int) (x9 x10 : Option Value), 0 < g → g < 9223372036854775808 → 0 ≤ l → l < 9223372036854775808 → (0 < l → eB g l B) → 0 ≤ i → i + B ≤ 199 → Post (some (vl (gz g l))) n h → zAW G mX2_commonDivisor zTT (zF G mX2_commonDivisor Post) 9 [x0, none, x2, none, some (vl g), none, some (vl l), none, some (vi i), x9, x10] [] n h 0 0 := by
  intro B
  induction B with
  | zero =>
    intro g l i x9 x10 h1 h2 h3 h4 h5 h6 h7 hp
    have hl : l = 0 := by
      rcases Int.lt_or_le 0 l with q | q
      · obtain ⟨B', e, -⟩ := eB_step (by omega) q (h5 q)
        omega
      · omega
    subst hl
    rw [gz_0 (by omega)] at hp
    refine zr_iload (pc := 9)  rfl dX2_commonDivisor_9 ?_
    refine zr_sipush (pc := 11)  (by decide) dX2_commonDivisor_11 ?_
    refine zr_icmp_ge (pc := 14)  (tgt := 45) ⟨by omega, by omega⟩ ⟨by omega, by omega⟩ (by decide) dX2_commonDivisor_14 (fun q14 => ?_) (fun q14 => ?_)
    · exact absurd q14 (by omega)
    · refine zr_lload (pc := 17)  rfl dX2_commonDivisor_17 ?_
      refine zr_lconst (pc := 19)  (z := 0) (by decide) dX2_commonDivisor_19 ?_
      refine zr_lcmp_eq (pc := 20)  (tgt := 45) ⟨by omega, by omega⟩ ⟨by omega, by omega⟩ (by decide) dX2_commonDivisor_20 dX2_commonDivisor_21 (fun q21 => ?_) (fun q21 => ?_)
      · refine zr_lload (pc := 45)  rfl dX2_commonDivisor_45 ?_
        refine zr_lconst (pc := 47)  (z := 0) (by decide) dX2_commonDivisor_47 ?_
        refine zr_lcmp_ne (pc := 48)  (tgt := 56) ⟨by omega, by omega⟩ ⟨by omega, by omega⟩ (by decide) dX2_commonDivisor_48 dX2_commonDivisor_49 (fun q49 => ?_) (fun q49 => ?_)
        · refine zr_lload (pc := 56)  rfl dX2_commonDivisor_56 ?_
          refine zr_lreturn (pc := 58)  rfl (by decide) (by decide) dX2_commonDivisor_58 ?_
          exact hp
        · exact absurd q49 (by omega)
      · exact absurd rfl q21
  | succ B ih =>
    intro g l i x9 x10 h1 h2 h3 h4 h5 h6 h7 hp
    have hr0 : 0 < l → 0 ≤ g % l ∧ g % l < l := fun q => ⟨Int.emod_nonneg g (by omega), Int.emod_lt_of_pos g q⟩
    refine zr_iload (pc := 9)  rfl dX2_commonDivisor_9 ?_
    refine zr_sipush (pc := 11)  (by decide) dX2_commonDivisor_11 ?_
    refine zr_icmp_ge (pc := 14)  (tgt := 45) ⟨by omega, by omega⟩ ⟨by omega, by omega⟩ (by decide) dX2_commonDivisor_14 (fun q14 => ?_) (fun q14 => ?_)
    · exact absurd q14 (by omega)
    · refine zr_lload (pc := 17)  rfl dX2_commonDivisor_17 ?_
      refine zr_lconst (pc := 19)  (z := 0) (by decide) dX2_commonDivisor_19 ?_
      refine zr_lcmp_eq (pc := 20)  (tgt := 45) ⟨by omega, by omega⟩ ⟨by omega, by omega⟩ (by decide) dX2_commonDivisor_20 dX2_commonDivisor_21 (fun q21 => ?_) (fun q21 => ?_)
      · subst q21
        rw [gz_0 (by omega)] at hp
        refine zr_lload (pc := 45)  rfl dX2_commonDivisor_45 ?_
        refine zr_lconst (pc := 47)  (z := 0) (by decide) dX2_commonDivisor_47 ?_
        refine zr_lcmp_ne (pc := 48)  (tgt := 56) ⟨by omega, by omega⟩ ⟨by omega, by omega⟩ (by decide) dX2_commonDivisor_48 dX2_commonDivisor_49 (fun q49 => ?_) (fun q49 => ?_)
        · refine zr_lload (pc := 56)  rfl dX2_commonDivisor_56 ?_
          refine zr_lreturn (pc := 58)  rfl (by decide) (by decide) dX2_commonDivisor_58 ?_
          exact hp
        · exact absurd q49 (by omega)
      · have hr1 := hr0 (by omega)
        refine zr_lload (pc := 24)  rfl dX2_commonDivisor_24 ?_
        refine zr_lload (pc := 26)  rfl dX2_commonDivisor_26 ?_
        refine zr_lremN (pc := 28)  ⟨by omega, by omega⟩ ⟨by omega, by omega⟩ dX2_commonDivisor_28 ?_
        refine zs_lstore_9 (pc := 29)  (by first | exact zn_i | exact zn_r | exact zn_0) (by decide) dX2_commonDivisor_29 ?_
        refine zr_lload (pc := 31)  rfl dX2_commonDivisor_31 ?_
        refine zs_lstore_4 (pc := 33)  (by first | exact zn_i | exact zn_r | exact zn_0) (by decide) dX2_commonDivisor_33 ?_
        refine zr_lload (pc := 35)  rfl dX2_commonDivisor_35 ?_
        refine zs_lstore_6 (pc := 37)  (by first | exact zn_i | exact zn_r | exact zn_0) (by decide) dX2_commonDivisor_37 ?_
        refine zs_iinc_8 (pc := 39)  (by first | exact zn_i | exact zn_r | exact zn_0) (by decide) dX2_commonDivisor_39 ?_
        refine zr_goto (pc := 42)  (tgt := 9) (by decide) dX2_commonDivisor_42 ?_
        refine ih _ _ _ _ _ (by omega) (by omega) (by omega) (by omega) (fun q => ?_) (by omega) (by omega) (by rw [← gz_step (by omega) (by omega)]; exact hp)
        obtain ⟨B', e, e2⟩ := eB_step (by omega) (by omega) (h5 (by omega))
        obtain rfl : B' = B := by omega
        exact e2
theorem k_X2_commonDivisor {G : zG} {n : Nat} {h : zH} {Post : Option Value → Nat → zH → Prop} {a b : Int} (ha : 0 ≤ a ∧ a < 9223372036854775808) (hb : 0 < b ∧ b < 9223372036854775808) (k : Post (some (vl (gz a b))) n h) : zMP G mX2_commonDivisor [vl a, vl b] n h Post := by
  have hr0 : 0 ≤ a % b ∧ a % b < b := ⟨Int.emod_nonneg a (by omega), Int.emod_lt_of_pos a hb.1⟩
  obtain ⟨B', e, e2⟩ := eB_step ha.1 hb.1 (eB_0 ha.1 ha.2 hb.1 hb.2)
  refine zMP_of (by decide) [some _, none, some _, none, none, none, none, none, none, none, none] (Nat.le_of_ble_eq_true rfl) rfl ?_
  refine zr_lload_n (pc := 0)  (i := 0) rfl rfl dX2_commonDivisor_0 ?_
  refine zs_lstore_4 (pc := 1)  (by first | exact zn_i | exact zn_r | exact zn_0) (by decide) dX2_commonDivisor_1 ?_
  refine zr_lload_n (pc := 3)  (i := 2) rfl rfl dX2_commonDivisor_3 ?_
  refine zs_lstore_6 (pc := 4)  (by first | exact zn_i | exact zn_r | exact zn_0) (by decide) dX2_commonDivisor_4 ?_
  refine zr_iconst (pc := 6)  dX2_commonDivisor_6 ?_
  refine zs_istore_8 (pc := 7)  (by first | exact zn_i | exact zn_r | exact zn_0) (by decide) dX2_commonDivisor_7 ?_
  refine zr_iload (pc := 9)  rfl dX2_commonDivisor_9 ?_
  refine zr_sipush (pc := 11)  (by decide) dX2_commonDivisor_11 ?_
  refine zr_icmp_ge (pc := 14)  (tgt := 45) ⟨by omega, by omega⟩ ⟨by omega, by omega⟩ (by decide) dX2_commonDivisor_14 (fun q14 => ?_) (fun q14 => ?_)
  · exact absurd q14 (by omega)
  refine zr_lload (pc := 17)  rfl dX2_commonDivisor_17 ?_
  refine zr_lconst (pc := 19)  (z := 0) (by decide) dX2_commonDivisor_19 ?_
  refine zr_lcmp_eq (pc := 20)  (tgt := 45) ⟨by omega, by omega⟩ ⟨by omega, by omega⟩ (by decide) dX2_commonDivisor_20 dX2_commonDivisor_21 (fun q21 => ?_) (fun q21 => ?_)
  · exact absurd q21 (by omega)
  refine zr_lload (pc := 24)  rfl dX2_commonDivisor_24 ?_
  refine zr_lload (pc := 26)  rfl dX2_commonDivisor_26 ?_
  refine zr_lremN (pc := 28)  ⟨by omega, by omega⟩ ⟨by omega, by omega⟩ dX2_commonDivisor_28 ?_
  refine zs_lstore_9 (pc := 29)  (by first | exact zn_i | exact zn_r | exact zn_0) (by decide) dX2_commonDivisor_29 ?_
  refine zr_lload (pc := 31)  rfl dX2_commonDivisor_31 ?_
  refine zs_lstore_4 (pc := 33)  (by first | exact zn_i | exact zn_r | exact zn_0) (by decide) dX2_commonDivisor_33 ?_
  refine zr_lload (pc := 35)  rfl dX2_commonDivisor_35 ?_
  refine zs_lstore_6 (pc := 37)  (by first | exact zn_i | exact zn_r | exact zn_0) (by decide) dX2_commonDivisor_37 ?_
  refine zs_iinc_8 (pc := 39)  (by first | exact zn_i | exact zn_r | exact zn_0) (by decide) dX2_commonDivisor_39 ?_
  refine zr_goto (pc := 42)  (tgt := 9) (by decide) dX2_commonDivisor_42 ?_
  exact l_X2_commonDivisor B' _ _ _ _ _ (by omega) (by omega) (by omega) (by omega) (fun _ => e2) (by omega) (by omega) (by rw [← gz_step (by omega) (by omega)]; exact k)
/-- a fraction in its lowest terms -/
def absZ (a : Int) : Int := if a < 0 then -a else a
def rdU (t b : Int) : Int := t.tdiv (gz (absZ t) b)
def rdL (t b : Int) : Int := b / gz (absZ t) b
theorem k_X2_put {G : zG} {n : Nat} {h : zH} {Post : Option Value → Nat → zH → Prop} {a : Nat} {u l t b : Int} (ho : h a = some (oFrac u l)) (ht : -9223372036854775808 < t ∧ t < 9223372036854775808) (hb : 0 < b ∧ b < 9223372036854775808) (k : Post none n (zup h a (oFrac (rdU t b) (rdL t b)))) : zMP G mX2_put [.ref a, vl t, vl b] n h Post := by
  have hg := gz_pos (a := absZ t) hb.1
  have hg2 := gz_le (a := absZ t) hb.1
  have hab : 0 ≤ absZ t ∧ absZ t < 9223372036854775808 := by unfold absZ; split <;> omega
  refine zMP_of (by decide) [some _, some _, none, some _, none, none, none] (Nat.le_of_ble_eq_true rfl) rfl ?_
  refine zr_lload_n (pc := 0)  (i := 3) rfl rfl dX2_put_0 ?_
  refine zr_lconst (pc := 1)  (z := 0) (by decide) dX2_put_1 ?_
  refine zr_lcmp_gt (pc := 2)  (tgt := 7) ⟨by omega, by omega⟩ ⟨by omega, by omega⟩ (by decide) dX2_put_2 dX2_put_3 (fun q3 => ?_) (fun q3 => ?_)
  · refine zr_lload_n (pc := 7)  (i := 1) rfl rfl dX2_put_7 ?_
    refine zr_lconst (pc := 8)  (z := 0) (by decide) dX2_put_8 ?_
    refine zr_lcmp_ge (pc := 9)  (tgt := 18) ⟨by omega, by omega⟩ ⟨by omega, by omega⟩ (by decide) dX2_put_9 dX2_put_10 (fun q10 => ?_) (fun q10 => ?_)
    · refine zr_lload_n (pc := 18)  (i := 1) rfl rfl dX2_put_18 ?_
      refine zr_lload_n (pc := 19)  (i := 3) rfl rfl dX2_put_19 ?_
      refine zr_eqlS (b := absZ t) (by unfold absZ; first | rw [if_pos (by omega)] | rw [if_neg (by omega)]) ?_
      refine zc_call2 (pc := 20)  cs_X2_put_18 (Nat.le_of_ble_eq_true rfl) (by decide) dX2_put_20 ?_
      refine k_X2_commonDivisor (by first | assumption | omega | (refine ⟨?_, ?_⟩ <;> omega) | rfl | (repeat (first | assumption | exact zup_s | refine zup_g (by decide) ?_))) (by first | assumption | omega | (refine ⟨?_, ?_⟩ <;> omega) | rfl | (repeat (first | assumption | exact zup_s | refine zup_g (by decide) ?_))) ?_
      dsimp only [Option.toList, List.cons_append, List.nil_append]
      refine zs_lstore_5 (pc := 23)  (by first | exact zn_i | exact zn_r | exact zn_0) (by decide) dX2_put_23 ?_
      refine zr_aload_n (pc := 25)  (i := 0) rfl rfl dX2_put_25 ?_
      refine zr_lload_n (pc := 26)  (i := 1) rfl rfl dX2_put_26 ?_
      refine zr_lload (pc := 27)  rfl dX2_put_27 ?_
      refine zr_ldiv (pc := 29) ⟨by omega, by omega⟩ ⟨by omega, by omega⟩ (by omega) dX2_put_29 ?_
      refine zr_put (pc := 30)  (oFrac _ _) (fp_X2_9 rfl) (by first | assumption | rfl | (repeat (first | assumption | exact zup_s | refine zup_g (by decide) ?_))) (Nat.le_of_ble_eq_true rfl) rfl rfl rfl dX2_put_30 ?_
      refine zr_aload_n (pc := 33)  (i := 0) rfl rfl dX2_put_33 ?_
      refine zr_lload_n (pc := 34)  (i := 3) rfl rfl dX2_put_34 ?_
      refine zr_lload (pc := 35)  rfl dX2_put_35 ?_
      refine zr_ldivN (pc := 37)  ⟨by omega, by omega⟩ ⟨by omega, by omega⟩ dX2_put_37 ?_
      refine zr_put (pc := 38)  (oFrac _ _) (fp_X2_15 rfl) (by first | assumption | rfl | (repeat (first | assumption | exact zup_s | refine zup_g (by decide) ?_))) (Nat.le_of_ble_eq_true rfl) rfl rfl rfl dX2_put_38 ?_
      refine zr_vreturn (pc := 41)  rfl (by decide) (by decide) dX2_put_41 ?_
      rw [zup_zup]
      exact k
    · refine zr_lload_n (pc := 13)  (i := 1) rfl rfl dX2_put_13 ?_
      refine zr_lneg (pc := 14)  dX2_put_14 ?_
      refine zr_goto (pc := 15)  (tgt := 19) (by decide) dX2_put_15 ?_
      refine zr_lload_n (pc := 19)  (i := 3) rfl rfl dX2_put_19 ?_
      refine zr_eqlS (b := absZ t) (by unfold absZ; first | rw [if_pos (by omega)] | rw [if_neg (by omega)]) ?_
      refine zc_call2 (pc := 20)  cs_X2_put_18 (Nat.le_of_ble_eq_true rfl) (by decide) dX2_put_20 ?_
      refine k_X2_commonDivisor (by first | assumption | omega | (refine ⟨?_, ?_⟩ <;> omega) | rfl | (repeat (first | assumption | exact zup_s | refine zup_g (by decide) ?_))) (by first | assumption | omega | (refine ⟨?_, ?_⟩ <;> omega) | rfl | (repeat (first | assumption | exact zup_s | refine zup_g (by decide) ?_))) ?_
      dsimp only [Option.toList, List.cons_append, List.nil_append]
      refine zs_lstore_5 (pc := 23)  (by first | exact zn_i | exact zn_r | exact zn_0) (by decide) dX2_put_23 ?_
      refine zr_aload_n (pc := 25)  (i := 0) rfl rfl dX2_put_25 ?_
      refine zr_lload_n (pc := 26)  (i := 1) rfl rfl dX2_put_26 ?_
      refine zr_lload (pc := 27)  rfl dX2_put_27 ?_
      refine zr_ldiv (pc := 29) ⟨by omega, by omega⟩ ⟨by omega, by omega⟩ (by omega) dX2_put_29 ?_
      refine zr_put (pc := 30)  (oFrac _ _) (fp_X2_9 rfl) (by first | assumption | rfl | (repeat (first | assumption | exact zup_s | refine zup_g (by decide) ?_))) (Nat.le_of_ble_eq_true rfl) rfl rfl rfl dX2_put_30 ?_
      refine zr_aload_n (pc := 33)  (i := 0) rfl rfl dX2_put_33 ?_
      refine zr_lload_n (pc := 34)  (i := 3) rfl rfl dX2_put_34 ?_
      refine zr_lload (pc := 35)  rfl dX2_put_35 ?_
      refine zr_ldivN (pc := 37)  ⟨by omega, by omega⟩ ⟨by omega, by omega⟩ dX2_put_37 ?_
      refine zr_put (pc := 38)  (oFrac _ _) (fp_X2_15 rfl) (by first | assumption | rfl | (repeat (first | assumption | exact zup_s | refine zup_g (by decide) ?_))) (Nat.le_of_ble_eq_true rfl) rfl rfl rfl dX2_put_38 ?_
      refine zr_vreturn (pc := 41)  rfl (by decide) (by decide) dX2_put_41 ?_
      rw [zup_zup]
      exact k
  · exact absurd q3 (by omega)
theorem k_X2_part {G : zG} {n : Nat} {h : zH} {Post : Option Value → Nat → zH → Prop} {a : Nat} {u l w : Int} (ho : h a = some (oFrac u l)) (hw : iR w) (k : Post (some (vl (if w = 0 then u else l))) n h) : zMP G mX2_part [.ref a, vi w] n h Post := by
  refine zMP_of (by decide) [some _, some _] (Nat.le_of_ble_eq_true rfl) rfl ?_
  refine zr_iload_n (pc := 0)  (i := 1) rfl rfl dX2_part_0 ?_
  refine zr_if_ne (pc := 1)  (tgt := 11) ⟨by omega, by omega⟩ (by decide) dX2_part_1 (fun q1 => ?_) (fun q1 => ?_)
  · refine zr_aload_n (pc := 11)  (i := 0) rfl rfl dX2_part_11 ?_
    refine zr_get (pc := 12)  fl_X2_15 (by first | assumption | rfl | (repeat (first | assumption | exact zup_s | refine zup_g (by decide) ?_))) rfl dX2_part_12 ?_
    refine zr_lreturn (pc := 15)  rfl (by decide) (by decide) dX2_part_15 ?_
    first | (rw [if_pos (by omega)] at k; exact k) | (rw [if_neg (by omega)] at k; exact k)
  · refine zr_aload_n (pc := 4)  (i := 0) rfl rfl dX2_part_4 ?_
    refine zr_get (pc := 5)  fl_X2_9 (by first | assumption | rfl | (repeat (first | assumption | exact zup_s | refine zup_g (by decide) ?_))) rfl dX2_part_5 ?_
    refine zr_goto (pc := 8)  (tgt := 15) (by decide) dX2_part_8 ?_
    refine zr_lreturn (pc := 15)  rfl (by decide) (by decide) dX2_part_15 ?_
    first | (rw [if_pos (by omega)] at k; exact k) | (rw [if_neg (by omega)] at k; exact k)
theorem k_X2_roundedHalfUp {G : zG} {n : Nat} {h : zH} {Post : Option Value → Nat → zH → Prop} {a : Nat} {u l : Int} (ho : h a = some (oFrac u l)) (hu : 0 ≤ u ∧ u < 2305843009213693952) (hl : 0 < l ∧ l < 2305843009213693952) (k : Post (some (vl ((2 * u + l) / (2 * l)))) n h) : zMP G mX2_roundedHalfUp [.ref a] n h Post := by
  refine zMP_of (by decide) [some _] (Nat.le_of_ble_eq_true rfl) rfl ?_
  refine zr_ldc2 (pc := 0)  (z := 2) kl_X2_22 (by decide) dX2_roundedHalfUp_0 ?_
  refine zr_aload_n (pc := 3)  (i := 0) rfl rfl dX2_roundedHalfUp_3 ?_
  refine zr_get (pc := 4)  fl_X2_9 (by first | assumption | rfl | (repeat (first | assumption | exact zup_s | refine zup_g (by decide) ?_))) rfl dX2_roundedHalfUp_4 ?_
  refine zr_lmul (pc := 7)  dX2_roundedHalfUp_7 ?_
  refine zr_aload_n (pc := 8)  (i := 0) rfl rfl dX2_roundedHalfUp_8 ?_
  refine zr_get (pc := 9)  fl_X2_15 (by first | assumption | rfl | (repeat (first | assumption | exact zup_s | refine zup_g (by decide) ?_))) rfl dX2_roundedHalfUp_9 ?_
  refine zr_ladd (pc := 12)  dX2_roundedHalfUp_12 ?_
  refine zr_ldc2 (pc := 13)  (z := 2) kl_X2_22 (by decide) dX2_roundedHalfUp_13 ?_
  refine zr_aload_n (pc := 16)  (i := 0) rfl rfl dX2_roundedHalfUp_16 ?_
  refine zr_get (pc := 17)  fl_X2_15 (by first | assumption | rfl | (repeat (first | assumption | exact zup_s | refine zup_g (by decide) ?_))) rfl dX2_roundedHalfUp_17 ?_
  refine zr_lmul (pc := 20)  dX2_roundedHalfUp_20 ?_
  refine zr_ldivN (pc := 21)  ⟨by omega, by omega⟩ ⟨by omega, by omega⟩ dX2_roundedHalfUp_21 ?_
  refine zr_lreturn (pc := 22)  rfl (by decide) (by decide) dX2_roundedHalfUp_22 ?_
  exact k
def sgZ (x : Int) : Int := if x < 0 then -1 else if x = 0 then 0 else 1
theorem sgZ_neg (x : Int) : sgZ (-x) = -sgZ x := by unfold sgZ; split <;> split <;> (try split) <;> omega
theorem od_1 {a b c d : Int} (hb : 0 < b) (hd : 0 < d) (hc : 0 ≤ c) (h : a / b < c / d) : sgZ (a * d - c * b) = -1 := by
  have h1 := Int.mul_ediv_add_emod a b
  have h2 := Int.mul_ediv_add_emod c d
  have h3 := Int.emod_lt_of_pos a hb
  have h4 := Int.emod_nonneg c (show d ≠ 0 by omega)
  have h5 : b * (a / b) + b ≤ b * (c / d) := by
    have := Int.mul_le_mul_of_nonneg_left (show a / b + 1 ≤ c / d by omega) (show 0 ≤ b by omega)
    rw [Int.mul_add, Int.mul_one] at this
    exact this
  have h6 : a < b * (c / d) := by omega
  have h7 : a * d < b * (c / d) * d := Int.mul_lt_mul_of_pos_right h6 hd
  have h8 : b * (c / d) * d ≤ c * b := by
    have : d * (c / d) ≤ c := by omega
    have := Int.mul_le_mul_of_nonneg_left this (show 0 ≤ b by omega)
    rw [← Int.mul_assoc, Int.mul_comm b d, Int.mul_assoc, Int.mul_comm d, Int.mul_comm b c] at this
    exact this
  unfold sgZ
  rw [if_pos (by omega)]
theorem od_2 {a b c d : Int} (hb : 0 < b) (hd : 0 < d) (ha : 0 ≤ a) (h : c / d < a / b) : sgZ (a * d - c * b) = 1 := by
  have := od_1 hd hb ha h
  rw [show a * d - c * b = -(c * b - a * d) by omega, sgZ_neg, this]
  rfl
theorem od_3 {a b c d : Int} (h : a / b = c / d) : a * d - c * b = (a % b) * d - (c % d) * b := by
  have h1 := Int.mul_ediv_add_emod a b
  have h2 := Int.mul_ediv_add_emod c d
  have e1 : a * d = b * (a / b) * d + a % b * d := by rw [← Int.add_mul, h1]
  have e2 : c * b = d * (c / d) * b + c % d * b := by rw [← Int.add_mul, h2]
  have e3 : b * (a / b) * d = d * (c / d) * b := by rw [h]; simp only [Int.mul_comm, Int.mul_left_comm]
  omega
theorem l_X2_order {G : zG} {n : Nat} {h : zH} {Post : Option Value → Nat → zH → Prop} {x0 x2 x4 x6 : Option Value} : ∀ (B : Nat) (sg a b c d i : Int) (x18 x19 x20 x21 x22 x23 x24 x25 : Option Value), (sg = 1 ∨ sg = -1) → 0 ≤ a → a < 9223372036854775808 → 0 ≤ b → b < 9223372036854775808 → 0 ≤ c → c < 9223372036854775808 → 0 ≤ d → d < 9223372036854775808 → (0 < b → eB a b B) → (b = 0 → 0 < a) → (d = 0 → 0 < c) → 0 ≤ i → i + B ≤ 199 → Post (some (vi (sg * sgZ (a * d - c * b)))) n h → zAW G mX2_order zTT (zF G mX2_order Post) 20 [x0, none, x2, none, x4, none, x6, none, some (vi sg), some (vl a), none, some (vl b), none, some (vl c), none, some (vl d), none, some (vi i), x18, x19, x20, x21, x22, x23, x24, x25] [] n h 0 0 := by
  intro B
  induction B with
  | zero =>
    intro sg a b c d i x18 x19 x20 x21 x22 x23 x24 x25 hsg ha ha2 hb hb2 hc hc2 hd hd2 heb hba hdc hi hiB hp
    have hl : b = 0 := by
      rcases Int.lt_or_le 0 b with q | q
      · obtain ⟨B', e, -⟩ := eB_step (by omega) q (heb q)
        omega
      · omega
    subst hl
    have ha3 := hba rfl
    rw [Int.mul_zero, Int.sub_zero] at hp
    have hd3 : 0 < d → sgZ (a * d) = 1 := fun q => by
      have := Int.mul_pos ha3 q
      unfold sgZ; rw [if_neg (by omega), if_neg (by omega)]
    refine zr_iload (pc := 20)  rfl dX2_order_20 ?_
    refine zr_sipush (pc := 22)  (by decide) dX2_order_22 ?_
    refine zr_icmp_ge (pc := 25)  (tgt := 128) ⟨by omega, by omega⟩ ⟨by omega, by omega⟩ (by decide) dX2_order_25 (fun q25 => ?_) (fun q25 => ?_)
    · exact absurd q25 (by omega)
    · refine zr_lload (pc := 28)  rfl dX2_order_28 ?_
      refine zr_lconst (pc := 30)  (z := 0) (by decide) dX2_order_30 ?_
      refine zr_lcmp_le (pc := 31)  (tgt := 128) ⟨by omega, by omega⟩ ⟨by omega, by omega⟩ (by decide) dX2_order_31 dX2_order_32 (fun q32 => ?_) (fun q32 => ?_)
      · refine zr_lload (pc := 128)  rfl dX2_order_128 ?_
        refine zr_lload (pc := 130)  rfl dX2_order_130 ?_
        refine zr_lcmp_ne (pc := 132)  (tgt := 138) ⟨by omega, by omega⟩ ⟨by omega, by omega⟩ (by decide) dX2_order_132 dX2_order_133 (fun q133 => ?_) (fun q133 => ?_)
        · refine zr_lload (pc := 138)  rfl dX2_order_138 ?_
          refine zr_lconst (pc := 140)  (z := 0) (by decide) dX2_order_140 ?_
          refine zr_lcmp_ne (pc := 141)  (tgt := 150) ⟨by omega, by omega⟩ ⟨by omega, by omega⟩ (by decide) dX2_order_141 dX2_order_142 (fun q142 => ?_) (fun q142 => ?_)
          · exact absurd rfl q142
          · refine zr_iload (pc := 145)  rfl dX2_order_145 ?_
            refine zr_goto (pc := 147)  (tgt := 153) (by decide) dX2_order_147 ?_
            refine zr_ireturn (pc := 153)  rfl (by decide) (by decide) dX2_order_153 ?_
            rw [hd3 (by omega), Int.mul_one] at hp
            exact hp
        · refine zr_iconst (pc := 136)  dX2_order_136 ?_
          refine zr_ireturn (pc := 137)  rfl (by decide) (by decide) dX2_order_137 ?_
          obtain rfl : d = 0 := by omega
          rw [Int.mul_zero] at hp
          rw [show sg * sgZ 0 = 0 from by unfold sgZ; simp] at hp
          exact hp
      · exact absurd q32 (by omega)
  | succ B ih =>
    intro sg a b c d i x18 x19 x20 x21 x22 x23 x24 x25 hsg ha ha2 hb hb2 hc hc2 hd hd2 heb hba hdc hi hiB hp
    have hs1 : b = 0 → 0 < d → sgZ (a * d - c * b) = 1 := fun q q2 => by
      have := Int.mul_pos (hba q) q2
      rw [q, Int.mul_zero, Int.sub_zero]
      unfold sgZ; rw [if_neg (by omega), if_neg (by omega)]
    have hs2 : d = 0 → 0 < b → sgZ (a * d - c * b) = -1 := fun q q2 => by
      have := Int.mul_pos (hdc q) q2
      rw [q, Int.mul_zero, Int.zero_sub, sgZ_neg]
      unfold sgZ; rw [if_neg (by omega), if_neg (by omega)]
    have hs3 : b = 0 → d = 0 → sgZ (a * d - c * b) = 0 := fun q q2 => by
      rw [q, q2, Int.mul_zero, Int.mul_zero]; rfl
    have hr0 : 0 < b → 0 ≤ a % b ∧ a % b < b := fun q => ⟨Int.emod_nonneg a (by omega), Int.emod_lt_of_pos a q⟩
    have hr1 : 0 < d → 0 ≤ c % d ∧ c % d < d := fun q => ⟨Int.emod_nonneg c (by omega), Int.emod_lt_of_pos c q⟩
    have hq0 : 0 < b → 0 ≤ a / b ∧ a / b ≤ a := fun q => ⟨Int.ediv_nonneg ha (by omega), Int.ediv_le_self b ha⟩
    have hq1 : 0 < d → 0 ≤ c / d ∧ c / d ≤ c := fun q => ⟨Int.ediv_nonneg hc (by omega), Int.ediv_le_self d hc⟩
    refine zr_iload (pc := 20)  rfl dX2_order_20 ?_
    refine zr_sipush (pc := 22)  (by decide) dX2_order_22 ?_
    refine zr_icmp_ge (pc := 25)  (tgt := 128) ⟨by omega, by omega⟩ ⟨by omega, by omega⟩ (by decide) dX2_order_25 (fun q25 => ?_) (fun q25 => ?_)
    · exact absurd q25 (by omega)
    · refine zr_lload (pc := 28)  rfl dX2_order_28 ?_
      refine zr_lconst (pc := 30)  (z := 0) (by decide) dX2_order_30 ?_
      refine zr_lcmp_le (pc := 31)  (tgt := 128) ⟨by omega, by omega⟩ ⟨by omega, by omega⟩ (by decide) dX2_order_31 dX2_order_32 (fun q32 => ?_) (fun q32 => ?_)
      · refine zr_lload (pc := 128)  rfl dX2_order_128 ?_
        refine zr_lload (pc := 130)  rfl dX2_order_130 ?_
        refine zr_lcmp_ne (pc := 132)  (tgt := 138) ⟨by omega, by omega⟩ ⟨by omega, by omega⟩ (by decide) dX2_order_132 dX2_order_133 (fun q133 => ?_) (fun q133 => ?_)
        · refine zr_lload (pc := 138)  rfl dX2_order_138 ?_
          refine zr_lconst (pc := 140)  (z := 0) (by decide) dX2_order_140 ?_
          refine zr_lcmp_ne (pc := 141)  (tgt := 150) ⟨by omega, by omega⟩ ⟨by omega, by omega⟩ (by decide) dX2_order_141 dX2_order_142 (fun q142 => ?_) (fun q142 => ?_)
          · refine zr_iload (pc := 150)  rfl dX2_order_150 ?_
            refine zr_ineg (pc := 152)  dX2_order_152 ?_
            refine zr_ireturn (pc := 153)  rfl (by decide) (by decide) dX2_order_153 ?_
            first | (rw [hs1 (by omega) (by omega), Int.mul_one] at hp; exact hp) | (rw [hs2 (by omega) (by omega), Int.mul_neg, Int.mul_one] at hp; exact hp)
          · refine zr_iload (pc := 145)  rfl dX2_order_145 ?_
            refine zr_goto (pc := 147)  (tgt := 153) (by decide) dX2_order_147 ?_
            refine zr_ireturn (pc := 153)  rfl (by decide) (by decide) dX2_order_153 ?_
            first | (rw [hs1 (by omega) (by omega), Int.mul_one] at hp; exact hp) | (rw [hs2 (by omega) (by omega), Int.mul_neg, Int.mul_one] at hp; exact hp)
        · refine zr_iconst (pc := 136)  dX2_order_136 ?_
          refine zr_ireturn (pc := 137)  rfl (by decide) (by decide) dX2_order_137 ?_
          rw [hs3 (by omega) (by omega), Int.mul_zero] at hp
          exact hp
      · refine zr_lload (pc := 35)  rfl dX2_order_35 ?_
        refine zr_lconst (pc := 37)  (z := 0) (by decide) dX2_order_37 ?_
        refine zr_lcmp_le (pc := 38)  (tgt := 128) ⟨by omega, by omega⟩ ⟨by omega, by omega⟩ (by decide) dX2_order_38 dX2_order_39 (fun q39 => ?_) (fun q39 => ?_)
        · refine zr_lload (pc := 128)  rfl dX2_order_128 ?_
          refine zr_lload (pc := 130)  rfl dX2_order_130 ?_
          refine zr_lcmp_ne (pc := 132)  (tgt := 138) ⟨by omega, by omega⟩ ⟨by omega, by omega⟩ (by decide) dX2_order_132 dX2_order_133 (fun q133 => ?_) (fun q133 => ?_)
          · refine zr_lload (pc := 138)  rfl dX2_order_138 ?_
            refine zr_lconst (pc := 140)  (z := 0) (by decide) dX2_order_140 ?_
            refine zr_lcmp_ne (pc := 141)  (tgt := 150) ⟨by omega, by omega⟩ ⟨by omega, by omega⟩ (by decide) dX2_order_141 dX2_order_142 (fun q142 => ?_) (fun q142 => ?_)
            · refine zr_iload (pc := 150)  rfl dX2_order_150 ?_
              refine zr_ineg (pc := 152)  dX2_order_152 ?_
              refine zr_ireturn (pc := 153)  rfl (by decide) (by decide) dX2_order_153 ?_
              first | (rw [hs1 (by omega) (by omega), Int.mul_one] at hp; exact hp) | (rw [hs2 (by omega) (by omega), Int.mul_neg, Int.mul_one] at hp; exact hp)
            · refine zr_iload (pc := 145)  rfl dX2_order_145 ?_
              refine zr_goto (pc := 147)  (tgt := 153) (by decide) dX2_order_147 ?_
              refine zr_ireturn (pc := 153)  rfl (by decide) (by decide) dX2_order_153 ?_
              first | (rw [hs1 (by omega) (by omega), Int.mul_one] at hp; exact hp) | (rw [hs2 (by omega) (by omega), Int.mul_neg, Int.mul_one] at hp; exact hp)
          · refine zr_iconst (pc := 136)  dX2_order_136 ?_
            refine zr_ireturn (pc := 137)  rfl (by decide) (by decide) dX2_order_137 ?_
            rw [hs3 (by omega) (by omega), Int.mul_zero] at hp
            exact hp
        · have u0 := hr0 (by omega)
          have u1 := hr1 (by omega)
          have u2 := hq0 (by omega)
          have u3 := hq1 (by omega)
          refine zr_lload (pc := 42)  rfl dX2_order_42 ?_
          refine zr_lload (pc := 44)  rfl dX2_order_44 ?_
          refine zr_ldivN (pc := 46)  ⟨by omega, by omega⟩ ⟨by omega, by omega⟩ dX2_order_46 ?_
          refine zs_lstore_18 (pc := 47)  (by first | exact zn_i | exact zn_r | exact zn_0) (by decide) dX2_order_47 ?_
          refine zr_lload (pc := 49)  rfl dX2_order_49 ?_
          refine zr_lload (pc := 51)  rfl dX2_order_51 ?_
          refine zr_ldivN (pc := 53)  ⟨by omega, by omega⟩ ⟨by omega, by omega⟩ dX2_order_53 ?_
          refine zs_lstore_20 (pc := 54)  (by first | exact zn_i | exact zn_r | exact zn_0) (by decide) dX2_order_54 ?_
          refine zr_lload (pc := 56)  rfl dX2_order_56 ?_
          refine zr_lload (pc := 58)  rfl dX2_order_58 ?_
          refine zr_lcmp_eq (pc := 60)  (tgt := 81) ⟨by omega, by omega⟩ ⟨by omega, by omega⟩ (by decide) dX2_order_60 dX2_order_61 (fun q61 => ?_) (fun q61 => ?_)
          · obtain ⟨B', e, e2⟩ := eB_step ha (by omega) (heb (by omega))
            obtain rfl : B' = B := by omega
            have e3 : a - a / b * b = a % b := by have := Int.mul_ediv_add_emod a b; rw [Int.mul_comm] at this; omega
            have e4 : c - c / d * d = c % d := by have := Int.mul_ediv_add_emod c d; rw [Int.mul_comm] at this; omega
            rw [od_3 q61, show a % b * d - c % d * b = -(b * (c % d) - d * (a % b)) from by rw [Int.mul_comm (a % b), Int.mul_comm (c % d)]; omega, sgZ_neg, Int.mul_neg, ← Int.neg_mul] at hp
            refine zr_lload (pc := 81)  rfl dX2_order_81 ?_
            refine zr_lload (pc := 83)  rfl dX2_order_83 ?_
            refine zr_lload (pc := 85)  rfl dX2_order_85 ?_
            refine zr_lmul (pc := 87)  dX2_order_87 ?_
            refine zr_lsub (pc := 88)  dX2_order_88 ?_
            refine zr_eql e3 ?_
            refine zs_lstore_22 (pc := 89)  (by first | exact zn_i | exact zn_r | exact zn_0) (by decide) dX2_order_89 ?_
            refine zr_lload (pc := 91)  rfl dX2_order_91 ?_
            refine zr_lload (pc := 93)  rfl dX2_order_93 ?_
            refine zr_lload (pc := 95)  rfl dX2_order_95 ?_
            refine zr_lmul (pc := 97)  dX2_order_97 ?_
            refine zr_lsub (pc := 98)  dX2_order_98 ?_
            refine zr_eql e4 ?_
            refine zs_lstore_24 (pc := 99)  (by first | exact zn_i | exact zn_r | exact zn_0) (by decide) dX2_order_99 ?_
            refine zr_lload (pc := 101)  rfl dX2_order_101 ?_
            refine zs_lstore_9 (pc := 103)  (by first | exact zn_i | exact zn_r | exact zn_0) (by decide) dX2_order_103 ?_
            refine zr_lload (pc := 105)  rfl dX2_order_105 ?_
            refine zs_lstore_11 (pc := 107)  (by first | exact zn_i | exact zn_r | exact zn_0) (by decide) dX2_order_107 ?_
            refine zr_lload (pc := 109)  rfl dX2_order_109 ?_
            refine zs_lstore_13 (pc := 111)  (by first | exact zn_i | exact zn_r | exact zn_0) (by decide) dX2_order_111 ?_
            refine zr_lload (pc := 113)  rfl dX2_order_113 ?_
            refine zs_lstore_15 (pc := 115)  (by first | exact zn_i | exact zn_r | exact zn_0) (by decide) dX2_order_115 ?_
            refine zr_iload (pc := 117)  rfl dX2_order_117 ?_
            refine zr_ineg (pc := 119)  dX2_order_119 ?_
            refine zs_istore_8 (pc := 120)  (by first | exact zn_i | exact zn_r | exact zn_0) (by decide) dX2_order_120 ?_
            refine zs_iinc_17 (pc := 122)  (by first | exact zn_i | exact zn_r | exact zn_0) (by decide) dX2_order_122 ?_
            refine zr_goto (pc := 125)  (tgt := 20) (by decide) dX2_order_125 ?_
            exact ih _ _ _ _ _ _ _ _ _ _ _ _ _ _ (by omega) (by omega) (by omega) (by omega) (by omega) (by omega) (by omega) (by omega) (by omega) (fun _ => e2) (fun _ => by omega) (fun _ => by omega) (by omega) (by omega) hp
          · refine zr_lload (pc := 64)  rfl dX2_order_64 ?_
            refine zr_lload (pc := 66)  rfl dX2_order_66 ?_
            refine zr_lcmp_le (pc := 68)  (tgt := 77) ⟨by omega, by omega⟩ ⟨by omega, by omega⟩ (by decide) dX2_order_68 dX2_order_69 (fun q69 => ?_) (fun q69 => ?_)
            · refine zr_iload (pc := 77)  rfl dX2_order_77 ?_
              refine zr_ineg (pc := 79)  dX2_order_79 ?_
              refine zr_ireturn (pc := 80)  rfl (by decide) (by decide) dX2_order_80 ?_
              first | (rw [od_1 (by omega) (by omega) hc (by omega), Int.mul_neg, Int.mul_one] at hp; exact hp) | (rw [od_2 (by omega) (by omega) ha (by omega), Int.mul_one] at hp; exact hp)
            · refine zr_iload (pc := 72)  rfl dX2_order_72 ?_
              refine zr_goto (pc := 74)  (tgt := 80) (by decide) dX2_order_74 ?_
              refine zr_ireturn (pc := 80)  rfl (by decide) (by decide) dX2_order_80 ?_
              first | (rw [od_1 (by omega) (by omega) hc (by omega), Int.mul_neg, Int.mul_one] at hp; exact hp) | (rw [od_2 (by omega) (by omega) ha (by omega), Int.mul_one] at hp; exact hp)
theorem k_X2_order {G : zG} {n : Nat} {h : zH} {Post : Option Value → Nat → zH → Prop} {a b c d : Int} (ha : 0 ≤ a ∧ a < 9223372036854775808) (hb : 0 < b ∧ b < 9223372036854775808) (hc : 0 ≤ c ∧ c < 9223372036854775808) (hd : 0 < d ∧ d < 9223372036854775808) (k : Post (some (vi (sgZ (a * d - c * b)))) n h) : zMP G mX2_order [vl a, vl b, vl c, vl d] n h Post := by
  refine zMP_of (by decide) [some _, none, some _, none, some _, none, some _, none, none, none, none, none, none, none, none, none, none, none, none, none, none, none, none, none, none, none] (Nat.le_of_ble_eq_true rfl) rfl ?_
  refine zr_iconst (pc := 0)  dX2_order_0 ?_
  refine zs_istore_8 (pc := 1)  (by first | exact zn_i | exact zn_r | exact zn_0) (by decide) dX2_order_1 ?_
  refine zr_lload_n (pc := 3)  (i := 0) rfl rfl dX2_order_3 ?_
  refine zs_lstore_9 (pc := 4)  (by first | exact zn_i | exact zn_r | exact zn_0) (by decide) dX2_order_4 ?_
  refine zr_lload_n (pc := 6)  (i := 2) rfl rfl dX2_order_6 ?_
  refine zs_lstore_11 (pc := 7)  (by first | exact zn_i | exact zn_r | exact zn_0) (by decide) dX2_order_7 ?_
  refine zr_lload (pc := 9)  rfl dX2_order_9 ?_
  refine zs_lstore_13 (pc := 11)  (by first | exact zn_i | exact zn_r | exact zn_0) (by decide) dX2_order_11 ?_
  refine zr_lload (pc := 13)  rfl dX2_order_13 ?_
  refine zs_lstore_15 (pc := 15)  (by first | exact zn_i | exact zn_r | exact zn_0) (by decide) dX2_order_15 ?_
  refine zr_iconst (pc := 17)  dX2_order_17 ?_
  refine zs_istore_17 (pc := 18)  (by first | exact zn_i | exact zn_r | exact zn_0) (by decide) dX2_order_18 ?_
  exact l_X2_order 128 1 a b c d 0 _ _ _ _ _ _ _ _ (Or.inl rfl) ha.1 ha.2 (by omega) hb.2 hc.1 hc.2 (by omega) hd.2 (fun _ => eB_0 ha.1 ha.2 hb.1 hb.2) (fun _ => by omega) (fun _ => by omega) (by omega) (by omega) (by rw [Int.one_mul]; exact k)
