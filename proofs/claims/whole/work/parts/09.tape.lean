theorem k_X5_length {G : zG} {n : Nat} {h : zH} {Post : Option Value → Nat → zH → Prop} {len : Int} (h1 : h 1 = some (oTape len)) (k : Post (some (vi len)) n h) : zMP G mX5_length [.ref 1] n h Post := by
  refine zMP_of (by decide) [some _] (Nat.le_of_ble_eq_true rfl) rfl ?_
  refine zr_aload_n (pc := 0)  (i := 0) rfl rfl dX5_length_0 ?_
  refine zr_get (pc := 1)  fl_X5_15 (by first | assumption | rfl | (repeat (first | assumption | exact zup_s | refine zup_g (by decide) ?_))) rfl dX5_length_1 ?_
  refine zr_ireturn (pc := 4)  rfl (by decide) (by decide) dX5_length_4 ?_
  exact k
theorem k_X5_at {G : zG} {n : Nat} {h : zH} {Post : Option Value → Nat → zH → Prop} {len i : Int} {g : Int → Int} (h1 : h 1 = some (oTape len)) (h2 : h 2 = some (aI 200 g)) (hl : 0 ≤ len ∧ len ≤ 200) (hi : iR i) (k : Post (some (vi (if 0 ≤ i ∧ i < len then g i else 0))) n h) : zMP G mX5_at [.ref 1, vi i] n h Post := by
  refine zMP_of (by decide) [some _, some _] (Nat.le_of_ble_eq_true rfl) rfl ?_
  refine zr_iload_n (pc := 0)  (i := 1) rfl rfl dX5_at_0 ?_
  refine zr_aload_n (pc := 1)  (i := 0) rfl rfl dX5_at_1 ?_
  refine zr_get (pc := 2)  fl_X5_15 (by first | assumption | rfl | (repeat (first | assumption | exact zup_s | refine zup_g (by decide) ?_))) rfl dX5_at_2 ?_
  refine zn_call2 (pc := 5)  cn_X5_at_19 (Nat.le_of_ble_eq_true rfl) (by decide) dX5_at_5 ?_
  refine k_X7_isBelow (by first | assumption | omega | (refine ⟨?_, ?_⟩ <;> omega) | rfl | (repeat (first | assumption | exact zup_s | refine zup_g (by decide) ?_))) (by first | assumption | omega | (refine ⟨?_, ?_⟩ <;> omega) | rfl | (repeat (first | assumption | exact zup_s | refine zup_g (by decide) ?_))) ?_
  dsimp only [Option.toList, List.cons_append, List.nil_append]
  refine zb_eq (pc := 8) (tgt := 20) (by decide) dX5_at_8 (fun q8 => ?_) (fun q8 => ?_)
  · refine zr_iconst (pc := 20)  dX5_at_20 ?_
    refine zr_ireturn (pc := 21)  rfl (by decide) (by decide) dX5_at_21 ?_
    first | (rw [if_pos (by omega)] at k; exact k) | (rw [if_neg (by omega)] at k; exact k)
  · refine zr_aload_n (pc := 11)  (i := 0) rfl rfl dX5_at_11 ?_
    refine zr_get (pc := 12)  fl_X5_9 (by first | assumption | rfl | (repeat (first | assumption | exact zup_s | refine zup_g (by decide) ?_))) rfl dX5_at_12 ?_
    refine zr_iload_n (pc := 15)  (i := 1) rfl rfl dX5_at_15 ?_
    refine zr_iald (pc := 16)  (by first | assumption | rfl | (repeat (first | assumption | exact zup_s | refine zup_g (by decide) ?_))) ⟨by omega, by omega⟩ (by decide) dX5_at_16 ?_
    refine zr_goto (pc := 17)  (tgt := 21) (by decide) dX5_at_17 ?_
    refine zr_ireturn (pc := 21)  rfl (by decide) (by decide) dX5_at_21 ?_
    first | (rw [if_pos (by omega)] at k; exact k) | (rw [if_neg (by omega)] at k; exact k)
theorem k_X5_cut {G : zG} {n : Nat} {h : zH} {Post : Option Value → Nat → zH → Prop} {len z : Int} (h1 : h 1 = some (oTape len)) (hl : 0 ≤ len ∧ len ≤ 200) (hz : iR z) (kT : 0 ≤ z ∧ z ≤ len → Post (some (vi 1)) n (zup h 1 (oTape z))) (kF : ¬ (0 ≤ z ∧ z ≤ len) → Post (some (vi 0)) n h) : zMP G mX5_cut [.ref 1, vi z] n h Post := by
  refine zMP_of (by decide) [some _, some _] (Nat.le_of_ble_eq_true rfl) rfl ?_
  refine zr_iload_n (pc := 0)  (i := 1) rfl rfl dX5_cut_0 ?_
  refine zr_if_lt (pc := 1)  (tgt := 12) ⟨by omega, by omega⟩ (by decide) dX5_cut_1 (fun q1 => ?_) (fun q1 => ?_)
  · refine zr_iconst (pc := 12)  dX5_cut_12 ?_
    refine zr_zreturn (pc := 13)  rfl (by omega) (by decide) (by decide) dX5_cut_13 ?_
    first | exact kT (by omega) | exact kF (by omega)
  · refine zr_iload_n (pc := 4)  (i := 1) rfl rfl dX5_cut_4 ?_
    refine zr_aload_n (pc := 5)  (i := 0) rfl rfl dX5_cut_5 ?_
    refine zr_get (pc := 6)  fl_X5_15 (by first | assumption | rfl | (repeat (first | assumption | exact zup_s | refine zup_g (by decide) ?_))) rfl dX5_cut_6 ?_
    refine zr_icmp_le (pc := 9)  (tgt := 14) ⟨by omega, by omega⟩ ⟨by omega, by omega⟩ (by decide) dX5_cut_9 (fun q9 => ?_) (fun q9 => ?_)
    · refine zr_aload_n (pc := 14)  (i := 0) rfl rfl dX5_cut_14 ?_
      refine zr_iload_n (pc := 15)  (i := 1) rfl rfl dX5_cut_15 ?_
      refine zr_put (pc := 16)  (oTape _) (fp_X5_15 rfl) (by first | assumption | rfl | (repeat (first | assumption | exact zup_s | refine zup_g (by decide) ?_))) (Nat.le_of_ble_eq_true rfl) rfl rfl rfl dX5_cut_16 ?_
      refine zr_iconst (pc := 19)  dX5_cut_19 ?_
      refine zr_zreturn (pc := 20)  rfl (by omega) (by decide) (by decide) dX5_cut_20 ?_
      first | exact kT (by omega) | exact kF (by omega)
    · refine zr_iconst (pc := 12)  dX5_cut_12 ?_
      refine zr_zreturn (pc := 13)  rfl (by omega) (by decide) (by decide) dX5_cut_13 ?_
      first | exact kT (by omega) | exact kF (by omega)

/-- byte k of an int, from below -/
def byteZ (z : Int) (k : Nat) : Int := z / ((256 ^ k : Nat) : Int) % 256
theorem byteZ_R (z : Int) (k : Nat) : 0 ≤ byteZ z k ∧ byteZ z k ≤ 255 := by unfold byteZ; omega
theorem nI_iZ (k : Nat) : nI k = iZ (k : Int) := rfl
theorem bv_toNat (x : Int32) : (x.toBitVec.toNat : Int) = x.toInt % 4294967296 := by
  have h : x.toInt = x.toBitVec.toInt := rfl
  have := x.toBitVec.isLt
  rw [h, BitVec.toInt_eq_toNat_bmod, Int.bmod_def, show (2 ^ 32 : Nat) = 4294967296 from rfl]
  split <;> omega
theorem ushr_byte (z : Int) (hz : iR z) (k : Nat) (hk : k < 4) : ((iZ z).toUInt32 >>> ((iZ ((8 * k : Nat) : Int)).toUInt32 &&& Int32.toUInt32 31)).toInt32 &&& iZ 255 = iZ (byteZ z k) := by
  have e1 := pk_ushr (iZ z) (iZ ((8 * k : Nat) : Int)) (8 * k) (by
    rcases (show k = 0 ∨ k = 1 ∨ k = 2 ∨ k = 3 by omega) with rfl | rfl | rfl | rfl <;> decide)
  rw [pk_and _ 8 (show (iZ 255).toBitVec.toNat = 2 ^ 8 - 1 by decide), e1, nI_iZ]
  congr 1
  unfold byteZ
  have e2 := bv_toNat (iZ z)
  rw [iZ_toInt hz] at e2
  rcases (show k = 0 ∨ k = 1 ∨ k = 2 ∨ k = 3 by omega) with rfl | rfl | rfl | rfl <;> omega
theorem sshr_byte (z : Int) (hz : iR z) (k : Nat) (hk : k < 4) : (iZ z >>> (iZ ((8 * k : Nat) : Int) &&& 31)).toInt8.toInt32 &&& iZ 255 = iZ (byteZ z k) := by
  have e0 : (iZ z >>> (iZ ((8 * k : Nat) : Int) &&& 31)).toInt8.toInt32 &&& iZ 255 = (iZ z >>> (iZ ((8 * k : Nat) : Int) &&& 31)) &&& iZ 255 := by
    apply Int32.toBitVec_inj.mp
    simp only [Int32.toBitVec_and]
    ext i hi
    have h255 : (iZ 255).toBitVec = 255#32 := by decide
    rw [h255]
    by_cases h8 : i < 8
    · simp [Int8.toBitVec_toInt32, Int32.toBitVec_toInt8, BitVec.getElem_signExtend, h8, hi]
    · have : (255#32).getLsbD i = false := by
        rcases (show i = 8 ∨ i = 9 ∨ i = 10 ∨ i = 11 ∨ i = 12 ∨ i = 13 ∨ i = 14 ∨ i = 15 ∨ i = 16 ∨ i = 17 ∨ i = 18 ∨ i = 19 ∨ i = 20 ∨ i = 21 ∨ i = 22 ∨ i = 23 ∨ i = 24 ∨ i = 25 ∨ i = 26 ∨ i = 27 ∨ i = 28 ∨ i = 29 ∨ i = 30 ∨ i = 31 by omega) with rfl | rfl | rfl | rfl | rfl | rfl | rfl | rfl | rfl | rfl | rfl | rfl | rfl | rfl | rfl | rfl | rfl | rfl | rfl | rfl | rfl | rfl | rfl | rfl <;> decide
      simp [BitVec.getElem_and, ← BitVec.getLsbD_eq_getElem, this]
  have e1 := pk_shr (iZ z) (iZ ((8 * k : Nat) : Int) &&& 31) (8 * k) (by
    rcases (show k = 0 ∨ k = 1 ∨ k = 2 ∨ k = 3 by omega) with rfl | rfl | rfl | rfl <;> decide)
  rw [e0, pk_and _ 8 (show (iZ 255).toBitVec.toNat = 2 ^ 8 - 1 by decide), nI_iZ]
  congr 1
  unfold byteZ
  have e2 := bv_toNat (iZ z >>> (iZ ((8 * k : Nat) : Int) &&& 31))
  rw [e1, iZ_toInt hz, Int.shiftRight_eq_div_pow] at e2
  rcases (show k = 0 ∨ k = 1 ∨ k = 2 ∨ k = 3 by omega) with rfl | rfl | rfl | rfl <;> omega
/-- the tape's two cells -/
def hT (h : zH) (len : Int) (g : Int → Int) : zH := zup (zup h 2 (aI 200 g)) 1 (oTape len)
theorem hT_set2 {h : zH} {len : Int} {g g' : Int → Int} : zup (hT h len g) 2 (aI 200 g') = hT h len g' := by unfold hT; rw [zup_comm (by decide), zup_zup]
theorem hT_set1 {h : zH} {len len' : Int} {g : Int → Int} : zup (hT h len g) 1 (oTape len') = hT h len' g := by unfold hT; rw [zup_zup]
theorem hT_self {h : zH} {len : Int} {g : Int → Int} (h1 : h 1 = some (oTape len)) (h2 : h 2 = some (aI 200 g)) : hT h len g = h := by unfold hT; rw [zup_self h2, zup_self h1]
/-- the row behind the bytes k - 1 .. 0 of x, written from len on -/
def appG (z : Int) : Nat → (Int → Int) → Int → (Int → Int)
  | 0, g, _ => g
  | k + 1, g, len => appG z k (uZ g len (byteZ z k)) (len + 1)
theorem l_X5_append {G : zG} {n : Nat} {h : zH} {Post : Option Value → Nat → zH → Prop} {z : Int} (hz : iR z) : ∀ (k : Nat) (sh len : Int) (g : Int → Int), sh = 8 * (k : Int) - 8 → k ≤ 4 → 0 ≤ len → len + k ≤ 200 → Post none n (hT h (len + k) (appG z k g len)) → zAW G mX5_append zTT (zF G mX5_append Post) 3 [some (.ref 1), some (vi z), some (vi sh)] [] n (hT h len g) 0 0 := by
  intro k
  induction k with
  | zero =>
    intro sh len g hsh hk h0 hl hp
    have e : len + ((0 : Nat) : Int) = len := by omega
    rw [e] at hp
    refine zr_iload_n (pc := 3)  (i := 2) rfl rfl dX5_append_3 ?_
    refine zr_if_lt (pc := 4)  (tgt := 49) ⟨by omega, by omega⟩ (by decide) dX5_append_4 (fun q4 => ?_) (fun q4 => ?_)
    · refine zr_vreturn (pc := 49)  rfl (by decide) (by decide) dX5_append_49 ?_
      exact hp
    · exact absurd q4 (by omega)
  | succ k ih =>
    intro sh len g hsh hk h0 hl hp
    obtain rfl : sh = ((8 * k : Nat) : Int) := by omega
    refine zr_iload_n (pc := 3)  (i := 2) rfl rfl dX5_append_3 ?_
    refine zr_if_lt (pc := 4)  (tgt := 49) ⟨by omega, by omega⟩ (by decide) dX5_append_4 (fun q4 => ?_) (fun q4 => ?_)
    · exact absurd q4 (by omega)
    · refine zr_aload_n (pc := 7)  (i := 0) rfl rfl dX5_append_7 ?_
      refine zr_get (pc := 8)  fl_X5_15 (by first | assumption | rfl | (repeat (first | assumption | exact zup_s | refine zup_g (by decide) ?_))) rfl dX5_append_8 ?_
      refine zr_sipush (pc := 11)  (by decide) dX5_append_11 ?_
      refine zr_icmp_ge (pc := 14)  (tgt := 49) ⟨by omega, by omega⟩ ⟨by omega, by omega⟩ (by decide) dX5_append_14 (fun q14 => ?_) (fun q14 => ?_)
      · exact absurd q14 (by omega)
      · refine zr_aload_n (pc := 17)  (i := 0) rfl rfl dX5_append_17 ?_
        refine zr_get (pc := 18)  fl_X5_9 (by first | assumption | rfl | (repeat (first | assumption | exact zup_s | refine zup_g (by decide) ?_))) rfl dX5_append_18 ?_
        refine zr_aload_n (pc := 21)  (i := 0) rfl rfl dX5_append_21 ?_
        refine zr_get (pc := 22)  fl_X5_15 (by first | assumption | rfl | (repeat (first | assumption | exact zup_s | refine zup_g (by decide) ?_))) rfl dX5_append_22 ?_
        refine zr_iload_n (pc := 25)  (i := 1) rfl rfl dX5_append_25 ?_
        refine zr_iload_n (pc := 26)  (i := 2) rfl rfl dX5_append_26 ?_
        refine zr_iushr (pc := 27)  dX5_append_27 ?_
        refine zr_sipush (pc := 28)  (by decide) dX5_append_28 ?_
        refine zr_iand (pc := 31) (z := byteZ z k) (ushr_byte z hz k (by omega)) dX5_append_31 ?_
        refine zr_iast (pc := 32)  (by first | assumption | rfl | (repeat (first | assumption | exact zup_s | refine zup_g (by decide) ?_))) ⟨by omega, by omega⟩ (by decide) dX5_append_32 ?_
        refine zr_heap hT_set2 ?_
        refine zr_aload_n (pc := 33)  (i := 0) rfl rfl dX5_append_33 ?_
        refine zr_dup (pc := 34)  rfl dX5_append_34 ?_
        refine zr_get (pc := 35)  fl_X5_15 (by first | assumption | rfl | (repeat (first | assumption | exact zup_s | refine zup_g (by decide) ?_))) rfl dX5_append_35 ?_
        refine zr_iconst (pc := 38)  dX5_append_38 ?_
        refine zr_iadd (pc := 39)  dX5_append_39 ?_
        refine zr_put (pc := 40)  (oTape _) (fp_X5_15 rfl) (by first | assumption | rfl | (repeat (first | assumption | exact zup_s | refine zup_g (by decide) ?_))) (Nat.le_of_ble_eq_true rfl) rfl rfl rfl dX5_append_40 ?_
        refine zr_heap hT_set1 ?_
        refine zs_iinc_2 (pc := 43)  (by first | exact zn_i | exact zn_r | exact zn_0) (by decide) dX5_append_43 ?_
        refine zr_goto (pc := 46)  (tgt := 3) (by decide) dX5_append_46 ?_
        exact ih _ _ _ (by omega) (by omega) (by omega) (by omega) (by rw [show len + 1 + (k : Int) = len + ((k + 1 : Nat) : Int) by omega]; exact hp)
theorem k_X5_append {G : zG} {n : Nat} {h : zH} {Post : Option Value → Nat → zH → Prop} {z len : Int} {g : Int → Int} (h1 : h 1 = some (oTape len)) (h2 : h 2 = some (aI 200 g)) (hz : iR z) (hl : 0 ≤ len ∧ len + 4 ≤ 200) (k : Post none n (hT h (len + 4) (appG z 4 g len))) : zMP G mX5_append [.ref 1, vi z] n h Post := by
  refine zMP_of (by decide) [some _, some _, none] (Nat.le_of_ble_eq_true rfl) rfl ?_
  refine zr_bipush (pc := 0)  (by decide) dX5_append_0 ?_
  refine zs_istore_n_2 (pc := 2)  (by first | exact zn_i | exact zn_r | exact zn_0) (by decide) dX5_append_2 ?_
  refine zr_heap (hT_self h1 h2).symm ?_
  exact l_X5_append hz 4 24 len g (by decide) (by decide) hl.1 (by omega) k
theorem l_X5_holdsCountsAlone {G : zG} {n : Nat} {h : zH} {Post : Option Value → Nat → zH → Prop} {len : Int} {g : Int → Int} (h1 : h 1 = some (oTape len)) (h2 : h 2 = some (aI 200 g)) (hg : ∀ i, 0 ≤ g i ∧ g i ≤ 255) (hl : 0 ≤ len ∧ len ≤ 200) (kk : Post (some (vb (∀ i, 0 ≤ i → i < len → g i ≤ 50 ∨ g i = 255))) n h) : ∀ (k : Nat) (i : Int), len - i ≤ k → 0 ≤ i → i ≤ len → (∀ j, 0 ≤ j → j < i → g j ≤ 50 ∨ g j = 255) → zAW G mX5_holdsCountsAlone zTT (zF G mX5_holdsCountsAlone Post) 2 [some (.ref 1), some (vi i)] [] n h 0 0 := by
  intro k
  induction k with
  | zero =>
    intro i hk h0 hi hall
    refine zr_iload_n (pc := 2)  (i := 1) rfl rfl dX5_holdsCountsAlone_2 ?_
    refine zr_aload_n (pc := 3)  (i := 0) rfl rfl dX5_holdsCountsAlone_3 ?_
    refine zr_get (pc := 4)  fl_X5_15 (by first | assumption | rfl | (repeat (first | assumption | exact zup_s | refine zup_g (by decide) ?_))) rfl dX5_holdsCountsAlone_4 ?_
    refine zr_icmp_ge (pc := 7)  (tgt := 41) ⟨by omega, by omega⟩ ⟨by omega, by omega⟩ (by decide) dX5_holdsCountsAlone_7 (fun q7 => ?_) (fun q7 => ?_)
    · refine zr_iconst (pc := 41)  dX5_holdsCountsAlone_41 ?_
      refine zr_zreturn (pc := 42)  rfl (by omega) (by decide) (by decide) dX5_holdsCountsAlone_42 ?_
      exact zb_t (fun j a b => hall j a (by omega)) kk
    · exact absurd q7 (by omega)
  | succ k ih =>
    intro i hk h0 hi hall
    have hgi := hg i
    refine zr_iload_n (pc := 2)  (i := 1) rfl rfl dX5_holdsCountsAlone_2 ?_
    refine zr_aload_n (pc := 3)  (i := 0) rfl rfl dX5_holdsCountsAlone_3 ?_
    refine zr_get (pc := 4)  fl_X5_15 (by first | assumption | rfl | (repeat (first | assumption | exact zup_s | refine zup_g (by decide) ?_))) rfl dX5_holdsCountsAlone_4 ?_
    refine zr_icmp_ge (pc := 7)  (tgt := 41) ⟨by omega, by omega⟩ ⟨by omega, by omega⟩ (by decide) dX5_holdsCountsAlone_7 (fun q7 => ?_) (fun q7 => ?_)
    · refine zr_iconst (pc := 41)  dX5_holdsCountsAlone_41 ?_
      refine zr_zreturn (pc := 42)  rfl (by omega) (by decide) (by decide) dX5_holdsCountsAlone_42 ?_
      exact zb_t (fun j a b => hall j a (by omega)) kk
    · refine zr_aload_n (pc := 10)  (i := 0) rfl rfl dX5_holdsCountsAlone_10 ?_
      refine zr_get (pc := 11)  fl_X5_9 (by first | assumption | rfl | (repeat (first | assumption | exact zup_s | refine zup_g (by decide) ?_))) rfl dX5_holdsCountsAlone_11 ?_
      refine zr_iload_n (pc := 14)  (i := 1) rfl rfl dX5_holdsCountsAlone_14 ?_
      refine zr_iald (pc := 15)  (by first | assumption | rfl | (repeat (first | assumption | exact zup_s | refine zup_g (by decide) ?_))) ⟨by omega, by omega⟩ (by decide) dX5_holdsCountsAlone_15 ?_
      refine zr_bipush (pc := 16)  (by decide) dX5_holdsCountsAlone_16 ?_
      refine zr_icmp_le (pc := 18)  (tgt := 35) ⟨by omega, by omega⟩ ⟨by omega, by omega⟩ (by decide) dX5_holdsCountsAlone_18 (fun q18 => ?_) (fun q18 => ?_)
      · refine zs_iinc_1 (pc := 35)  (by first | exact zn_i | exact zn_r | exact zn_0) (by decide) dX5_holdsCountsAlone_35 ?_
        refine zr_goto (pc := 38)  (tgt := 2) (by decide) dX5_holdsCountsAlone_38 ?_
        exact ih _ (by omega) (by omega) (by omega) (fun j a b => by rcases Int.lt_or_le j i with q | q; exact hall j a q; (obtain rfl : j = i := by omega); omega)
      · refine zr_aload_n (pc := 21)  (i := 0) rfl rfl dX5_holdsCountsAlone_21 ?_
        refine zr_get (pc := 22)  fl_X5_9 (by first | assumption | rfl | (repeat (first | assumption | exact zup_s | refine zup_g (by decide) ?_))) rfl dX5_holdsCountsAlone_22 ?_
        refine zr_iload_n (pc := 25)  (i := 1) rfl rfl dX5_holdsCountsAlone_25 ?_
        refine zr_iald (pc := 26)  (by first | assumption | rfl | (repeat (first | assumption | exact zup_s | refine zup_g (by decide) ?_))) ⟨by omega, by omega⟩ (by decide) dX5_holdsCountsAlone_26 ?_
        refine zr_sipush (pc := 27)  (by decide) dX5_holdsCountsAlone_27 ?_
        refine zr_icmp_eq (pc := 30)  (tgt := 35) ⟨by omega, by omega⟩ ⟨by omega, by omega⟩ (by decide) dX5_holdsCountsAlone_30 (fun q30 => ?_) (fun q30 => ?_)
        · refine zs_iinc_1 (pc := 35)  (by first | exact zn_i | exact zn_r | exact zn_0) (by decide) dX5_holdsCountsAlone_35 ?_
          refine zr_goto (pc := 38)  (tgt := 2) (by decide) dX5_holdsCountsAlone_38 ?_
          exact ih _ (by omega) (by omega) (by omega) (fun j a b => by rcases Int.lt_or_le j i with q | q; exact hall j a q; (obtain rfl : j = i := by omega); omega)
        · refine zr_iconst (pc := 33)  dX5_holdsCountsAlone_33 ?_
          refine zr_zreturn (pc := 34)  rfl (by omega) (by decide) (by decide) dX5_holdsCountsAlone_34 ?_
          exact zb_f (fun q => by have := q i h0 (by omega); omega) kk
theorem k_X5_holdsCountsAlone {G : zG} {n : Nat} {h : zH} {Post : Option Value → Nat → zH → Prop} {len : Int} {g : Int → Int} (h1 : h 1 = some (oTape len)) (h2 : h 2 = some (aI 200 g)) (hg : ∀ i, 0 ≤ g i ∧ g i ≤ 255) (hl : 0 ≤ len ∧ len ≤ 200) (k : Post (some (vb (∀ i, 0 ≤ i → i < len → g i ≤ 50 ∨ g i = 255))) n h) : zMP G mX5_holdsCountsAlone [.ref 1] n h Post := by
  refine zMP_of (by decide) [some _, none] (Nat.le_of_ble_eq_true rfl) rfl ?_
  refine zr_iconst (pc := 0)  dX5_holdsCountsAlone_0 ?_
  refine zs_istore_n_1 (pc := 1)  (by first | exact zn_i | exact zn_r | exact zn_0) (by decide) dX5_holdsCountsAlone_1 ?_
  exact l_X5_holdsCountsAlone h1 h2 hg hl k 200 0 (by omega) (by omega) (by omega) (fun j a b => by omega)
