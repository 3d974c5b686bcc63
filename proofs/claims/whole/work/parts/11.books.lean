/-- the last of the first k numbers with f, or -1 -/
def lastE (f : Int → Bool) : Nat → Int
  | 0 => -1
  | k + 1 => if f k then k else lastE f k
theorem lastE_R (f : Int → Bool) : ∀ k : Nat, -1 ≤ lastE f k ∧ lastE f k < k
  | 0 => by unfold lastE; omega
  | k + 1 => by
    have := lastE_R f k
    unfold lastE
    split <;> omega
theorem lastE_t (f : Int → Bool) : ∀ k : Nat, 0 ≤ lastE f k → f (lastE f k) = true
  | 0, h => by unfold lastE at h; omega
  | k + 1, h => by
    unfold lastE at h ⊢
    split
    · assumption
    · rename_i q
      rw [if_neg q] at h
      exact lastE_t f k h
theorem lastE_congr {f g : Int → Bool} : ∀ k : Nat, (∀ j : Int, 0 ≤ j → j < k → f j = g j) → lastE f k = lastE g k
  | 0, _ => rfl
  | k + 1, h => by
    unfold lastE
    rw [h k (by omega) (by omega), lastE_congr k (fun j a b => h j a (by omega))]
/-- fewer numbers: look on from the last of the more -/
theorem lastE_step {f g : Int → Bool} (hg : ∀ j, g j = true → f j = true) : ∀ k : Nat, lastE g k = if 0 ≤ lastE f k then (if g (lastE f k) then lastE f k else lastE g (lastE f k).toNat) else -1
  | 0 => by
    unfold lastE
    rw [if_neg (by omega)]
  | k + 1 => by
    have ih := lastE_step hg k
    by_cases q : f k = true
    · rw [show lastE f (k + 1) = k from by unfold lastE; rw [if_pos q]]
      rw [if_pos (by omega)]
      show (if g k = true then (k : Int) else lastE g k) = _
      rw [Int.toNat_natCast]
    · have e : lastE f (k + 1) = lastE f k := by
        show (if f k = true then (k : Int) else lastE f k) = _
        rw [if_neg q]
      have q2 : ¬ g k = true := fun z => q (hg k z)
      have e2 : lastE g (k + 1) = lastE g k := by
        show (if g k = true then (k : Int) else lastE g k) = _
        rw [if_neg q2]
      rw [e, e2]
      exact ih
/-- which entry a place holds as of t -/
def holdZ (pl tm : Int → Int) (N : Nat) (p t : Int) : Int := lastE (fun e => pl e == p && decide (tm e ≤ t)) N
/-- a place's state as of t -/
def stZ (ap cn pl tm : Int → Int) (N : Nat) (p t : Int) : Int := if ap p = 1 then -3 else if holdZ pl tm N p t = -1 then -2 else cn (holdZ pl tm N p t)
/-- the chains: the newest entry of a place, and the one of the same place ahead of an entry -/
def chZ (nw er pl : Int → Int) (N : Nat) : Prop := (∀ p, 0 ≤ p → p < 1344 → nw p = lastE (fun e => pl e == p) N) ∧ ∀ e : Int, 0 ≤ e → e < N → er e = lastE (fun x => pl x == pl e) e.toNat
theorem k_X1_number {G : zG} {n : Nat} {h : zH} {Post : Option Value → Nat → zH → Prop} {num : Int} (h8 : h 8 = some (oBooks num)) (k : Post (some (vi num)) n h) : zMP G mX1_number [.ref 8] n h Post := by
  refine zMP_of (by decide) [some _] (Nat.le_of_ble_eq_true rfl) rfl ?_
  refine zr_aload_n (pc := 0)  (i := 0) rfl rfl dX1_number_0 ?_
  refine zr_get (pc := 1)  fl_X1_37 (by first | assumption | rfl | (repeat (first | assumption | exact zup_s | refine zup_g (by decide) ?_))) rfl dX1_number_1 ?_
  refine zr_ireturn (pc := 4)  rfl (by decide) (by decide) dX1_number_4 ?_
  exact k
theorem k_X1_hasRoomFor {G : zG} {n : Nat} {h : zH} {Post : Option Value → Nat → zH → Prop} {num m : Int} (h8 : h 8 = some (oBooks num)) (hm : 0 ≤ m ∧ m ≤ 200) (hN : 0 ≤ num ∧ num ≤ 600) (k : Post (some (vb (num + m ≤ 600))) n h) : zMP G mX1_hasRoomFor [.ref 8, vi m] n h Post := by
  refine zMP_of (by decide) [some _, some _] (Nat.le_of_ble_eq_true rfl) rfl ?_
  refine zr_aload_n (pc := 0)  (i := 0) rfl rfl dX1_hasRoomFor_0 ?_
  refine zr_get (pc := 1)  fl_X1_37 (by first | assumption | rfl | (repeat (first | assumption | exact zup_s | refine zup_g (by decide) ?_))) rfl dX1_hasRoomFor_1 ?_
  refine zr_iload_n (pc := 4)  (i := 1) rfl rfl dX1_hasRoomFor_4 ?_
  refine zr_iadd (pc := 5)  dX1_hasRoomFor_5 ?_
  refine zr_sipush (pc := 6)  (by decide) dX1_hasRoomFor_6 ?_
  refine zr_icmp_gt (pc := 9)  (tgt := 16) ⟨by omega, by omega⟩ ⟨by omega, by omega⟩ (by decide) dX1_hasRoomFor_9 (fun q9 => ?_) (fun q9 => ?_)
  · refine zr_iconst (pc := 16)  dX1_hasRoomFor_16 ?_
    refine zr_zreturn (pc := 17)  rfl (by omega) (by decide) (by decide) dX1_hasRoomFor_17 ?_
    first | exact zb_t (by omega) k | exact zb_f (by omega) k
  · refine zr_iconst (pc := 12)  dX1_hasRoomFor_12 ?_
    refine zr_goto (pc := 13)  (tgt := 17) (by decide) dX1_hasRoomFor_13 ?_
    refine zr_zreturn (pc := 17)  rfl (by omega) (by decide) (by decide) dX1_hasRoomFor_17 ?_
    first | exact zb_t (by omega) k | exact zb_f (by omega) k
theorem k_X1_enter {G : zG} {n : Nat} {h : zH} {Post : Option Value → Nat → zH → Prop} {num pl tm ct : Int} {bt bc be bn : Int → Int} (h8 : h 8 = some (oBooks num)) (h9 : h 9 = some (aI 600 bt)) (h10 : h 10 = some (aI 600 bc)) (h12 : h 12 = some (aI 600 be)) (h13 : h 13 = some (aI 1344 bn)) (hN : 0 ≤ num ∧ num < 600) (hp : 0 ≤ pl ∧ pl < 1344) (k : Post none n (zup (zup (zup (zup (zup h 9 (aI 600 (uZ bt num tm))) 10 (aI 600 (uZ bc num ct))) 12 (aI 600 (uZ be num (bn pl)))) 13 (aI 1344 (uZ bn pl num))) 8 (oBooks (num + 1)))) : zMP G mX1_enter [.ref 8, vi pl, vi tm, vi ct] n h Post := by
  refine zMP_of (by decide) [some _, some _, some _, some _] (Nat.le_of_ble_eq_true rfl) rfl ?_
  refine zr_aload_n (pc := 0)  (i := 0) rfl rfl dX1_enter_0 ?_
  refine zr_get (pc := 1)  fl_X1_37 (by first | assumption | rfl | (repeat (first | assumption | exact zup_s | refine zup_g (by decide) ?_))) rfl dX1_enter_1 ?_
  refine zr_sipush (pc := 4)  (by decide) dX1_enter_4 ?_
  refine zr_icmp_ge (pc := 7)  (tgt := 65) ⟨by omega, by omega⟩ ⟨by omega, by omega⟩ (by decide) dX1_enter_7 (fun q7 => ?_) (fun q7 => ?_)
  · exact absurd q7 (by omega)
  · refine zr_aload_n (pc := 10)  (i := 0) rfl rfl dX1_enter_10 ?_
    refine zr_get (pc := 11)  fl_X1_9 (by first | assumption | rfl | (repeat (first | assumption | exact zup_s | refine zup_g (by decide) ?_))) rfl dX1_enter_11 ?_
    refine zr_aload_n (pc := 14)  (i := 0) rfl rfl dX1_enter_14 ?_
    refine zr_get (pc := 15)  fl_X1_37 (by first | assumption | rfl | (repeat (first | assumption | exact zup_s | refine zup_g (by decide) ?_))) rfl dX1_enter_15 ?_
    refine zr_iload_n (pc := 18)  (i := 2) rfl rfl dX1_enter_18 ?_
    refine zr_iast (pc := 19)  (by first | assumption | rfl | (repeat (first | assumption | exact zup_s | refine zup_g (by decide) ?_))) ⟨by omega, by omega⟩ (by decide) dX1_enter_19 ?_
    refine zr_aload_n (pc := 20)  (i := 0) rfl rfl dX1_enter_20 ?_
    refine zr_get (pc := 21)  fl_X1_15 (by first | assumption | rfl | (repeat (first | assumption | exact zup_s | refine zup_g (by decide) ?_))) rfl dX1_enter_21 ?_
    refine zr_aload_n (pc := 24)  (i := 0) rfl rfl dX1_enter_24 ?_
    refine zr_get (pc := 25)  fl_X1_37 (by first | assumption | rfl | (repeat (first | assumption | exact zup_s | refine zup_g (by decide) ?_))) rfl dX1_enter_25 ?_
    refine zr_iload_n (pc := 28)  (i := 3) rfl rfl dX1_enter_28 ?_
    refine zr_iast (pc := 29)  (by first | assumption | rfl | (repeat (first | assumption | exact zup_s | refine zup_g (by decide) ?_))) ⟨by omega, by omega⟩ (by decide) dX1_enter_29 ?_
    refine zr_aload_n (pc := 30)  (i := 0) rfl rfl dX1_enter_30 ?_
    refine zr_get (pc := 31)  fl_X1_21 (by first | assumption | rfl | (repeat (first | assumption | exact zup_s | refine zup_g (by decide) ?_))) rfl dX1_enter_31 ?_
    refine zr_aload_n (pc := 34)  (i := 0) rfl rfl dX1_enter_34 ?_
    refine zr_get (pc := 35)  fl_X1_37 (by first | assumption | rfl | (repeat (first | assumption | exact zup_s | refine zup_g (by decide) ?_))) rfl dX1_enter_35 ?_
    refine zr_aload_n (pc := 38)  (i := 0) rfl rfl dX1_enter_38 ?_
    refine zr_get (pc := 39)  fl_X1_24 (by first | assumption | rfl | (repeat (first | assumption | exact zup_s | refine zup_g (by decide) ?_))) rfl dX1_enter_39 ?_
    refine zr_iload_n (pc := 42)  (i := 1) rfl rfl dX1_enter_42 ?_
    refine zr_iald (pc := 43)  (by first | assumption | rfl | (repeat (first | assumption | exact zup_s | refine zup_g (by decide) ?_))) ⟨by omega, by omega⟩ (by decide) dX1_enter_43 ?_
    refine zr_iast (pc := 44)  (by first | assumption | rfl | (repeat (first | assumption | exact zup_s | refine zup_g (by decide) ?_))) ⟨by omega, by omega⟩ (by decide) dX1_enter_44 ?_
    refine zr_aload_n (pc := 45)  (i := 0) rfl rfl dX1_enter_45 ?_
    refine zr_get (pc := 46)  fl_X1_24 (by first | assumption | rfl | (repeat (first | assumption | exact zup_s | refine zup_g (by decide) ?_))) rfl dX1_enter_46 ?_
    refine zr_iload_n (pc := 49)  (i := 1) rfl rfl dX1_enter_49 ?_
    refine zr_aload_n (pc := 50)  (i := 0) rfl rfl dX1_enter_50 ?_
    refine zr_get (pc := 51)  fl_X1_37 (by first | assumption | rfl | (repeat (first | assumption | exact zup_s | refine zup_g (by decide) ?_))) rfl dX1_enter_51 ?_
    refine zr_iast (pc := 54)  (by first | assumption | rfl | (repeat (first | assumption | exact zup_s | refine zup_g (by decide) ?_))) ⟨by omega, by omega⟩ (by decide) dX1_enter_54 ?_
    refine zr_aload_n (pc := 55)  (i := 0) rfl rfl dX1_enter_55 ?_
    refine zr_dup (pc := 56)  rfl dX1_enter_56 ?_
    refine zr_get (pc := 57)  fl_X1_37 (by first | assumption | rfl | (repeat (first | assumption | exact zup_s | refine zup_g (by decide) ?_))) rfl dX1_enter_57 ?_
    refine zr_iconst (pc := 60)  dX1_enter_60 ?_
    refine zr_iadd (pc := 61)  dX1_enter_61 ?_
    refine zr_put (pc := 62)  (oBooks _) (fp_X1_37 rfl) (by first | assumption | rfl | (repeat (first | assumption | exact zup_s | refine zup_g (by decide) ?_))) (Nat.le_of_ble_eq_true rfl) rfl rfl rfl dX1_enter_62 ?_
    refine zr_vreturn (pc := 65)  rfl (by decide) (by decide) dX1_enter_65 ?_
    exact k
theorem k_X1_tellKinds {G : zG} {n : Nat} {h : zH} {Post : Option Value → Nat → zH → Prop} {num a b c : Int} {bk : Int → Int} (h8 : h 8 = some (oBooks num)) (h11 : h 11 = some (aI 1800 bk)) (hN : 0 < num ∧ num ≤ 600) (k : Post none n (zup h 11 (aI 1800 (uZ (uZ (uZ bk ((num - 1) * 3) a) ((num - 1) * 3 + 1) b) ((num - 1) * 3 + 2) c)))) : zMP G mX1_tellKinds [.ref 8, vi a, vi b, vi c] n h Post := by
  refine zMP_of (by decide) [some _, some _, some _, some _, none] (Nat.le_of_ble_eq_true rfl) rfl ?_
  refine zr_aload_n (pc := 0)  (i := 0) rfl rfl dX1_tellKinds_0 ?_
  refine zr_get (pc := 1)  fl_X1_37 (by first | assumption | rfl | (repeat (first | assumption | exact zup_s | refine zup_g (by decide) ?_))) rfl dX1_tellKinds_1 ?_
  refine zr_if_le (pc := 4)  (tgt := 45) ⟨by omega, by omega⟩ (by decide) dX1_tellKinds_4 (fun q4 => ?_) (fun q4 => ?_)
  · exact absurd q4 (by omega)
  · refine zr_aload_n (pc := 7)  (i := 0) rfl rfl dX1_tellKinds_7 ?_
    refine zr_get (pc := 8)  fl_X1_37 (by first | assumption | rfl | (repeat (first | assumption | exact zup_s | refine zup_g (by decide) ?_))) rfl dX1_tellKinds_8 ?_
    refine zr_iconst (pc := 11)  dX1_tellKinds_11 ?_
    refine zr_isub (pc := 12)  dX1_tellKinds_12 ?_
    refine zr_iconst (pc := 13)  dX1_tellKinds_13 ?_
    refine zr_imul (pc := 14)  dX1_tellKinds_14 ?_
    refine zs_istore_4 (pc := 15)  (by first | exact zn_i | exact zn_r | exact zn_0) (by decide) dX1_tellKinds_15 ?_
    refine zr_aload_n (pc := 17)  (i := 0) rfl rfl dX1_tellKinds_17 ?_
    refine zr_get (pc := 18)  fl_X1_18 (by first | assumption | rfl | (repeat (first | assumption | exact zup_s | refine zup_g (by decide) ?_))) rfl dX1_tellKinds_18 ?_
    refine zr_iload (pc := 21)  rfl dX1_tellKinds_21 ?_
    refine zr_iload_n (pc := 23)  (i := 1) rfl rfl dX1_tellKinds_23 ?_
    refine zr_iast (pc := 24)  (by first | assumption | rfl | (repeat (first | assumption | exact zup_s | refine zup_g (by decide) ?_))) ⟨by omega, by omega⟩ (by decide) dX1_tellKinds_24 ?_
    refine zr_aload_n (pc := 25)  (i := 0) rfl rfl dX1_tellKinds_25 ?_
    refine zr_get (pc := 26)  fl_X1_18 (by first | assumption | rfl | (repeat (first | assumption | exact zup_s | refine zup_g (by decide) ?_))) rfl dX1_tellKinds_26 ?_
    refine zr_iload (pc := 29)  rfl dX1_tellKinds_29 ?_
    refine zr_iconst (pc := 31)  dX1_tellKinds_31 ?_
    refine zr_iadd (pc := 32)  dX1_tellKinds_32 ?_
    refine zr_iload_n (pc := 33)  (i := 2) rfl rfl dX1_tellKinds_33 ?_
    refine zr_iast (pc := 34)  (by first | assumption | rfl | (repeat (first | assumption | exact zup_s | refine zup_g (by decide) ?_))) ⟨by omega, by omega⟩ (by decide) dX1_tellKinds_34 ?_
    refine zr_aload_n (pc := 35)  (i := 0) rfl rfl dX1_tellKinds_35 ?_
    refine zr_get (pc := 36)  fl_X1_18 (by first | assumption | rfl | (repeat (first | assumption | exact zup_s | refine zup_g (by decide) ?_))) rfl dX1_tellKinds_36 ?_
    refine zr_iload (pc := 39)  rfl dX1_tellKinds_39 ?_
    refine zr_iconst (pc := 41)  dX1_tellKinds_41 ?_
    refine zr_iadd (pc := 42)  dX1_tellKinds_42 ?_
    refine zr_iload_n (pc := 43)  (i := 3) rfl rfl dX1_tellKinds_43 ?_
    refine zr_iast (pc := 44)  (by first | assumption | rfl | (repeat (first | assumption | exact zup_s | refine zup_g (by decide) ?_))) ⟨by omega, by omega⟩ (by decide) dX1_tellKinds_44 ?_
    refine zr_vreturn (pc := 45)  rfl (by decide) (by decide) dX1_tellKinds_45 ?_
    rw [zup_zup, zup_zup]
    exact k
theorem k_X1_setApart {G : zG} {n : Nat} {h : zH} {Post : Option Value → Nat → zH → Prop} {num p on : Int} {ap : Int → Int} (h8 : h 8 = some (oBooks num)) (h14 : h 14 = some (aZ 1344 ap)) (ha : ∀ i, ap i = 0 ∨ ap i = 1) (ho : on = 0 ∨ on = 1) (hp : 0 ≤ p ∧ p < 1344) (k : Post (some (vb (ap p ≠ on))) n (zup h 14 (aZ 1344 (uZ ap p on)))) : zMP G mX1_setApart [.ref 8, vi p, vi on] n h Post := by
  have ha1 := ha p
  refine zMP_of (by decide) [some _, some _, some _, none] (Nat.le_of_ble_eq_true rfl) rfl ?_
  refine zr_aload_n (pc := 0)  (i := 0) rfl rfl dX1_setApart_0 ?_
  refine zr_get (pc := 1)  fl_X1_33 (by first | assumption | rfl | (repeat (first | assumption | exact zup_s | refine zup_g (by decide) ?_))) rfl dX1_setApart_1 ?_
  refine zr_iload_n (pc := 4)  (i := 1) rfl rfl dX1_setApart_4 ?_
  refine zr_zald (pc := 5)  (by first | assumption | rfl | (repeat (first | assumption | exact zup_s | refine zup_g (by decide) ?_))) ⟨by omega, by omega⟩ (by decide) dX1_setApart_5 ?_
  refine zr_iload_n (pc := 6)  (i := 2) rfl rfl dX1_setApart_6 ?_
  refine zr_icmp_eq (pc := 7)  (tgt := 14) ⟨by omega, by omega⟩ ⟨by omega, by omega⟩ (by decide) dX1_setApart_7 (fun q7 => ?_) (fun q7 => ?_)
  · refine zr_iconst (pc := 14)  dX1_setApart_14 ?_
    refine zs_istore_n_3 (pc := 15)  (by first | exact zn_i | exact zn_r | exact zn_0) (by decide) dX1_setApart_15 ?_
    refine zr_aload_n (pc := 16)  (i := 0) rfl rfl dX1_setApart_16 ?_
    refine zr_get (pc := 17)  fl_X1_33 (by first | assumption | rfl | (repeat (first | assumption | exact zup_s | refine zup_g (by decide) ?_))) rfl dX1_setApart_17 ?_
    refine zr_iload_n (pc := 20)  (i := 1) rfl rfl dX1_setApart_20 ?_
    refine zr_iload_n (pc := 21)  (i := 2) rfl rfl dX1_setApart_21 ?_
    refine zr_zast (pc := 22)  (by first | assumption | rfl | (repeat (first | assumption | exact zup_s | refine zup_g (by decide) ?_))) ⟨by omega, by omega⟩ (by decide) (by omega) dX1_setApart_22 ?_
    refine zr_iload_n (pc := 23)  (i := 3) rfl rfl dX1_setApart_23 ?_
    refine zr_zreturn (pc := 24)  rfl (by omega) (by decide) (by decide) dX1_setApart_24 ?_
    first | exact zb_t (by omega) k | exact zb_f (by omega) k
  · refine zr_iconst (pc := 10)  dX1_setApart_10 ?_
    refine zr_goto (pc := 11)  (tgt := 15) (by decide) dX1_setApart_11 ?_
    refine zs_istore_n_3 (pc := 15)  (by first | exact zn_i | exact zn_r | exact zn_0) (by decide) dX1_setApart_15 ?_
    refine zr_aload_n (pc := 16)  (i := 0) rfl rfl dX1_setApart_16 ?_
    refine zr_get (pc := 17)  fl_X1_33 (by first | assumption | rfl | (repeat (first | assumption | exact zup_s | refine zup_g (by decide) ?_))) rfl dX1_setApart_17 ?_
    refine zr_iload_n (pc := 20)  (i := 1) rfl rfl dX1_setApart_20 ?_
    refine zr_iload_n (pc := 21)  (i := 2) rfl rfl dX1_setApart_21 ?_
    refine zr_zast (pc := 22)  (by first | assumption | rfl | (repeat (first | assumption | exact zup_s | refine zup_g (by decide) ?_))) ⟨by omega, by omega⟩ (by decide) (by omega) dX1_setApart_22 ?_
    refine zr_iload_n (pc := 23)  (i := 3) rfl rfl dX1_setApart_23 ?_
    refine zr_zreturn (pc := 24)  rfl (by omega) (by decide) (by decide) dX1_setApart_24 ?_
    first | exact zb_t (by omega) k | exact zb_f (by omega) k
theorem l_X1_holding {G : zG} {n : Nat} {h : zH} {Post : Option Value → Nat → zH → Prop} {p t : Int} {N : Nat} {bt be bn pl : Int → Int} (h8 : h 8 = some (oBooks N)) (h9 : h 9 = some (aI 600 bt)) (h12 : h 12 = some (aI 600 be)) (hbt : ∀ i, 0 ≤ bt i ∧ bt i ≤ 99) (hc : chZ bn be pl N) (hN : N ≤ 600) (ht : iR t) (k : Post (some (vi (holdZ pl bt N p t))) n h) : ∀ (m : Nat) (i e : Int), m ≤ N → 0 ≤ i → i + m ≤ 600 → e = lastE (fun e => pl e == p) m → holdZ pl bt N p t = lastE (fun e => pl e == p && decide (bt e ≤ t)) m → zAW G mX1_holding zTT (zF G mX1_holding Post) 10 [some (.ref 8), some (vi p), some (vi t), some (vi e), some (vi i)] [] n h 0 0 := by
  intro m
  induction m using Nat.strongRecOn with
  | ind m ih =>
    intro i e hm h0 hi he hh
    have hr := lastE_R (fun e => pl e == p) m
    have hst := lastE_step (f := fun e => pl e == p) (g := fun e => pl e == p && decide (bt e ≤ t)) (fun j q => by simp only [Bool.and_eq_true] at q; exact q.1) m
    rw [← he] at hr hst
    have hbte := hbt e
    have hte : 0 ≤ e → pl e = p := fun q => by
      have h9 := lastE_t (fun e => pl e == p) m (by omega)
      rw [← he] at h9
      exact eq_of_beq h9
    have hE1 : e = -1 → holdZ pl bt N p t = -1 := fun q => by rw [hh, hst, if_neg (by omega)]
    have hE2 : 0 ≤ e → bt e ≤ t → holdZ pl bt N p t = e := fun q q2 => by
      rw [hh, hst, if_pos q, if_pos (by simp only [Bool.and_eq_true, beq_iff_eq, decide_eq_true_eq]; exact ⟨hte q, q2⟩)]
    have hE3 : 0 ≤ e → ¬ bt e ≤ t → holdZ pl bt N p t = lastE (fun e => pl e == p && decide (bt e ≤ t)) e.toNat := fun q q2 => by
      rw [hh, hst, if_pos q, if_neg (by simp only [Bool.and_eq_true, beq_iff_eq, decide_eq_true_eq]; exact fun z => q2 z.2)]
    have hE4 : 0 ≤ e → be e = lastE (fun e => pl e == p) e.toNat := fun q => by
      rw [hc.2 e q (by omega), hte q]
    refine zr_iload (pc := 10)  rfl dX1_holding_10 ?_
    refine zr_sipush (pc := 12)  (by decide) dX1_holding_12 ?_
    refine zr_icmp_ge (pc := 15)  (tgt := 46) ⟨by omega, by omega⟩ ⟨by omega, by omega⟩ (by decide) dX1_holding_15 (fun q15 => ?_) (fun q15 => ?_)
    · refine zr_iload_n (pc := 46)  (i := 3) rfl rfl dX1_holding_46 ?_
      refine zr_ireturn (pc := 47)  rfl (by decide) (by decide) dX1_holding_47 ?_
      first | (rw [hE1 (by omega)] at k; (obtain rfl : e = -1 := by omega); exact k) | (rw [hE2 (by omega) (by omega)] at k; exact k)
    · refine zr_iload_n (pc := 18)  (i := 3) rfl rfl dX1_holding_18 ?_
      refine zr_iconst (pc := 19)  dX1_holding_19 ?_
      refine zr_icmp_eq (pc := 20)  (tgt := 46) ⟨by omega, by omega⟩ ⟨by omega, by omega⟩ (by decide) dX1_holding_20 (fun q20 => ?_) (fun q20 => ?_)
      · refine zr_iload_n (pc := 46)  (i := 3) rfl rfl dX1_holding_46 ?_
        refine zr_ireturn (pc := 47)  rfl (by decide) (by decide) dX1_holding_47 ?_
        first | (rw [hE1 (by omega)] at k; (obtain rfl : e = -1 := by omega); exact k) | (rw [hE2 (by omega) (by omega)] at k; exact k)
      · refine zr_aload_n (pc := 23)  (i := 0) rfl rfl dX1_holding_23 ?_
        refine zr_get (pc := 24)  fl_X1_9 (by first | assumption | rfl | (repeat (first | assumption | exact zup_s | refine zup_g (by decide) ?_))) rfl dX1_holding_24 ?_
        refine zr_iload_n (pc := 27)  (i := 3) rfl rfl dX1_holding_27 ?_
        refine zr_iald (pc := 28)  (by first | assumption | rfl | (repeat (first | assumption | exact zup_s | refine zup_g (by decide) ?_))) ⟨by omega, by omega⟩ (by decide) dX1_holding_28 ?_
        refine zr_iload_n (pc := 29)  (i := 2) rfl rfl dX1_holding_29 ?_
        refine zr_icmp_le (pc := 30)  (tgt := 46) ⟨by omega, by omega⟩ ⟨by omega, by omega⟩ (by decide) dX1_holding_30 (fun q30 => ?_) (fun q30 => ?_)
        · refine zr_iload_n (pc := 46)  (i := 3) rfl rfl dX1_holding_46 ?_
          refine zr_ireturn (pc := 47)  rfl (by decide) (by decide) dX1_holding_47 ?_
          first | (rw [hE1 (by omega)] at k; (obtain rfl : e = -1 := by omega); exact k) | (rw [hE2 (by omega) (by omega)] at k; exact k)
        · refine zr_aload_n (pc := 33)  (i := 0) rfl rfl dX1_holding_33 ?_
          refine zr_get (pc := 34)  fl_X1_21 (by first | assumption | rfl | (repeat (first | assumption | exact zup_s | refine zup_g (by decide) ?_))) rfl dX1_holding_34 ?_
          refine zr_iload_n (pc := 37)  (i := 3) rfl rfl dX1_holding_37 ?_
          refine zr_iald (pc := 38)  (by first | assumption | rfl | (repeat (first | assumption | exact zup_s | refine zup_g (by decide) ?_))) ⟨by omega, by omega⟩ (by decide) dX1_holding_38 ?_
          refine zs_istore_n_3 (pc := 39)  (by first | exact zn_i | exact zn_r | exact zn_0) (by decide) dX1_holding_39 ?_
          refine zs_iinc_4 (pc := 40)  (by first | exact zn_i | exact zn_r | exact zn_0) (by decide) dX1_holding_40 ?_
          refine zr_goto (pc := 43)  (tgt := 10) (by decide) dX1_holding_43 ?_
          exact ih e.toNat (by omega) _ _ (by omega) (by omega) (by omega) (hE4 (by omega)) (hE3 (by omega) (by omega))
theorem k_X1_holding {G : zG} {n : Nat} {h : zH} {Post : Option Value → Nat → zH → Prop} {p t : Int} {N : Nat} {bt be bn pl : Int → Int} (h8 : h 8 = some (oBooks N)) (h9 : h 9 = some (aI 600 bt)) (h12 : h 12 = some (aI 600 be)) (h13 : h 13 = some (aI 1344 bn)) (hbt : ∀ i, 0 ≤ bt i ∧ bt i ≤ 99) (hc : chZ bn be pl N) (hN : N ≤ 600) (hp : 0 ≤ p ∧ p < 1344) (ht : iR t) (k : Post (some (vi (holdZ pl bt N p t))) n h) : zMP G mX1_holding [.ref 8, vi p, vi t] n h Post := by
  refine zMP_of (by decide) [some _, some _, some _, none, none] (Nat.le_of_ble_eq_true rfl) rfl ?_
  refine zr_aload_n (pc := 0)  (i := 0) rfl rfl dX1_holding_0 ?_
  refine zr_get (pc := 1)  fl_X1_24 (by first | assumption | rfl | (repeat (first | assumption | exact zup_s | refine zup_g (by decide) ?_))) rfl dX1_holding_1 ?_
  refine zr_iload_n (pc := 4)  (i := 1) rfl rfl dX1_holding_4 ?_
  refine zr_iald (pc := 5)  (by first | assumption | rfl | (repeat (first | assumption | exact zup_s | refine zup_g (by decide) ?_))) ⟨by omega, by omega⟩ (by decide) dX1_holding_5 ?_
  refine zs_istore_n_3 (pc := 6)  (by first | exact zn_i | exact zn_r | exact zn_0) (by decide) dX1_holding_6 ?_
  refine zr_iconst (pc := 7)  dX1_holding_7 ?_
  refine zs_istore_4 (pc := 8)  (by first | exact zn_i | exact zn_r | exact zn_0) (by decide) dX1_holding_8 ?_
  exact l_X1_holding h8 h9 h12 hbt hc hN ht k N 0 _ (Nat.le_refl N) (by omega) (by omega) (hc.1 p hp.1 hp.2) rfl
theorem k_X1_state {G : zG} {n : Nat} {h : zH} {Post : Option Value → Nat → zH → Prop} {p t : Int} {N : Nat} {bt bc be bn ap pl : Int → Int} (h8 : h 8 = some (oBooks N)) (h9 : h 9 = some (aI 600 bt)) (h10 : h 10 = some (aI 600 bc)) (h12 : h 12 = some (aI 600 be)) (h13 : h 13 = some (aI 1344 bn)) (h14 : h 14 = some (aZ 1344 ap)) (hbt : ∀ i, 0 ≤ bt i ∧ bt i ≤ 99) (ha : ∀ i, ap i = 0 ∨ ap i = 1) (hc : chZ bn be pl N) (hN : N ≤ 600) (hp : 0 ≤ p ∧ p < 1344) (ht : iR t) (k : Post (some (vi (stZ ap bc pl bt N p t))) n h) : zMP G mX1_state [.ref 8, vi p, vi t] n h Post := by
  have ha1 := ha p
  have hR := lastE_R (fun e => pl e == p && decide (bt e ≤ t)) N
  have hR : -1 ≤ holdZ pl bt N p t ∧ holdZ pl bt N p t < N := hR
  unfold stZ at k
  refine zMP_of (by decide) [some _, some _, some _, none] (Nat.le_of_ble_eq_true rfl) rfl ?_
  refine zr_aload_n (pc := 0)  (i := 0) rfl rfl dX1_state_0 ?_
  refine zr_get (pc := 1)  fl_X1_33 (by first | assumption | rfl | (repeat (first | assumption | exact zup_s | refine zup_g (by decide) ?_))) rfl dX1_state_1 ?_
  refine zr_iload_n (pc := 4)  (i := 1) rfl rfl dX1_state_4 ?_
  refine zr_zald (pc := 5)  (by first | assumption | rfl | (repeat (first | assumption | exact zup_s | refine zup_g (by decide) ?_))) ⟨by omega, by omega⟩ (by decide) dX1_state_5 ?_
  refine zr_if_eq (pc := 6)  (tgt := 12) ⟨by omega, by omega⟩ (by decide) dX1_state_6 (fun q6 => ?_) (fun q6 => ?_)
  · refine zr_aload_n (pc := 12)  (i := 0) rfl rfl dX1_state_12 ?_
    refine zr_iload_n (pc := 13)  (i := 1) rfl rfl dX1_state_13 ?_
    refine zr_iload_n (pc := 14)  (i := 2) rfl rfl dX1_state_14 ?_
    refine zv_call2 (pc := 15)  cv_X1_state_41 (by first | assumption | rfl | (repeat (first | assumption | exact zup_s | refine zup_g (by decide) ?_))) ⟨_, rfl, rfl⟩ (Nat.le_of_ble_eq_true rfl) (by decide) dX1_state_15 ?_
    refine k_X1_holding (by first | assumption | omega | (refine ⟨?_, ?_⟩ <;> omega) | rfl | (repeat (first | assumption | exact zup_s | refine zup_g (by decide) ?_))) (by first | assumption | omega | (refine ⟨?_, ?_⟩ <;> omega) | rfl | (repeat (first | assumption | exact zup_s | refine zup_g (by decide) ?_))) (by first | assumption | omega | (refine ⟨?_, ?_⟩ <;> omega) | rfl | (repeat (first | assumption | exact zup_s | refine zup_g (by decide) ?_))) (by first | assumption | omega | (refine ⟨?_, ?_⟩ <;> omega) | rfl | (repeat (first | assumption | exact zup_s | refine zup_g (by decide) ?_))) (by first | assumption | omega | (refine ⟨?_, ?_⟩ <;> omega) | rfl | (repeat (first | assumption | exact zup_s | refine zup_g (by decide) ?_))) (by first | assumption | omega | (refine ⟨?_, ?_⟩ <;> omega) | rfl | (repeat (first | assumption | exact zup_s | refine zup_g (by decide) ?_))) (by first | assumption | omega | (refine ⟨?_, ?_⟩ <;> omega) | rfl | (repeat (first | assumption | exact zup_s | refine zup_g (by decide) ?_))) (by first | assumption | omega | (refine ⟨?_, ?_⟩ <;> omega) | rfl | (repeat (first | assumption | exact zup_s | refine zup_g (by decide) ?_))) (by first | assumption | omega | (refine ⟨?_, ?_⟩ <;> omega) | rfl | (repeat (first | assumption | exact zup_s | refine zup_g (by decide) ?_))) ?_
    dsimp only [Option.toList, List.cons_append, List.nil_append]
    refine zs_istore_n_3 (pc := 18)  (by first | exact zn_i | exact zn_r | exact zn_0) (by decide) dX1_state_18 ?_
    refine zr_iload_n (pc := 19)  (i := 3) rfl rfl dX1_state_19 ?_
    refine zr_iconst (pc := 20)  dX1_state_20 ?_
    refine zr_icmp_ne (pc := 21)  (tgt := 29) ⟨by omega, by omega⟩ ⟨by omega, by omega⟩ (by decide) dX1_state_21 (fun q21 => ?_) (fun q21 => ?_)
    · refine zr_aload_n (pc := 29)  (i := 0) rfl rfl dX1_state_29 ?_
      refine zr_get (pc := 30)  fl_X1_15 (by first | assumption | rfl | (repeat (first | assumption | exact zup_s | refine zup_g (by decide) ?_))) rfl dX1_state_30 ?_
      refine zr_iload_n (pc := 33)  (i := 3) rfl rfl dX1_state_33 ?_
      refine zr_iald (pc := 34)  (by first | assumption | rfl | (repeat (first | assumption | exact zup_s | refine zup_g (by decide) ?_))) ⟨by omega, by omega⟩ (by decide) dX1_state_34 ?_
      refine zr_ireturn (pc := 35)  rfl (by decide) (by decide) dX1_state_35 ?_
      rw [if_neg (by omega)] at k
      first | (rw [if_pos (by omega)] at k; exact k) | (rw [if_neg (by omega)] at k; exact k)
    · refine zr_bipush (pc := 24)  (by decide) dX1_state_24 ?_
      refine zr_goto (pc := 26)  (tgt := 35) (by decide) dX1_state_26 ?_
      refine zr_ireturn (pc := 35)  rfl (by decide) (by decide) dX1_state_35 ?_
      rw [if_neg (by omega)] at k
      first | (rw [if_pos (by omega)] at k; exact k) | (rw [if_neg (by omega)] at k; exact k)
  · refine zr_bipush (pc := 9)  (by decide) dX1_state_9 ?_
    refine zr_ireturn (pc := 11)  rfl (by decide) (by decide) dX1_state_11 ?_
    rw [if_pos (by omega)] at k
    exact k
theorem k_X1_ofKind {G : zG} {n : Nat} {h : zH} {Post : Option Value → Nat → zH → Prop} {p t c : Int} {N : Nat} {bt bk be bn pl : Int → Int} (h8 : h 8 = some (oBooks N)) (h9 : h 9 = some (aI 600 bt)) (h11 : h 11 = some (aI 1800 bk)) (h12 : h 12 = some (aI 600 be)) (h13 : h 13 = some (aI 1344 bn)) (hbt : ∀ i, 0 ≤ bt i ∧ bt i ≤ 99) (hc : chZ bn be pl N) (hN : N ≤ 600) (hp : 0 ≤ p ∧ p < 1344) (ht : iR t) (hcc : 0 ≤ c ∧ c < 3) (k : Post (some (vi (if holdZ pl bt N p t = -1 then -1 else bk (holdZ pl bt N p t * 3 + c)))) n h) : zMP G mX1_ofKind [.ref 8, vi p, vi t, vi c] n h Post := by
  have hR := lastE_R (fun e => pl e == p && decide (bt e ≤ t)) N
  have hR : -1 ≤ holdZ pl bt N p t ∧ holdZ pl bt N p t < N := hR
  refine zMP_of (by decide) [some _, some _, some _, some _, none] (Nat.le_of_ble_eq_true rfl) rfl ?_
  refine zr_aload_n (pc := 0)  (i := 0) rfl rfl dX1_ofKind_0 ?_
  refine zr_iload_n (pc := 1)  (i := 1) rfl rfl dX1_ofKind_1 ?_
  refine zr_iload_n (pc := 2)  (i := 2) rfl rfl dX1_ofKind_2 ?_
  refine zv_call2 (pc := 3)  cv_X1_ofKind_41 (by first | assumption | rfl | (repeat (first | assumption | exact zup_s | refine zup_g (by decide) ?_))) ⟨_, rfl, rfl⟩ (Nat.le_of_ble_eq_true rfl) (by decide) dX1_ofKind_3 ?_
  refine k_X1_holding (by first | assumption | omega | (refine ⟨?_, ?_⟩ <;> omega) | rfl | (repeat (first | assumption | exact zup_s | refine zup_g (by decide) ?_))) (by first | assumption | omega | (refine ⟨?_, ?_⟩ <;> omega) | rfl | (repeat (first | assumption | exact zup_s | refine zup_g (by decide) ?_))) (by first | assumption | omega | (refine ⟨?_, ?_⟩ <;> omega) | rfl | (repeat (first | assumption | exact zup_s | refine zup_g (by decide) ?_))) (by first | assumption | omega | (refine ⟨?_, ?_⟩ <;> omega) | rfl | (repeat (first | assumption | exact zup_s | refine zup_g (by decide) ?_))) (by first | assumption | omega | (refine ⟨?_, ?_⟩ <;> omega) | rfl | (repeat (first | assumption | exact zup_s | refine zup_g (by decide) ?_))) (by first | assumption | omega | (refine ⟨?_, ?_⟩ <;> omega) | rfl | (repeat (first | assumption | exact zup_s | refine zup_g (by decide) ?_))) (by first | assumption | omega | (refine ⟨?_, ?_⟩ <;> omega) | rfl | (repeat (first | assumption | exact zup_s | refine zup_g (by decide) ?_))) (by first | assumption | omega | (refine ⟨?_, ?_⟩ <;> omega) | rfl | (repeat (first | assumption | exact zup_s | refine zup_g (by decide) ?_))) (by first | assumption | omega | (refine ⟨?_, ?_⟩ <;> omega) | rfl | (repeat (first | assumption | exact zup_s | refine zup_g (by decide) ?_))) ?_
  dsimp only [Option.toList, List.cons_append, List.nil_append]
  refine zs_istore_4 (pc := 6)  (by first | exact zn_i | exact zn_r | exact zn_0) (by decide) dX1_ofKind_6 ?_
  refine zr_iload (pc := 8)  rfl dX1_ofKind_8 ?_
  refine zr_iconst (pc := 10)  dX1_ofKind_10 ?_
  refine zr_icmp_ne (pc := 11)  (tgt := 18) ⟨by omega, by omega⟩ ⟨by omega, by omega⟩ (by decide) dX1_ofKind_11 (fun q11 => ?_) (fun q11 => ?_)
  · refine zr_aload_n (pc := 18)  (i := 0) rfl rfl dX1_ofKind_18 ?_
    refine zr_get (pc := 19)  fl_X1_18 (by first | assumption | rfl | (repeat (first | assumption | exact zup_s | refine zup_g (by decide) ?_))) rfl dX1_ofKind_19 ?_
    refine zr_iload (pc := 22)  rfl dX1_ofKind_22 ?_
    refine zr_iconst (pc := 24)  dX1_ofKind_24 ?_
    refine zr_imul (pc := 25)  dX1_ofKind_25 ?_
    refine zr_iload_n (pc := 26)  (i := 3) rfl rfl dX1_ofKind_26 ?_
    refine zr_iadd (pc := 27)  dX1_ofKind_27 ?_
    refine zr_iald (pc := 28)  (by first | assumption | rfl | (repeat (first | assumption | exact zup_s | refine zup_g (by decide) ?_))) ⟨by omega, by omega⟩ (by decide) dX1_ofKind_28 ?_
    refine zr_ireturn (pc := 29)  rfl (by decide) (by decide) dX1_ofKind_29 ?_
    first | (rw [if_pos (by omega)] at k; exact k) | (rw [if_neg (by omega)] at k; exact k)
  · refine zr_iconst (pc := 14)  dX1_ofKind_14 ?_
    refine zr_goto (pc := 15)  (tgt := 29) (by decide) dX1_ofKind_15 ?_
    refine zr_ireturn (pc := 29)  rfl (by decide) (by decide) dX1_ofKind_29 ?_
    first | (rw [if_pos (by omega)] at k; exact k) | (rw [if_neg (by omega)] at k; exact k)
