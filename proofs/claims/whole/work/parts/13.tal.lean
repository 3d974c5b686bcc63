/-- zeros from a up to b -/
def clZ (g : Int → Int) (a b v : Int) : Int → Int := fun j => if a ≤ j ∧ j < b then v else g j
theorem clZ_0 {g : Int → Int} {a v : Int} : clZ g a a v = g := by
  funext j
  unfold clZ
  rw [if_neg (by omega)]
theorem clZ_s {g : Int → Int} {a b v : Int} (h : a ≤ b) : uZ (clZ g a b v) b v = clZ g a (b + 1) v := by
  funext j
  unfold clZ uZ
  by_cases e : j = b
  · rw [if_pos e, if_pos (by omega)]
  · rw [if_neg e]
    show (if a ≤ j ∧ j < b then v else g j) = _
    by_cases e2 : a ≤ j ∧ j < b
    · rw [if_pos e2, if_pos (by omega)]
    · rw [if_neg e2, if_neg (by omega)]
theorem clZ_in {g : Int → Int} {a b v j : Int} (h : a ≤ j ∧ j < b) : clZ g a b v j = v := if_pos h
theorem clZ_out {g : Int → Int} {a b v j : Int} (h : ¬ (a ≤ j ∧ j < b)) : clZ g a b v j = g j := if_neg h
/-- Arrays.fill -/
theorem l_J7_fill_53178 {G : zG} {n : Nat} {h : zH} {Post : Option Value → Nat → zH → Prop} {a len : Nat} {v : Int} {g : Int → Int} (hl : len < 2000000) (hp : Post none n (zup h a (aI len (clZ g 0 len v)))) : ∀ (k : Nat) (i : Int), (len : Int) - i ≤ k → 0 ≤ i → i ≤ len → zAW G mJ7_fill_53178 zTT (zF G mJ7_fill_53178 Post) 5 [some (.ref a), some (vi v), some (vi i), some (vi len)] [] n (zup h a (aI len (clZ g 0 i v))) 0 0 := by
  intro k
  induction k with
  | zero =>
    intro i hk h0 hi
    obtain rfl : i = len := by omega
    refine zr_iload_n (pc := 5)  (i := 2) rfl rfl dJ7_fill_53178_5 ?_
    refine zr_iload_n (pc := 6)  (i := 3) rfl rfl dJ7_fill_53178_6 ?_
    refine zr_icmp_ge (pc := 7)  (tgt := 20) ⟨by omega, by omega⟩ ⟨by omega, by omega⟩ (by decide) dJ7_fill_53178_7 (fun q7 => ?_) (fun q7 => ?_)
    · refine zr_vreturn (pc := 20)  rfl (by decide) (by decide) dJ7_fill_53178_20 ?_
      exact hp
    · exact absurd q7 (by omega)
  | succ k ih =>
    intro i hk h0 hi
    refine zr_iload_n (pc := 5)  (i := 2) rfl rfl dJ7_fill_53178_5 ?_
    refine zr_iload_n (pc := 6)  (i := 3) rfl rfl dJ7_fill_53178_6 ?_
    refine zr_icmp_ge (pc := 7)  (tgt := 20) ⟨by omega, by omega⟩ ⟨by omega, by omega⟩ (by decide) dJ7_fill_53178_7 (fun q7 => ?_) (fun q7 => ?_)
    · refine zr_vreturn (pc := 20)  rfl (by decide) (by decide) dJ7_fill_53178_20 ?_
      obtain rfl : i = len := by omega
      exact hp
    · refine zr_aload_n (pc := 10)  (i := 0) rfl rfl dJ7_fill_53178_10 ?_
      refine zr_iload_n (pc := 11)  (i := 2) rfl rfl dJ7_fill_53178_11 ?_
      refine zr_iload_n (pc := 12)  (i := 1) rfl rfl dJ7_fill_53178_12 ?_
      refine zr_iast (pc := 13) zup_s ⟨by omega, by omega⟩ (by omega) dJ7_fill_53178_13 ?_
      refine zr_heap (zup_zup.trans (by rw [clZ_s h0])) ?_
      refine zs_iinc_2 (pc := 14)  (by first | exact zn_i | exact zn_r | exact zn_0) (by decide) dJ7_fill_53178_14 ?_
      refine zr_goto (pc := 17)  (tgt := 5) (by decide) dJ7_fill_53178_17 ?_
      exact ih _ (by omega) (by omega) (by omega)
theorem k_J7_fill_53178 {G : zG} {n : Nat} {h : zH} {Post : Option Value → Nat → zH → Prop} {a len : Nat} {v : Int} {g : Int → Int} (ha : h a = some (aI len g)) (hl : len < 2000000) (k : Post none n (zup h a (aI len (clZ g 0 len v)))) : zMP G mJ7_fill_53178 [.ref a, vi v] n h Post := by
  refine zMP_of (by decide) [some _, some _, none, none] (Nat.le_of_ble_eq_true rfl) rfl ?_
  refine zr_iconst (pc := 0)  dJ7_fill_53178_0 ?_
  refine zs_istore_n_2 (pc := 1)  (by first | exact zn_i | exact zn_r | exact zn_0) (by decide) dJ7_fill_53178_1 ?_
  refine zr_aload_n (pc := 2)  (i := 0) rfl rfl dJ7_fill_53178_2 ?_
  refine zr_alen (pc := 3) (t := 0) (x := (len, .inl (fI g))) ha rfl rfl (by omega) dJ7_fill_53178_3 ?_
  refine zs_istore_n_3 (pc := 4)  (by first | exact zn_i | exact zn_r | exact zn_0) (by decide) dJ7_fill_53178_4 ?_
  refine zr_heap (show h = zup h a (aI len (clZ g 0 0 v)) from by rw [clZ_0, zup_self ha]) ?_
  exact l_J7_fill_53178 hl k len 0 (by omega) (by omega) (by omega)
theorem l_J7_fill_d0a16 {G : zG} {n : Nat} {h : zH} {Post : Option Value → Nat → zH → Prop} {a len : Nat} {v : Int} {g : Int → Int} (hl : len < 2000000) (hp : Post none n (zup h a (aJ len (clZ g 0 len v)))) : ∀ (k : Nat) (i : Int), (len : Int) - i ≤ k → 0 ≤ i → i ≤ len → zAW G mJ7_fill_d0a16 zTT (zF G mJ7_fill_d0a16 Post) 6 [some (.ref a), some (vl v), none, some (vi i), some (vi len)] [] n (zup h a (aJ len (clZ g 0 i v))) 0 0 := by
  intro k
  induction k with
  | zero =>
    intro i hk h0 hi
    obtain rfl : i = len := by omega
    refine zr_iload_n (pc := 6)  (i := 3) rfl rfl dJ7_fill_d0a16_6 ?_
    refine zr_iload (pc := 7)  rfl dJ7_fill_d0a16_7 ?_
    refine zr_icmp_ge (pc := 9)  (tgt := 22) ⟨by omega, by omega⟩ ⟨by omega, by omega⟩ (by decide) dJ7_fill_d0a16_9 (fun q9 => ?_) (fun q9 => ?_)
    · refine zr_vreturn (pc := 22)  rfl (by decide) (by decide) dJ7_fill_d0a16_22 ?_
      exact hp
    · exact absurd q9 (by omega)
  | succ k ih =>
    intro i hk h0 hi
    refine zr_iload_n (pc := 6)  (i := 3) rfl rfl dJ7_fill_d0a16_6 ?_
    refine zr_iload (pc := 7)  rfl dJ7_fill_d0a16_7 ?_
    refine zr_icmp_ge (pc := 9)  (tgt := 22) ⟨by omega, by omega⟩ ⟨by omega, by omega⟩ (by decide) dJ7_fill_d0a16_9 (fun q9 => ?_) (fun q9 => ?_)
    · refine zr_vreturn (pc := 22)  rfl (by decide) (by decide) dJ7_fill_d0a16_22 ?_
      obtain rfl : i = len := by omega
      exact hp
    · refine zr_aload_n (pc := 12)  (i := 0) rfl rfl dJ7_fill_d0a16_12 ?_
      refine zr_iload_n (pc := 13)  (i := 3) rfl rfl dJ7_fill_d0a16_13 ?_
      refine zr_lload_n (pc := 14)  (i := 1) rfl rfl dJ7_fill_d0a16_14 ?_
      refine zr_last (pc := 15) zup_s ⟨by omega, by omega⟩ (by omega) dJ7_fill_d0a16_15 ?_
      refine zr_heap (zup_zup.trans (by rw [clZ_s h0])) ?_
      refine zs_iinc_3 (pc := 16)  (by first | exact zn_i | exact zn_r | exact zn_0) (by decide) dJ7_fill_d0a16_16 ?_
      refine zr_goto (pc := 19)  (tgt := 6) (by decide) dJ7_fill_d0a16_19 ?_
      exact ih _ (by omega) (by omega) (by omega)
theorem k_J7_fill_d0a16 {G : zG} {n : Nat} {h : zH} {Post : Option Value → Nat → zH → Prop} {a len : Nat} {v : Int} {g : Int → Int} (ha : h a = some (aJ len g)) (hl : len < 2000000) (k : Post none n (zup h a (aJ len (clZ g 0 len v)))) : zMP G mJ7_fill_d0a16 [.ref a, vl v] n h Post := by
  refine zMP_of (by decide) [some _, some _, none, none, none] (Nat.le_of_ble_eq_true rfl) rfl ?_
  refine zr_iconst (pc := 0)  dJ7_fill_d0a16_0 ?_
  refine zs_istore_n_3 (pc := 1)  (by first | exact zn_i | exact zn_r | exact zn_0) (by decide) dJ7_fill_d0a16_1 ?_
  refine zr_aload_n (pc := 2)  (i := 0) rfl rfl dJ7_fill_d0a16_2 ?_
  refine zr_alen (pc := 3) (t := 1) (x := (len, .inr (.inl (fJ g)))) ha rfl rfl (by omega) dJ7_fill_d0a16_3 ?_
  refine zs_istore_4 (pc := 4)  (by first | exact zn_i | exact zn_r | exact zn_0) (by decide) dJ7_fill_d0a16_4 ?_
  refine zr_heap (show h = zup h a (aJ len (clZ g 0 0 v)) from by rw [clZ_0, zup_self ha]) ?_
  exact l_J7_fill_d0a16 hl k len 0 (by omega) (by omega) (by omega)
/-- the tallies' four rows -/
def hY (h : zH) (wk mo to po : Int → Int) : zH := zup (zup (zup (zup h 17 (aI 35 wk)) 18 (aI 60 mo)) 19 (aI 5 to)) 20 (aI 5 po)
theorem hY_17 {h : zH} {wk mo to po w2 : Int → Int} : zup (hY h wk mo to po) 17 (aI 35 w2) = hY h w2 mo to po := by
  unfold hY
  rw [zup_comm (by decide), zup_comm (h := zup (zup h 17 _) 18 _) (by decide), zup_comm (h := zup h 17 _) (by decide), zup_zup]
theorem hY_18 {h : zH} {wk mo to po w2 : Int → Int} : zup (hY h wk mo to po) 18 (aI 60 w2) = hY h wk w2 to po := by
  unfold hY
  rw [zup_comm (by decide), zup_comm (h := zup (zup h 17 _) 18 _) (by decide), zup_zup]
theorem hY_19 {h : zH} {wk mo to po w2 : Int → Int} : zup (hY h wk mo to po) 19 (aI 5 w2) = hY h wk mo w2 po := by
  unfold hY
  rw [zup_comm (by decide), zup_zup]
theorem hY_20 {h : zH} {wk mo to po w2 : Int → Int} : zup (hY h wk mo to po) 20 (aI 5 w2) = hY h wk mo to w2 := by
  unfold hY
  rw [zup_zup]
theorem hY_self {h : zH} {wk mo to po : Int → Int} (h1 : h 17 = some (aI 35 wk)) (h2 : h 18 = some (aI 60 mo)) (h3 : h 19 = some (aI 5 to)) (h4 : h 20 = some (aI 5 po)) : hY h wk mo to po = h := by
  unfold hY
  rw [zup_self h1, zup_self h2, zup_self h3, zup_self h4]
theorem l_X4_clear2 {G : zG} {n : Nat} {h : zH} {Post : Option Value → Nat → zH → Prop} {s : Int} {wk mo to po : Int → Int} (h16 : h 16 = some oTal) (hs : 0 ≤ s ∧ s < 5) (hp : Post none n (hY h wk (clZ mo (s * 12) (s * 12 + 12) 0) (uZ to s 0) (uZ po s 0))) : ∀ (k : Nat) (i : Int), 12 - i ≤ k → 0 ≤ i → i ≤ 12 → zAW G mX4_clear zTT (zF G mX4_clear Post) 28 [some (.ref 16), some (vi s), some (vi i)] [] n (hY h wk (clZ mo (s * 12) (s * 12 + i) 0) to po) 0 0 := by
  intro k
  induction k with
  | zero =>
    intro i hk h0 hi
    obtain rfl : i = 12 := by omega
    refine zr_iload_n (pc := 28)  (i := 2) rfl rfl dX4_clear_28 ?_
    refine zr_bipush (pc := 29)  (by decide) dX4_clear_29 ?_
    refine zr_icmp_ge (pc := 31)  (tgt := 52) ⟨by omega, by omega⟩ ⟨by omega, by omega⟩ (by decide) dX4_clear_31 (fun q31 => ?_) (fun q31 => ?_)
    · refine zr_aload_n (pc := 52)  (i := 0) rfl rfl dX4_clear_52 ?_
      refine zr_get (pc := 53)  fl_X4_18 (by first | assumption | rfl | (repeat (first | assumption | exact zup_s | refine zup_g (by decide) ?_))) rfl dX4_clear_53 ?_
      refine zr_iload_n (pc := 56)  (i := 1) rfl rfl dX4_clear_56 ?_
      refine zr_iconst (pc := 57)  dX4_clear_57 ?_
      refine zr_iast (pc := 58)  (by first | assumption | rfl | (repeat (first | assumption | exact zup_s | refine zup_g (by decide) ?_))) ⟨by omega, by omega⟩ (by decide) dX4_clear_58 ?_
      refine zr_heap hY_19 ?_
      refine zr_aload_n (pc := 59)  (i := 0) rfl rfl dX4_clear_59 ?_
      refine zr_get (pc := 60)  fl_X4_21 (by first | assumption | rfl | (repeat (first | assumption | exact zup_s | refine zup_g (by decide) ?_))) rfl dX4_clear_60 ?_
      refine zr_iload_n (pc := 63)  (i := 1) rfl rfl dX4_clear_63 ?_
      refine zr_iconst (pc := 64)  dX4_clear_64 ?_
      refine zr_iast (pc := 65)  (by first | assumption | rfl | (repeat (first | assumption | exact zup_s | refine zup_g (by decide) ?_))) ⟨by omega, by omega⟩ (by decide) dX4_clear_65 ?_
      refine zr_heap hY_20 ?_
      refine zr_vreturn (pc := 66)  rfl (by decide) (by decide) dX4_clear_66 ?_
      exact hp
    · exact absurd q31 (by omega)
  | succ k ih =>
    intro i hk h0 hi
    refine zr_iload_n (pc := 28)  (i := 2) rfl rfl dX4_clear_28 ?_
    refine zr_bipush (pc := 29)  (by decide) dX4_clear_29 ?_
    refine zr_icmp_ge (pc := 31)  (tgt := 52) ⟨by omega, by omega⟩ ⟨by omega, by omega⟩ (by decide) dX4_clear_31 (fun q31 => ?_) (fun q31 => ?_)
    · obtain rfl : i = 12 := by omega
      refine zr_aload_n (pc := 52)  (i := 0) rfl rfl dX4_clear_52 ?_
      refine zr_get (pc := 53)  fl_X4_18 (by first | assumption | rfl | (repeat (first | assumption | exact zup_s | refine zup_g (by decide) ?_))) rfl dX4_clear_53 ?_
      refine zr_iload_n (pc := 56)  (i := 1) rfl rfl dX4_clear_56 ?_
      refine zr_iconst (pc := 57)  dX4_clear_57 ?_
      refine zr_iast (pc := 58)  (by first | assumption | rfl | (repeat (first | assumption | exact zup_s | refine zup_g (by decide) ?_))) ⟨by omega, by omega⟩ (by decide) dX4_clear_58 ?_
      refine zr_heap hY_19 ?_
      refine zr_aload_n (pc := 59)  (i := 0) rfl rfl dX4_clear_59 ?_
      refine zr_get (pc := 60)  fl_X4_21 (by first | assumption | rfl | (repeat (first | assumption | exact zup_s | refine zup_g (by decide) ?_))) rfl dX4_clear_60 ?_
      refine zr_iload_n (pc := 63)  (i := 1) rfl rfl dX4_clear_63 ?_
      refine zr_iconst (pc := 64)  dX4_clear_64 ?_
      refine zr_iast (pc := 65)  (by first | assumption | rfl | (repeat (first | assumption | exact zup_s | refine zup_g (by decide) ?_))) ⟨by omega, by omega⟩ (by decide) dX4_clear_65 ?_
      refine zr_heap hY_20 ?_
      refine zr_vreturn (pc := 66)  rfl (by decide) (by decide) dX4_clear_66 ?_
      exact hp
    · refine zr_aload_n (pc := 34)  (i := 0) rfl rfl dX4_clear_34 ?_
      refine zr_get (pc := 35)  fl_X4_15 (by first | assumption | rfl | (repeat (first | assumption | exact zup_s | refine zup_g (by decide) ?_))) rfl dX4_clear_35 ?_
      refine zr_iload_n (pc := 38)  (i := 1) rfl rfl dX4_clear_38 ?_
      refine zr_bipush (pc := 39)  (by decide) dX4_clear_39 ?_
      refine zr_imul (pc := 41)  dX4_clear_41 ?_
      refine zr_iload_n (pc := 42)  (i := 2) rfl rfl dX4_clear_42 ?_
      refine zr_iadd (pc := 43)  dX4_clear_43 ?_
      refine zr_iconst (pc := 44)  dX4_clear_44 ?_
      refine zr_iast (pc := 45)  (by first | assumption | rfl | (repeat (first | assumption | exact zup_s | refine zup_g (by decide) ?_))) ⟨by omega, by omega⟩ (by decide) dX4_clear_45 ?_
      refine zr_heap (hY_18.trans (by rw [clZ_s (by omega), Int.add_assoc])) ?_
      refine zs_iinc_2 (pc := 46)  (by first | exact zn_i | exact zn_r | exact zn_0) (by decide) dX4_clear_46 ?_
      refine zr_goto (pc := 49)  (tgt := 28) (by decide) dX4_clear_49 ?_
      exact ih _ (by omega) (by omega) (by omega)
theorem l_X4_clear1 {G : zG} {n : Nat} {h : zH} {Post : Option Value → Nat → zH → Prop} {s : Int} {wk mo to po : Int → Int} (h16 : h 16 = some oTal) (hs : 0 ≤ s ∧ s < 5) (hp : Post none n (hY h (clZ wk (s * 7) (s * 7 + 7) 0) (clZ mo (s * 12) (s * 12 + 12) 0) (uZ to s 0) (uZ po s 0))) : ∀ (k : Nat) (i : Int), 7 - i ≤ k → 0 ≤ i → i ≤ 7 → zAW G mX4_clear zTT (zF G mX4_clear Post) 2 [some (.ref 16), some (vi s), some (vi i)] [] n (hY h (clZ wk (s * 7) (s * 7 + i) 0) mo to po) 0 0 := by
  intro k
  induction k with
  | zero =>
    intro i hk h0 hi
    obtain rfl : i = 7 := by omega
    refine zr_iload_n (pc := 2)  (i := 2) rfl rfl dX4_clear_2 ?_
    refine zr_bipush (pc := 3)  (by decide) dX4_clear_3 ?_
    refine zr_icmp_ge (pc := 5)  (tgt := 26) ⟨by omega, by omega⟩ ⟨by omega, by omega⟩ (by decide) dX4_clear_5 (fun q5 => ?_) (fun q5 => ?_)
    · refine zr_iconst (pc := 26)  dX4_clear_26 ?_
      refine zs_istore_n_2 (pc := 27)  (by first | exact zn_i | exact zn_r | exact zn_0) (by decide) dX4_clear_27 ?_
      refine zr_heap (show _ = hY h (clZ wk (s * 7) (s * 7 + 7) 0) (clZ mo (s * 12) (s * 12 + 0) 0) to po from by rw [Int.add_zero, clZ_0]) ?_
      exact l_X4_clear2 h16 hs hp 12 0 (by omega) (by omega) (by omega)
    · exact absurd q5 (by omega)
  | succ k ih =>
    intro i hk h0 hi
    refine zr_iload_n (pc := 2)  (i := 2) rfl rfl dX4_clear_2 ?_
    refine zr_bipush (pc := 3)  (by decide) dX4_clear_3 ?_
    refine zr_icmp_ge (pc := 5)  (tgt := 26) ⟨by omega, by omega⟩ ⟨by omega, by omega⟩ (by decide) dX4_clear_5 (fun q5 => ?_) (fun q5 => ?_)
    · obtain rfl : i = 7 := by omega
      refine zr_iconst (pc := 26)  dX4_clear_26 ?_
      refine zs_istore_n_2 (pc := 27)  (by first | exact zn_i | exact zn_r | exact zn_0) (by decide) dX4_clear_27 ?_
      refine zr_heap (show _ = hY h (clZ wk (s * 7) (s * 7 + 7) 0) (clZ mo (s * 12) (s * 12 + 0) 0) to po from by rw [Int.add_zero, clZ_0]) ?_
      exact l_X4_clear2 h16 hs hp 12 0 (by omega) (by omega) (by omega)
    · refine zr_aload_n (pc := 8)  (i := 0) rfl rfl dX4_clear_8 ?_
      refine zr_get (pc := 9)  fl_X4_9 (by first | assumption | rfl | (repeat (first | assumption | exact zup_s | refine zup_g (by decide) ?_))) rfl dX4_clear_9 ?_
      refine zr_iload_n (pc := 12)  (i := 1) rfl rfl dX4_clear_12 ?_
      refine zr_bipush (pc := 13)  (by decide) dX4_clear_13 ?_
      refine zr_imul (pc := 15)  dX4_clear_15 ?_
      refine zr_iload_n (pc := 16)  (i := 2) rfl rfl dX4_clear_16 ?_
      refine zr_iadd (pc := 17)  dX4_clear_17 ?_
      refine zr_iconst (pc := 18)  dX4_clear_18 ?_
      refine zr_iast (pc := 19)  (by first | assumption | rfl | (repeat (first | assumption | exact zup_s | refine zup_g (by decide) ?_))) ⟨by omega, by omega⟩ (by decide) dX4_clear_19 ?_
      refine zr_heap (hY_17.trans (by rw [clZ_s (by omega), Int.add_assoc])) ?_
      refine zs_iinc_2 (pc := 20)  (by first | exact zn_i | exact zn_r | exact zn_0) (by decide) dX4_clear_20 ?_
      refine zr_goto (pc := 23)  (tgt := 2) (by decide) dX4_clear_23 ?_
      exact ih _ (by omega) (by omega) (by omega)
theorem k_X4_clear {G : zG} {n : Nat} {h : zH} {Post : Option Value → Nat → zH → Prop} {s : Int} {wk mo to po : Int → Int} (h16 : h 16 = some oTal) (h17 : h 17 = some (aI 35 wk)) (h18 : h 18 = some (aI 60 mo)) (h19 : h 19 = some (aI 5 to)) (h20 : h 20 = some (aI 5 po)) (hs : 0 ≤ s ∧ s < 5) (k : Post none n (hY h (clZ wk (s * 7) (s * 7 + 7) 0) (clZ mo (s * 12) (s * 12 + 12) 0) (uZ to s 0) (uZ po s 0))) : zMP G mX4_clear [.ref 16, vi s] n h Post := by
  refine zMP_of (by decide) [some _, some _, none] (Nat.le_of_ble_eq_true rfl) rfl ?_
  refine zr_iconst (pc := 0)  dX4_clear_0 ?_
  refine zs_istore_n_2 (pc := 1)  (by first | exact zn_i | exact zn_r | exact zn_0) (by decide) dX4_clear_1 ?_
  refine zr_heap (show h = hY h (clZ wk (s * 7) (s * 7 + 0) 0) mo to po from by rw [Int.add_zero, clZ_0, hY_self h17 h18 h19 h20]) ?_
  exact l_X4_clear1 h16 hs k 7 0 (by omega) (by omega) (by omega)
theorem k_X4_isFull {G : zG} {n : Nat} {h : zH} {Post : Option Value → Nat → zH → Prop} {s : Int} {po : Int → Int} (h16 : h 16 = some oTal) (h20 : h 20 = some (aI 5 po)) (hs : 0 ≤ s ∧ s < 5) (hr : iR (po s)) (k : Post (some (vb (4 ≤ po s))) n h) : zMP G mX4_isFull [.ref 16, vi s] n h Post := by
  refine zMP_of (by decide) [some _, some _] (Nat.le_of_ble_eq_true rfl) rfl ?_
  refine zr_aload_n (pc := 0)  (i := 0) rfl rfl dX4_isFull_0 ?_
  refine zr_get (pc := 1)  fl_X4_21 (by first | assumption | rfl | (repeat (first | assumption | exact zup_s | refine zup_g (by decide) ?_))) rfl dX4_isFull_1 ?_
  refine zr_iload_n (pc := 4)  (i := 1) rfl rfl dX4_isFull_4 ?_
  refine zr_iald (pc := 5)  (by first | assumption | rfl | (repeat (first | assumption | exact zup_s | refine zup_g (by decide) ?_))) ⟨by omega, by omega⟩ (by decide) dX4_isFull_5 ?_
  refine zr_iconst (pc := 6)  dX4_isFull_6 ?_
  refine zr_icmp_lt (pc := 7)  (tgt := 14) ⟨by omega, by omega⟩ ⟨by omega, by omega⟩ (by decide) dX4_isFull_7 (fun q7 => ?_) (fun q7 => ?_)
  · refine zr_iconst (pc := 14)  dX4_isFull_14 ?_
    refine zr_zreturn (pc := 15)  rfl (by omega) (by decide) (by decide) dX4_isFull_15 ?_
    first | exact zb_t (by omega) k | exact zb_f (by omega) k
  · refine zr_iconst (pc := 10)  dX4_isFull_10 ?_
    refine zr_goto (pc := 11)  (tgt := 15) (by decide) dX4_isFull_11 ?_
    refine zr_zreturn (pc := 15)  rfl (by omega) (by decide) (by decide) dX4_isFull_15 ?_
    first | exact zb_t (by omega) k | exact zb_f (by omega) k
theorem k_X4_addPost {G : zG} {n : Nat} {h : zH} {Post : Option Value → Nat → zH → Prop} {s : Int} {po : Int → Int} (h16 : h 16 = some oTal) (h20 : h 20 = some (aI 5 po)) (hs : 0 ≤ s ∧ s < 5) (k : Post none n (zup h 20 (aI 5 (uZ po s (po s + 1))))) : zMP G mX4_addPost [.ref 16, vi s] n h Post := by
  refine zMP_of (by decide) [some _, some _] (Nat.le_of_ble_eq_true rfl) rfl ?_
  refine zr_aload_n (pc := 0)  (i := 0) rfl rfl dX4_addPost_0 ?_
  refine zr_get (pc := 1)  fl_X4_21 (by first | assumption | rfl | (repeat (first | assumption | exact zup_s | refine zup_g (by decide) ?_))) rfl dX4_addPost_1 ?_
  refine zr_iload_n (pc := 4)  (i := 1) rfl rfl dX4_addPost_4 ?_
  first | refine zr_dup2 (pc := 5)  rfl rfl dX4_addPost_5 ?_ | refine zr_dup2L (pc := 5)  rfl dX4_addPost_5 ?_
  refine zr_iald (pc := 6)  (by first | assumption | rfl | (repeat (first | assumption | exact zup_s | refine zup_g (by decide) ?_))) ⟨by omega, by omega⟩ (by decide) dX4_addPost_6 ?_
  refine zr_iconst (pc := 7)  dX4_addPost_7 ?_
  refine zr_iadd (pc := 8)  dX4_addPost_8 ?_
  refine zr_iast (pc := 9)  (by first | assumption | rfl | (repeat (first | assumption | exact zup_s | refine zup_g (by decide) ?_))) ⟨by omega, by omega⟩ (by decide) dX4_addPost_9 ?_
  refine zr_vreturn (pc := 10)  rfl (by decide) (by decide) dX4_addPost_10 ?_
  exact k
theorem k_X4_addCount {G : zG} {n : Nat} {h : zH} {Post : Option Value → Nat → zH → Prop} {s d c : Int} {wk mo to : Int → Int} (h16 : h 16 = some oTal) (h17 : h 17 = some (aI 35 wk)) (h18 : h 18 = some (aI 60 mo)) (h19 : h 19 = some (aI 5 to)) (hs : 0 ≤ s ∧ s < 5) (hd : 0 ≤ d ∧ d < 84) (k : Post none n (zup (zup (zup h 17 (aI 35 (uZ wk (s * 7 + d % 7) (wk (s * 7 + d % 7) + c)))) 18 (aI 60 (uZ mo (s * 12 + d / 7) (mo (s * 12 + d / 7) + c)))) 19 (aI 5 (uZ to s (to s + c))))) : zMP G mX4_addCount [.ref 16, vi s, vi d, vi c] n h Post := by
  refine zMP_of (by decide) [some _, some _, some _, some _] (Nat.le_of_ble_eq_true rfl) rfl ?_
  refine zr_aload_n (pc := 0)  (i := 0) rfl rfl dX4_addCount_0 ?_
  refine zr_get (pc := 1)  fl_X4_9 (by first | assumption | rfl | (repeat (first | assumption | exact zup_s | refine zup_g (by decide) ?_))) rfl dX4_addCount_1 ?_
  refine zr_iload_n (pc := 4)  (i := 1) rfl rfl dX4_addCount_4 ?_
  refine zr_bipush (pc := 5)  (by decide) dX4_addCount_5 ?_
  refine zr_imul (pc := 7)  dX4_addCount_7 ?_
  refine zr_iload_n (pc := 8)  (i := 2) rfl rfl dX4_addCount_8 ?_
  refine zr_bipush (pc := 9)  (by decide) dX4_addCount_9 ?_
  refine zr_iremN (pc := 11)  ⟨by omega, by omega⟩ ⟨by omega, by omega⟩ dX4_addCount_11 ?_
  refine zr_iadd (pc := 12)  dX4_addCount_12 ?_
  first | refine zr_dup2 (pc := 13)  rfl rfl dX4_addCount_13 ?_ | refine zr_dup2L (pc := 13)  rfl dX4_addCount_13 ?_
  refine zr_iald (pc := 14)  (by first | assumption | rfl | (repeat (first | assumption | exact zup_s | refine zup_g (by decide) ?_))) ⟨by omega, by omega⟩ (by decide) dX4_addCount_14 ?_
  refine zr_iload_n (pc := 15)  (i := 3) rfl rfl dX4_addCount_15 ?_
  refine zr_iadd (pc := 16)  dX4_addCount_16 ?_
  refine zr_iast (pc := 17)  (by first | assumption | rfl | (repeat (first | assumption | exact zup_s | refine zup_g (by decide) ?_))) ⟨by omega, by omega⟩ (by decide) dX4_addCount_17 ?_
  refine zr_aload_n (pc := 18)  (i := 0) rfl rfl dX4_addCount_18 ?_
  refine zr_get (pc := 19)  fl_X4_15 (by first | assumption | rfl | (repeat (first | assumption | exact zup_s | refine zup_g (by decide) ?_))) rfl dX4_addCount_19 ?_
  refine zr_iload_n (pc := 22)  (i := 1) rfl rfl dX4_addCount_22 ?_
  refine zr_bipush (pc := 23)  (by decide) dX4_addCount_23 ?_
  refine zr_imul (pc := 25)  dX4_addCount_25 ?_
  refine zr_iload_n (pc := 26)  (i := 2) rfl rfl dX4_addCount_26 ?_
  refine zr_bipush (pc := 27)  (by decide) dX4_addCount_27 ?_
  refine zr_idivN (pc := 29)  ⟨by omega, by omega⟩ ⟨by omega, by omega⟩ dX4_addCount_29 ?_
  refine zr_iadd (pc := 30)  dX4_addCount_30 ?_
  first | refine zr_dup2 (pc := 31)  rfl rfl dX4_addCount_31 ?_ | refine zr_dup2L (pc := 31)  rfl dX4_addCount_31 ?_
  refine zr_iald (pc := 32)  (by first | assumption | rfl | (repeat (first | assumption | exact zup_s | refine zup_g (by decide) ?_))) ⟨by omega, by omega⟩ (by decide) dX4_addCount_32 ?_
  refine zr_iload_n (pc := 33)  (i := 3) rfl rfl dX4_addCount_33 ?_
  refine zr_iadd (pc := 34)  dX4_addCount_34 ?_
  refine zr_iast (pc := 35)  (by first | assumption | rfl | (repeat (first | assumption | exact zup_s | refine zup_g (by decide) ?_))) ⟨by omega, by omega⟩ (by decide) dX4_addCount_35 ?_
  refine zr_aload_n (pc := 36)  (i := 0) rfl rfl dX4_addCount_36 ?_
  refine zr_get (pc := 37)  fl_X4_18 (by first | assumption | rfl | (repeat (first | assumption | exact zup_s | refine zup_g (by decide) ?_))) rfl dX4_addCount_37 ?_
  refine zr_iload_n (pc := 40)  (i := 1) rfl rfl dX4_addCount_40 ?_
  first | refine zr_dup2 (pc := 41)  rfl rfl dX4_addCount_41 ?_ | refine zr_dup2L (pc := 41)  rfl dX4_addCount_41 ?_
  refine zr_iald (pc := 42)  (by first | assumption | rfl | (repeat (first | assumption | exact zup_s | refine zup_g (by decide) ?_))) ⟨by omega, by omega⟩ (by decide) dX4_addCount_42 ?_
  refine zr_iload_n (pc := 43)  (i := 3) rfl rfl dX4_addCount_43 ?_
  refine zr_iadd (pc := 44)  dX4_addCount_44 ?_
  refine zr_iast (pc := 45)  (by first | assumption | rfl | (repeat (first | assumption | exact zup_s | refine zup_g (by decide) ?_))) ⟨by omega, by omega⟩ (by decide) dX4_addCount_45 ?_
  refine zr_vreturn (pc := 46)  rfl (by decide) (by decide) dX4_addCount_46 ?_
  exact k
theorem k_X4_numberOfPosts {G : zG} {n : Nat} {h : zH} {Post : Option Value → Nat → zH → Prop} {s : Int} {po : Int → Int} (h16 : h 16 = some oTal) (h20 : h 20 = some (aI 5 po)) (hs : 0 ≤ s ∧ s < 5) (k : Post (some (vi (po s))) n h) : zMP G mX4_numberOfPosts [.ref 16, vi s] n h Post := by
  refine zMP_of (by decide) [some _, some _] (Nat.le_of_ble_eq_true rfl) rfl ?_
  refine zr_aload_n (pc := 0)  (i := 0) rfl rfl dX4_numberOfPosts_0 ?_
  refine zr_get (pc := 1)  fl_X4_21 (by first | assumption | rfl | (repeat (first | assumption | exact zup_s | refine zup_g (by decide) ?_))) rfl dX4_numberOfPosts_1 ?_
  refine zr_iload_n (pc := 4)  (i := 1) rfl rfl dX4_numberOfPosts_4 ?_
  refine zr_iald (pc := 5)  (by first | assumption | rfl | (repeat (first | assumption | exact zup_s | refine zup_g (by decide) ?_))) ⟨by omega, by omega⟩ (by decide) dX4_numberOfPosts_5 ?_
  refine zr_ireturn (pc := 6)  rfl (by decide) (by decide) dX4_numberOfPosts_6 ?_
  exact k
theorem k_X4_isThere {G : zG} {n : Nat} {h : zH} {Post : Option Value → Nat → zH → Prop} {s : Int} {to po : Int → Int} (h16 : h 16 = some oTal) (h19 : h 19 = some (aI 5 to)) (h20 : h 20 = some (aI 5 po)) (hs : 0 ≤ s ∧ s < 5) (hr : iR (po s)) (hr2 : iR (to s)) (k : Post (some (vb (0 < po s ∧ to s ≠ 0))) n h) : zMP G mX4_isThere [.ref 16, vi s] n h Post := by
  refine zMP_of (by decide) [some _, some _] (Nat.le_of_ble_eq_true rfl) rfl ?_
  refine zr_aload_n (pc := 0)  (i := 0) rfl rfl dX4_isThere_0 ?_
  refine zr_get (pc := 1)  fl_X4_21 (by first | assumption | rfl | (repeat (first | assumption | exact zup_s | refine zup_g (by decide) ?_))) rfl dX4_isThere_1 ?_
  refine zr_iload_n (pc := 4)  (i := 1) rfl rfl dX4_isThere_4 ?_
  refine zr_iald (pc := 5)  (by first | assumption | rfl | (repeat (first | assumption | exact zup_s | refine zup_g (by decide) ?_))) ⟨by omega, by omega⟩ (by decide) dX4_isThere_5 ?_
  refine zr_if_le (pc := 6)  (tgt := 22) ⟨by omega, by omega⟩ (by decide) dX4_isThere_6 (fun q6 => ?_) (fun q6 => ?_)
  · refine zr_iconst (pc := 22)  dX4_isThere_22 ?_
    refine zr_zreturn (pc := 23)  rfl (by omega) (by decide) (by decide) dX4_isThere_23 ?_
    first | exact zb_t (by omega) k | exact zb_f (by omega) k
  · refine zr_aload_n (pc := 9)  (i := 0) rfl rfl dX4_isThere_9 ?_
    refine zr_get (pc := 10)  fl_X4_18 (by first | assumption | rfl | (repeat (first | assumption | exact zup_s | refine zup_g (by decide) ?_))) rfl dX4_isThere_10 ?_
    refine zr_iload_n (pc := 13)  (i := 1) rfl rfl dX4_isThere_13 ?_
    refine zr_iald (pc := 14)  (by first | assumption | rfl | (repeat (first | assumption | exact zup_s | refine zup_g (by decide) ?_))) ⟨by omega, by omega⟩ (by decide) dX4_isThere_14 ?_
    refine zr_if_eq (pc := 15)  (tgt := 22) ⟨by omega, by omega⟩ (by decide) dX4_isThere_15 (fun q15 => ?_) (fun q15 => ?_)
    · refine zr_iconst (pc := 22)  dX4_isThere_22 ?_
      refine zr_zreturn (pc := 23)  rfl (by omega) (by decide) (by decide) dX4_isThere_23 ?_
      first | exact zb_t (by omega) k | exact zb_f (by omega) k
    · refine zr_iconst (pc := 18)  dX4_isThere_18 ?_
      refine zr_goto (pc := 19)  (tgt := 23) (by decide) dX4_isThere_19 ?_
      refine zr_zreturn (pc := 23)  rfl (by omega) (by decide) (by decide) dX4_isThere_23 ?_
      first | exact zb_t (by omega) k | exact zb_f (by omega) k
theorem k_X4_value {G : zG} {n : Nat} {h : zH} {Post : Option Value → Nat → zH → Prop} {s d : Int} {wk mo : Int → Int} (h16 : h 16 = some oTal) (h17 : h 17 = some (aI 35 wk)) (h18 : h 18 = some (aI 60 mo)) (hs : 0 ≤ s ∧ s < 5) (hd : 0 ≤ d ∧ d < 84) (k : Post (some (vi (wk (s * 7 + d % 7) * mo (s * 12 + d / 7)))) n h) : zMP G mX4_value [.ref 16, vi s, vi d] n h Post := by
  refine zMP_of (by decide) [some _, some _, some _] (Nat.le_of_ble_eq_true rfl) rfl ?_
  refine zr_aload_n (pc := 0)  (i := 0) rfl rfl dX4_value_0 ?_
  refine zr_get (pc := 1)  fl_X4_9 (by first | assumption | rfl | (repeat (first | assumption | exact zup_s | refine zup_g (by decide) ?_))) rfl dX4_value_1 ?_
  refine zr_iload_n (pc := 4)  (i := 1) rfl rfl dX4_value_4 ?_
  refine zr_bipush (pc := 5)  (by decide) dX4_value_5 ?_
  refine zr_imul (pc := 7)  dX4_value_7 ?_
  refine zr_iload_n (pc := 8)  (i := 2) rfl rfl dX4_value_8 ?_
  refine zr_bipush (pc := 9)  (by decide) dX4_value_9 ?_
  refine zr_iremN (pc := 11)  ⟨by omega, by omega⟩ ⟨by omega, by omega⟩ dX4_value_11 ?_
  refine zr_iadd (pc := 12)  dX4_value_12 ?_
  refine zr_iald (pc := 13)  (by first | assumption | rfl | (repeat (first | assumption | exact zup_s | refine zup_g (by decide) ?_))) ⟨by omega, by omega⟩ (by decide) dX4_value_13 ?_
  refine zr_aload_n (pc := 14)  (i := 0) rfl rfl dX4_value_14 ?_
  refine zr_get (pc := 15)  fl_X4_15 (by first | assumption | rfl | (repeat (first | assumption | exact zup_s | refine zup_g (by decide) ?_))) rfl dX4_value_15 ?_
  refine zr_iload_n (pc := 18)  (i := 1) rfl rfl dX4_value_18 ?_
  refine zr_bipush (pc := 19)  (by decide) dX4_value_19 ?_
  refine zr_imul (pc := 21)  dX4_value_21 ?_
  refine zr_iload_n (pc := 22)  (i := 2) rfl rfl dX4_value_22 ?_
  refine zr_bipush (pc := 23)  (by decide) dX4_value_23 ?_
  refine zr_idivN (pc := 25)  ⟨by omega, by omega⟩ ⟨by omega, by omega⟩ dX4_value_25 ?_
  refine zr_iadd (pc := 26)  dX4_value_26 ?_
  refine zr_iald (pc := 27)  (by first | assumption | rfl | (repeat (first | assumption | exact zup_s | refine zup_g (by decide) ?_))) ⟨by omega, by omega⟩ (by decide) dX4_value_27 ?_
  refine zr_imul (pc := 28)  dX4_value_28 ?_
  refine zr_ireturn (pc := 29)  rfl (by decide) (by decide) dX4_value_29 ?_
  exact k
theorem k_X4_valueOfYear {G : zG} {n : Nat} {h : zH} {Post : Option Value → Nat → zH → Prop} {s : Int} {to : Int → Int} (h16 : h 16 = some oTal) (h19 : h 19 = some (aI 5 to)) (hs : 0 ≤ s ∧ s < 5) (hr : iR (to s)) (k : Post (some (vl (to s * to s))) n h) : zMP G mX4_valueOfYear [.ref 16, vi s] n h Post := by
  refine zMP_of (by decide) [some _, some _] (Nat.le_of_ble_eq_true rfl) rfl ?_
  refine zr_aload_n (pc := 0)  (i := 0) rfl rfl dX4_valueOfYear_0 ?_
  refine zr_get (pc := 1)  fl_X4_18 (by first | assumption | rfl | (repeat (first | assumption | exact zup_s | refine zup_g (by decide) ?_))) rfl dX4_valueOfYear_1 ?_
  refine zr_iload_n (pc := 4)  (i := 1) rfl rfl dX4_valueOfYear_4 ?_
  refine zr_iald (pc := 5)  (by first | assumption | rfl | (repeat (first | assumption | exact zup_s | refine zup_g (by decide) ?_))) ⟨by omega, by omega⟩ (by decide) dX4_valueOfYear_5 ?_
  refine zr_i2l (pc := 6)  ⟨by omega, by omega⟩ dX4_valueOfYear_6 ?_
  refine zr_aload_n (pc := 7)  (i := 0) rfl rfl dX4_valueOfYear_7 ?_
  refine zr_get (pc := 8)  fl_X4_18 (by first | assumption | rfl | (repeat (first | assumption | exact zup_s | refine zup_g (by decide) ?_))) rfl dX4_valueOfYear_8 ?_
  refine zr_iload_n (pc := 11)  (i := 1) rfl rfl dX4_valueOfYear_11 ?_
  refine zr_iald (pc := 12)  (by first | assumption | rfl | (repeat (first | assumption | exact zup_s | refine zup_g (by decide) ?_))) ⟨by omega, by omega⟩ (by decide) dX4_valueOfYear_12 ?_
  refine zr_i2l (pc := 13)  ⟨by omega, by omega⟩ dX4_valueOfYear_13 ?_
  refine zr_lmul (pc := 14)  dX4_valueOfYear_14 ?_
  refine zr_lreturn (pc := 15)  rfl (by decide) (by decide) dX4_valueOfYear_15 ?_
  exact k
