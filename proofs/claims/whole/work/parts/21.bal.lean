/-! Balance -/
def oTb : va_E := aR 4 (fun i => if i < 4 then some (30 + 1 + i) else none)
theorem oTb_at {i : Int} (h : 0 ≤ i ∧ i < 4) : (fun i : Nat => if i < 4 then some (30 + 1 + i) else none) i.toNat = some (31 + i.toNat) := by
  show (if i.toNat < 4 then some (30 + 1 + i.toNat) else none) = _
  rw [if_pos (by omega)]
/-- the balance's cells: divisor, table, excesses, pulls -/
def hB (h : zH) (dv : Int) (T : Int → Int → Int) (ex pu : Int → Int) : zH := zup (zup (zup (zup (zup (zup (zup h 31 (aJ 8 (T 0))) 32 (aJ 8 (T 1))) 33 (aJ 8 (T 2))) 34 (aJ 8 (T 3))) 35 (aJ 4 ex)) 36 (aJ 8 pu)) 29 (oBal dv)
def uT (T : Int → Int → Int) (i : Int) (g : Int → Int) : Int → Int → Int := fun r => if r = i then g else T r
theorem uT_s {T : Int → Int → Int} {i : Int} {g : Int → Int} : uT T i g i = g := if_pos rfl
theorem uT_n {T : Int → Int → Int} {i j : Int} {g : Int → Int} (h : j ≠ i) : uT T i g j = T j := if_neg h
theorem uT_app {T : Int → Int → Int} {i c j : Int} {g : Int → Int} : uT T i g c j = if c = i then g j else T c j := by unfold uT; split <;> rfl
theorem uZ_app {g : Int → Int} {i v j : Int} : uZ g i v j = if j = i then v else g j := rfl
theorem hB_row {h : zH} {dv : Int} {T : Int → Int → Int} {ex pu : Int → Int} {i : Int} (hi : 0 ≤ i ∧ i < 4) : hB h dv T ex pu (31 + i.toNat) = some (aJ 8 (T i)) := by
  rcases (show i = 0 ∨ i = 1 ∨ i = 2 ∨ i = 3 by omega) with rfl | rfl | rfl | rfl <;> rfl
theorem hB_set {h : zH} {dv : Int} {T : Int → Int → Int} {ex pu : Int → Int} {i : Int} {g : Int → Int} (hi : 0 ≤ i ∧ i < 4) : zup (hB h dv T ex pu) (31 + i.toNat) (aJ 8 g) = hB h dv (uT T i g) ex pu := by
  rcases (show i = 0 ∨ i = 1 ∨ i = 2 ∨ i = 3 by omega) with rfl | rfl | rfl | rfl
  · funext j
    by_cases hj : j = 31
    · subst hj; rfl
    · rw [show 31 + (0 : Int).toNat = 31 from rfl, zup_n hj]; simp only [hB, zup, if_neg hj]; rfl
  · funext j
    by_cases hj : j = 32
    · subst hj; rfl
    · rw [show 31 + (1 : Int).toNat = 32 from rfl, zup_n hj]; simp only [hB, zup, if_neg hj]; rfl
  · funext j
    by_cases hj : j = 33
    · subst hj; rfl
    · rw [show 31 + (2 : Int).toNat = 33 from rfl, zup_n hj]; simp only [hB, zup, if_neg hj]; rfl
  · funext j
    by_cases hj : j = 34
    · subst hj; rfl
    · rw [show 31 + (3 : Int).toNat = 34 from rfl, zup_n hj]; simp only [hB, zup, if_neg hj]; rfl
theorem hB_35 {h : zH} {dv : Int} {T : Int → Int → Int} {ex pu e2 : Int → Int} : zup (hB h dv T ex pu) 35 (aJ 4 e2) = hB h dv T e2 pu := by
  funext j
  by_cases hj : j = 35
  · subst hj; rfl
  · rw [zup_n hj]; simp only [hB, zup, if_neg hj]
theorem hB_36 {h : zH} {dv : Int} {T : Int → Int → Int} {ex pu p2 : Int → Int} : zup (hB h dv T ex pu) 36 (aJ 8 p2) = hB h dv T ex p2 := by
  funext j
  by_cases hj : j = 36
  · subst hj; rfl
  · rw [zup_n hj]; simp only [hB, zup, if_neg hj]
theorem hB_29 {h : zH} {dv d2 : Int} {T : Int → Int → Int} {ex pu : Int → Int} : zup (hB h dv T ex pu) 29 (oBal d2) = hB h d2 T ex pu := by unfold hB; rw [zup_zup]
theorem hB_out {h : zH} {dv : Int} {T : Int → Int → Int} {ex pu : Int → Int} {a : Nat} {e : va_E} (ha : a < 29 ∨ a = 30 ∨ 36 < a) : zup (hB h dv T ex pu) a e = hB (zup h a e) dv T ex pu := by
  funext j
  by_cases hj : j = a
  · subst hj
    rw [zup_s]
    simp only [hB, zup]
    rw [if_neg (show ¬ j = 29 by omega), if_neg (show ¬ j = 36 by omega), if_neg (show ¬ j = 35 by omega), if_neg (show ¬ j = 34 by omega), if_neg (show ¬ j = 33 by omega), if_neg (show ¬ j = 32 by omega), if_neg (show ¬ j = 31 by omega), if_pos trivial]
  · rw [zup_n hj]; simp only [hB, zup, if_neg hj]
theorem l_X0_clear {G : zG} {n : Nat} {h : zH} {Post : Option Value → Nat → zH → Prop} {dv : Int} {ex pu : Int → Int} (h30 : h 30 = some oTb) (kk : ∀ (T : Int → Int → Int) (pu : Int → Int), (∀ c j : Int, 0 ≤ c → c < 4 → 0 ≤ j → j < 8 → T c j = if j = 4 + c then 1 else 0) → (∀ j : Int, 0 ≤ j → j < 8 → pu j = 0) → Post none n (hB h 1 T ex pu)) : ∀ (k : Nat) (m : Int) (T : Int → Int → Int), 4 - m ≤ k → 0 ≤ m → m ≤ 4 → (∀ c j : Int, 0 ≤ c → c < m → 0 ≤ j → j < 8 → T c j = if j = 4 + c then 1 else 0) → zAW G mX0_clear zTT (zF G mX0_clear Post) 2 [some (.ref 29), some (vi m)] [] n (hB h dv T ex pu) 0 0 := by
  have fin : ∀ (T : Int → Int → Int) (m : Int), (∀ c j : Int, 0 ≤ c → c < 4 → 0 ≤ j → j < 8 → T c j = if j = 4 + c then 1 else 0) → zAW G mX0_clear zTT (zF G mX0_clear Post) 34 [some (.ref 29), some (vi m)] [] n (hB h dv T ex pu) 0 0 := fun T m hT => by
    refine zr_aload_n (pc := 34)  (i := 0) rfl rfl dX0_clear_34 ?_
    refine zr_get (pc := 35)  fl_X0_20 (by first | assumption | rfl | exact hB_row ⟨by omega, by omega⟩) rfl dX0_clear_35 ?_
    refine zr_lconst (pc := 38)  (z := 0) (by decide) dX0_clear_38 ?_
    refine zc_call2 (pc := 39)  cs_X0_clear_27 (Nat.le_of_ble_eq_true rfl) (by decide) dX0_clear_39 ?_
    refine k_J7_fill_d0a16 (g := pu) rfl (by decide) ?_
    rw [hB_36]
    dsimp only [Option.toList, List.cons_append, List.nil_append]
    refine zr_aload_n (pc := 42)  (i := 0) rfl rfl dX0_clear_42 ?_
    refine zr_lconst (pc := 43)  (z := 1) (by decide) dX0_clear_43 ?_
    refine zr_put (pc := 44)  (oBal _) (fp_X0_23 rfl) (by first | assumption | rfl | exact hB_row ⟨by omega, by omega⟩) (Nat.le_of_ble_eq_true rfl) rfl rfl rfl dX0_clear_44 ?_
    refine zr_heap hB_29 ?_
    refine zr_vreturn (pc := 47)  rfl (by decide) (by decide) dX0_clear_47 ?_
    exact kk _ _ hT (fun j a b => clZ_in ⟨a, b⟩)
  intro k
  induction k with
  | zero =>
    intro m T hk h0 hm hT
    obtain rfl : m = 4 := by omega
    refine zr_iload_n (pc := 2)  (i := 1) rfl rfl dX0_clear_2 ?_
    refine zr_iconst (pc := 3)  dX0_clear_3 ?_
    refine zr_icmp_ge (pc := 4)  (tgt := 34) ⟨by omega, by omega⟩ ⟨by omega, by omega⟩ (by decide) dX0_clear_4 (fun q4 => ?_) (fun q4 => ?_)
    · exact fin _ _ hT
    · exact absurd q4 (by omega)
  | succ k ih =>
    intro m T hk h0 hm hT
    refine zr_iload_n (pc := 2)  (i := 1) rfl rfl dX0_clear_2 ?_
    refine zr_iconst (pc := 3)  dX0_clear_3 ?_
    refine zr_icmp_ge (pc := 4)  (tgt := 34) ⟨by omega, by omega⟩ ⟨by omega, by omega⟩ (by decide) dX0_clear_4 (fun q4 => ?_) (fun q4 => ?_)
    · exact fin _ _ (fun c j a b => hT c j a (by omega))
    · refine zr_aload_n (pc := 7)  (i := 0) rfl rfl dX0_clear_7 ?_
      refine zr_get (pc := 8)  fl_X0_11 (by first | assumption | rfl | exact hB_row ⟨by omega, by omega⟩) rfl dX0_clear_8 ?_
      refine zr_iload_n (pc := 11)  (i := 1) rfl rfl dX0_clear_11 ?_
      refine zr_aald (pc := 12)  (by first | assumption | rfl | exact hB_row ⟨by omega, by omega⟩) ⟨by omega, by omega⟩ (by decide) (by exact oTb_at ⟨by omega, by omega⟩) dX0_clear_12 ?_
      refine zr_lconst (pc := 13)  (z := 0) (by decide) dX0_clear_13 ?_
      refine zc_call2 (pc := 14)  cs_X0_clear_27 (Nat.le_of_ble_eq_true rfl) (by decide) dX0_clear_14 ?_
      refine k_J7_fill_d0a16 (g := T m) (hB_row ⟨by omega, by omega⟩) (by decide) ?_
      rw [hB_set ⟨by omega, by omega⟩]
      dsimp only [Option.toList, List.cons_append, List.nil_append]
      refine zr_aload_n (pc := 17)  (i := 0) rfl rfl dX0_clear_17 ?_
      refine zr_get (pc := 18)  fl_X0_11 (by first | assumption | rfl | exact hB_row ⟨by omega, by omega⟩) rfl dX0_clear_18 ?_
      refine zr_iload_n (pc := 21)  (i := 1) rfl rfl dX0_clear_21 ?_
      refine zr_aald (pc := 22)  (by first | assumption | rfl | exact hB_row ⟨by omega, by omega⟩) ⟨by omega, by omega⟩ (by decide) (by exact oTb_at ⟨by omega, by omega⟩) dX0_clear_22 ?_
      refine zr_iconst (pc := 23)  dX0_clear_23 ?_
      refine zr_iload_n (pc := 24)  (i := 1) rfl rfl dX0_clear_24 ?_
      refine zr_iadd (pc := 25)  dX0_clear_25 ?_
      refine zr_lconst (pc := 26)  (z := 1) (by decide) dX0_clear_26 ?_
      refine zr_last (pc := 27)  (by first | assumption | rfl | exact hB_row ⟨by omega, by omega⟩) ⟨by omega, by omega⟩ (by decide) dX0_clear_27 ?_
      refine zr_heap (hB_set ⟨by omega, by omega⟩) ?_
      refine zs_iinc_1 (pc := 28)  (by first | exact zn_i | exact zn_r | exact zn_0) (by decide) dX0_clear_28 ?_
      refine zr_goto (pc := 31)  (tgt := 2) (by decide) dX0_clear_31 ?_
      refine ih (m + 1) _ (by omega) (by omega) (by omega) (fun c j a b a2 b2 => ?_)
      by_cases e : c = m
      (rw [e, uT_s, uT_s]; by_cases e2 : j = 4 + m; (rw [e2, uZ_s, if_pos rfl]); (rw [uZ_n e2, if_neg e2]; exact clZ_in ⟨a2, b2⟩))
      (rw [uT_n e, uT_n e]; exact hT c j a (by omega) a2 b2)
theorem k_X0_clear {G : zG} {n : Nat} {h : zH} {Post : Option Value → Nat → zH → Prop} {dv : Int} {T : Int → Int → Int} {ex pu : Int → Int} (h30 : h 30 = some oTb) (k : ∀ (T : Int → Int → Int) (pu : Int → Int), (∀ c j : Int, 0 ≤ c → c < 4 → 0 ≤ j → j < 8 → T c j = if j = 4 + c then 1 else 0) → (∀ j : Int, 0 ≤ j → j < 8 → pu j = 0) → Post none n (hB h 1 T ex pu)) : zMP G mX0_clear [.ref 29] n (hB h dv T ex pu) Post := by
  refine zMP_of (by decide) [some _, none] (Nat.le_of_ble_eq_true rfl) rfl ?_
  refine zr_iconst (pc := 0)  dX0_clear_0 ?_
  refine zs_istore_n_1 (pc := 1)  (by first | exact zn_i | exact zn_r | exact zn_0) (by decide) dX0_clear_1 ?_
  exact l_X0_clear h30 k 4 0 T (by omega) (by omega) (by omega) (fun c j a b => by omega)
theorem upA {T : Int → Int → Int} {r i v c j : Int} : uT T r (uZ (T r) i (T r i + v)) c j = T c j + (if c = r ∧ j = i then v else 0) := by
  rw [uT_app, uZ_app]
  by_cases h1 : c = r
  · by_cases h2 : j = i
    · rw [if_pos h1, if_pos h2, if_pos ⟨h1, h2⟩, h1, h2]
    · rw [if_pos h1, if_neg h2, if_neg (fun q => h2 q.2), h1, Int.add_zero]
  · rw [if_neg h1, if_neg (fun q => h1 q.1), Int.add_zero]
theorem upS {T : Int → Int → Int} {r i v c j : Int} : uT T r (uZ (T r) i (T r i - v)) c j = T c j - (if c = r ∧ j = i then v else 0) := by
  rw [uT_app, uZ_app]
  by_cases h1 : c = r
  · by_cases h2 : j = i
    · rw [if_pos h1, if_pos h2, if_pos ⟨h1, h2⟩, h1, h2]
    · rw [if_pos h1, if_neg h2, if_neg (fun q => h2 q.2), h1, Int.sub_zero]
  · rw [if_neg h1, if_neg (fun q => h1 q.1), Int.sub_zero]
/-- what a road adds to the table of doubts -/
def arZ (a b d c j : Int) : Int := (if c = a ∧ j = a then d else 0) + (if c = b ∧ j = b then d else 0) - (if (a < 4 ∧ b < 4) ∧ (c = a ∧ j = b) then d else 0) - (if (a < 4 ∧ b < 4) ∧ (c = b ∧ j = a) then d else 0)
theorem k_X0_addRoad {G : zG} {n : Nat} {h : zH} {Post : Option Value → Nat → zH → Prop} {a b d dv : Int} {T : Int → Int → Int} {ex pu : Int → Int} (h30 : h 30 = some oTb) (ha : 0 ≤ a ∧ a < 8) (hb : 0 ≤ b ∧ b < 8) (hab : a ≠ b) (hd : iR d) (k : ∀ T2 : Int → Int → Int, (∀ c j : Int, 0 ≤ c → c < 4 → 0 ≤ j → j < 8 → T2 c j = T c j + (if j < 4 then arZ a b d c j else 0)) → Post none n (hB h dv T2 ex pu)) : zMP G mX0_addRoad [.ref 29, vi a, vi b, vi d] n (hB h dv T ex pu) Post := by
  refine zMP_of (by decide) [some _, some _, some _, some _] (Nat.le_of_ble_eq_true rfl) rfl ?_
  refine zr_iload_n (pc := 0)  (i := 1) rfl rfl dX0_addRoad_0 ?_
  refine zr_iconst (pc := 1)  dX0_addRoad_1 ?_
  refine zr_icmp_ge (pc := 2)  (tgt := 18) ⟨by omega, by omega⟩ ⟨by omega, by omega⟩ (by decide) dX0_addRoad_2 (fun q2 => ?_) (fun q2 => ?_)
  · refine zr_iload_n (pc := 18)  (i := 2) rfl rfl dX0_addRoad_18 ?_
    refine zr_iconst (pc := 19)  dX0_addRoad_19 ?_
    refine zr_icmp_ge (pc := 20)  (tgt := 36) ⟨by omega, by omega⟩ ⟨by omega, by omega⟩ (by decide) dX0_addRoad_20 (fun q20 => ?_) (fun q20 => ?_)
    · refine zr_iload_n (pc := 36)  (i := 1) rfl rfl dX0_addRoad_36 ?_
      refine zr_iconst (pc := 37)  dX0_addRoad_37 ?_
      refine zr_icmp_ge (pc := 38)  (tgt := 72) ⟨by omega, by omega⟩ ⟨by omega, by omega⟩ (by decide) dX0_addRoad_38 (fun q38 => ?_) (fun q38 => ?_)
      · refine zr_vreturn (pc := 72)  rfl (by decide) (by decide) dX0_addRoad_72 ?_
        exact k _ (fun c j c0 c4 j0 j8 => by (first | rw [upS, upS, upA, upA] | rw [upA] | skip); unfold arZ; (repeat' split) <;> omega)
      · refine zr_iload_n (pc := 41)  (i := 2) rfl rfl dX0_addRoad_41 ?_
        refine zr_iconst (pc := 42)  dX0_addRoad_42 ?_
        refine zr_icmp_ge (pc := 43)  (tgt := 72) ⟨by omega, by omega⟩ ⟨by omega, by omega⟩ (by decide) dX0_addRoad_43 (fun q43 => ?_) (fun q43 => ?_)
        · refine zr_vreturn (pc := 72)  rfl (by decide) (by decide) dX0_addRoad_72 ?_
          exact k _ (fun c j c0 c4 j0 j8 => by (first | rw [upS, upS, upA, upA] | rw [upA] | skip); unfold arZ; (repeat' split) <;> omega)
        · refine zr_aload_n (pc := 46)  (i := 0) rfl rfl dX0_addRoad_46 ?_
          refine zr_get (pc := 47)  fl_X0_11 (by first | assumption | rfl | exact hB_row ⟨by omega, by omega⟩) rfl dX0_addRoad_47 ?_
          refine zr_iload_n (pc := 50)  (i := 1) rfl rfl dX0_addRoad_50 ?_
          refine zr_aald (pc := 51)  (by first | assumption | rfl | exact hB_row ⟨by omega, by omega⟩) ⟨by omega, by omega⟩ (by decide) (by exact oTb_at ⟨by omega, by omega⟩) dX0_addRoad_51 ?_
          refine zr_iload_n (pc := 52)  (i := 2) rfl rfl dX0_addRoad_52 ?_
          first | refine zr_dup2 (pc := 53)  rfl rfl dX0_addRoad_53 ?_ | refine zr_dup2L (pc := 53)  rfl dX0_addRoad_53 ?_
          refine zr_lald (pc := 54)  (by first | assumption | rfl | exact hB_row ⟨by omega, by omega⟩) ⟨by omega, by omega⟩ (by decide) dX0_addRoad_54 ?_
          refine zr_iload_n (pc := 55)  (i := 3) rfl rfl dX0_addRoad_55 ?_
          refine zr_i2l (pc := 56)  ⟨by omega, by omega⟩ dX0_addRoad_56 ?_
          refine zr_lsub (pc := 57)  dX0_addRoad_57 ?_
          refine zr_last (pc := 58)  (by first | assumption | rfl | exact hB_row ⟨by omega, by omega⟩) ⟨by omega, by omega⟩ (by decide) dX0_addRoad_58 ?_
          refine zr_heap (hB_set ⟨by omega, by omega⟩) ?_
          refine zr_aload_n (pc := 59)  (i := 0) rfl rfl dX0_addRoad_59 ?_
          refine zr_get (pc := 60)  fl_X0_11 (by first | assumption | rfl | exact hB_row ⟨by omega, by omega⟩) rfl dX0_addRoad_60 ?_
          refine zr_iload_n (pc := 63)  (i := 2) rfl rfl dX0_addRoad_63 ?_
          refine zr_aald (pc := 64)  (by first | assumption | rfl | exact hB_row ⟨by omega, by omega⟩) ⟨by omega, by omega⟩ (by decide) (by exact oTb_at ⟨by omega, by omega⟩) dX0_addRoad_64 ?_
          refine zr_iload_n (pc := 65)  (i := 1) rfl rfl dX0_addRoad_65 ?_
          first | refine zr_dup2 (pc := 66)  rfl rfl dX0_addRoad_66 ?_ | refine zr_dup2L (pc := 66)  rfl dX0_addRoad_66 ?_
          refine zr_lald (pc := 67)  (by first | assumption | rfl | exact hB_row ⟨by omega, by omega⟩) ⟨by omega, by omega⟩ (by decide) dX0_addRoad_67 ?_
          refine zr_iload_n (pc := 68)  (i := 3) rfl rfl dX0_addRoad_68 ?_
          refine zr_i2l (pc := 69)  ⟨by omega, by omega⟩ dX0_addRoad_69 ?_
          refine zr_lsub (pc := 70)  dX0_addRoad_70 ?_
          refine zr_last (pc := 71)  (by first | assumption | rfl | exact hB_row ⟨by omega, by omega⟩) ⟨by omega, by omega⟩ (by decide) dX0_addRoad_71 ?_
          refine zr_heap (hB_set ⟨by omega, by omega⟩) ?_
          refine zr_vreturn (pc := 72)  rfl (by decide) (by decide) dX0_addRoad_72 ?_
          exact k _ (fun c j c0 c4 j0 j8 => by (first | rw [upS, upS, upA, upA] | rw [upA] | skip); unfold arZ; (repeat' split) <;> omega)
    · refine zr_aload_n (pc := 23)  (i := 0) rfl rfl dX0_addRoad_23 ?_
      refine zr_get (pc := 24)  fl_X0_11 (by first | assumption | rfl | exact hB_row ⟨by omega, by omega⟩) rfl dX0_addRoad_24 ?_
      refine zr_iload_n (pc := 27)  (i := 2) rfl rfl dX0_addRoad_27 ?_
      refine zr_aald (pc := 28)  (by first | assumption | rfl | exact hB_row ⟨by omega, by omega⟩) ⟨by omega, by omega⟩ (by decide) (by exact oTb_at ⟨by omega, by omega⟩) dX0_addRoad_28 ?_
      refine zr_iload_n (pc := 29)  (i := 2) rfl rfl dX0_addRoad_29 ?_
      first | refine zr_dup2 (pc := 30)  rfl rfl dX0_addRoad_30 ?_ | refine zr_dup2L (pc := 30)  rfl dX0_addRoad_30 ?_
      refine zr_lald (pc := 31)  (by first | assumption | rfl | exact hB_row ⟨by omega, by omega⟩) ⟨by omega, by omega⟩ (by decide) dX0_addRoad_31 ?_
      refine zr_iload_n (pc := 32)  (i := 3) rfl rfl dX0_addRoad_32 ?_
      refine zr_i2l (pc := 33)  ⟨by omega, by omega⟩ dX0_addRoad_33 ?_
      refine zr_ladd (pc := 34)  dX0_addRoad_34 ?_
      refine zr_last (pc := 35)  (by first | assumption | rfl | exact hB_row ⟨by omega, by omega⟩) ⟨by omega, by omega⟩ (by decide) dX0_addRoad_35 ?_
      refine zr_heap (hB_set ⟨by omega, by omega⟩) ?_
      refine zr_iload_n (pc := 36)  (i := 1) rfl rfl dX0_addRoad_36 ?_
      refine zr_iconst (pc := 37)  dX0_addRoad_37 ?_
      refine zr_icmp_ge (pc := 38)  (tgt := 72) ⟨by omega, by omega⟩ ⟨by omega, by omega⟩ (by decide) dX0_addRoad_38 (fun q38 => ?_) (fun q38 => ?_)
      · refine zr_vreturn (pc := 72)  rfl (by decide) (by decide) dX0_addRoad_72 ?_
        exact k _ (fun c j c0 c4 j0 j8 => by (first | rw [upS, upS, upA, upA] | rw [upA] | skip); unfold arZ; (repeat' split) <;> omega)
      · refine zr_iload_n (pc := 41)  (i := 2) rfl rfl dX0_addRoad_41 ?_
        refine zr_iconst (pc := 42)  dX0_addRoad_42 ?_
        refine zr_icmp_ge (pc := 43)  (tgt := 72) ⟨by omega, by omega⟩ ⟨by omega, by omega⟩ (by decide) dX0_addRoad_43 (fun q43 => ?_) (fun q43 => ?_)
        · refine zr_vreturn (pc := 72)  rfl (by decide) (by decide) dX0_addRoad_72 ?_
          exact k _ (fun c j c0 c4 j0 j8 => by (first | rw [upS, upS, upA, upA] | rw [upA] | skip); unfold arZ; (repeat' split) <;> omega)
        · refine zr_aload_n (pc := 46)  (i := 0) rfl rfl dX0_addRoad_46 ?_
          refine zr_get (pc := 47)  fl_X0_11 (by first | assumption | rfl | exact hB_row ⟨by omega, by omega⟩) rfl dX0_addRoad_47 ?_
          refine zr_iload_n (pc := 50)  (i := 1) rfl rfl dX0_addRoad_50 ?_
          refine zr_aald (pc := 51)  (by first | assumption | rfl | exact hB_row ⟨by omega, by omega⟩) ⟨by omega, by omega⟩ (by decide) (by exact oTb_at ⟨by omega, by omega⟩) dX0_addRoad_51 ?_
          refine zr_iload_n (pc := 52)  (i := 2) rfl rfl dX0_addRoad_52 ?_
          first | refine zr_dup2 (pc := 53)  rfl rfl dX0_addRoad_53 ?_ | refine zr_dup2L (pc := 53)  rfl dX0_addRoad_53 ?_
          refine zr_lald (pc := 54)  (by first | assumption | rfl | exact hB_row ⟨by omega, by omega⟩) ⟨by omega, by omega⟩ (by decide) dX0_addRoad_54 ?_
          refine zr_iload_n (pc := 55)  (i := 3) rfl rfl dX0_addRoad_55 ?_
          refine zr_i2l (pc := 56)  ⟨by omega, by omega⟩ dX0_addRoad_56 ?_
          refine zr_lsub (pc := 57)  dX0_addRoad_57 ?_
          refine zr_last (pc := 58)  (by first | assumption | rfl | exact hB_row ⟨by omega, by omega⟩) ⟨by omega, by omega⟩ (by decide) dX0_addRoad_58 ?_
          refine zr_heap (hB_set ⟨by omega, by omega⟩) ?_
          refine zr_aload_n (pc := 59)  (i := 0) rfl rfl dX0_addRoad_59 ?_
          refine zr_get (pc := 60)  fl_X0_11 (by first | assumption | rfl | exact hB_row ⟨by omega, by omega⟩) rfl dX0_addRoad_60 ?_
          refine zr_iload_n (pc := 63)  (i := 2) rfl rfl dX0_addRoad_63 ?_
          refine zr_aald (pc := 64)  (by first | assumption | rfl | exact hB_row ⟨by omega, by omega⟩) ⟨by omega, by omega⟩ (by decide) (by exact oTb_at ⟨by omega, by omega⟩) dX0_addRoad_64 ?_
          refine zr_iload_n (pc := 65)  (i := 1) rfl rfl dX0_addRoad_65 ?_
          first | refine zr_dup2 (pc := 66)  rfl rfl dX0_addRoad_66 ?_ | refine zr_dup2L (pc := 66)  rfl dX0_addRoad_66 ?_
          refine zr_lald (pc := 67)  (by first | assumption | rfl | exact hB_row ⟨by omega, by omega⟩) ⟨by omega, by omega⟩ (by decide) dX0_addRoad_67 ?_
          refine zr_iload_n (pc := 68)  (i := 3) rfl rfl dX0_addRoad_68 ?_
          refine zr_i2l (pc := 69)  ⟨by omega, by omega⟩ dX0_addRoad_69 ?_
          refine zr_lsub (pc := 70)  dX0_addRoad_70 ?_
          refine zr_last (pc := 71)  (by first | assumption | rfl | exact hB_row ⟨by omega, by omega⟩) ⟨by omega, by omega⟩ (by decide) dX0_addRoad_71 ?_
          refine zr_heap (hB_set ⟨by omega, by omega⟩) ?_
          refine zr_vreturn (pc := 72)  rfl (by decide) (by decide) dX0_addRoad_72 ?_
          exact k _ (fun c j c0 c4 j0 j8 => by (first | rw [upS, upS, upA, upA] | rw [upA] | skip); unfold arZ; (repeat' split) <;> omega)
  · refine zr_aload_n (pc := 5)  (i := 0) rfl rfl dX0_addRoad_5 ?_
    refine zr_get (pc := 6)  fl_X0_11 (by first | assumption | rfl | exact hB_row ⟨by omega, by omega⟩) rfl dX0_addRoad_6 ?_
    refine zr_iload_n (pc := 9)  (i := 1) rfl rfl dX0_addRoad_9 ?_
    refine zr_aald (pc := 10)  (by first | assumption | rfl | exact hB_row ⟨by omega, by omega⟩) ⟨by omega, by omega⟩ (by decide) (by exact oTb_at ⟨by omega, by omega⟩) dX0_addRoad_10 ?_
    refine zr_iload_n (pc := 11)  (i := 1) rfl rfl dX0_addRoad_11 ?_
    first | refine zr_dup2 (pc := 12)  rfl rfl dX0_addRoad_12 ?_ | refine zr_dup2L (pc := 12)  rfl dX0_addRoad_12 ?_
    refine zr_lald (pc := 13)  (by first | assumption | rfl | exact hB_row ⟨by omega, by omega⟩) ⟨by omega, by omega⟩ (by decide) dX0_addRoad_13 ?_
    refine zr_iload_n (pc := 14)  (i := 3) rfl rfl dX0_addRoad_14 ?_
    refine zr_i2l (pc := 15)  ⟨by omega, by omega⟩ dX0_addRoad_15 ?_
    refine zr_ladd (pc := 16)  dX0_addRoad_16 ?_
    refine zr_last (pc := 17)  (by first | assumption | rfl | exact hB_row ⟨by omega, by omega⟩) ⟨by omega, by omega⟩ (by decide) dX0_addRoad_17 ?_
    refine zr_heap (hB_set ⟨by omega, by omega⟩) ?_
    refine zr_iload_n (pc := 18)  (i := 2) rfl rfl dX0_addRoad_18 ?_
    refine zr_iconst (pc := 19)  dX0_addRoad_19 ?_
    refine zr_icmp_ge (pc := 20)  (tgt := 36) ⟨by omega, by omega⟩ ⟨by omega, by omega⟩ (by decide) dX0_addRoad_20 (fun q20 => ?_) (fun q20 => ?_)
    · refine zr_iload_n (pc := 36)  (i := 1) rfl rfl dX0_addRoad_36 ?_
      refine zr_iconst (pc := 37)  dX0_addRoad_37 ?_
      refine zr_icmp_ge (pc := 38)  (tgt := 72) ⟨by omega, by omega⟩ ⟨by omega, by omega⟩ (by decide) dX0_addRoad_38 (fun q38 => ?_) (fun q38 => ?_)
      · refine zr_vreturn (pc := 72)  rfl (by decide) (by decide) dX0_addRoad_72 ?_
        exact k _ (fun c j c0 c4 j0 j8 => by (first | rw [upS, upS, upA, upA] | rw [upA] | skip); unfold arZ; (repeat' split) <;> omega)
      · refine zr_iload_n (pc := 41)  (i := 2) rfl rfl dX0_addRoad_41 ?_
        refine zr_iconst (pc := 42)  dX0_addRoad_42 ?_
        refine zr_icmp_ge (pc := 43)  (tgt := 72) ⟨by omega, by omega⟩ ⟨by omega, by omega⟩ (by decide) dX0_addRoad_43 (fun q43 => ?_) (fun q43 => ?_)
        · refine zr_vreturn (pc := 72)  rfl (by decide) (by decide) dX0_addRoad_72 ?_
          exact k _ (fun c j c0 c4 j0 j8 => by (first | rw [upS, upS, upA, upA] | rw [upA] | skip); unfold arZ; (repeat' split) <;> omega)
        · refine zr_aload_n (pc := 46)  (i := 0) rfl rfl dX0_addRoad_46 ?_
          refine zr_get (pc := 47)  fl_X0_11 (by first | assumption | rfl | exact hB_row ⟨by omega, by omega⟩) rfl dX0_addRoad_47 ?_
          refine zr_iload_n (pc := 50)  (i := 1) rfl rfl dX0_addRoad_50 ?_
          refine zr_aald (pc := 51)  (by first | assumption | rfl | exact hB_row ⟨by omega, by omega⟩) ⟨by omega, by omega⟩ (by decide) (by exact oTb_at ⟨by omega, by omega⟩) dX0_addRoad_51 ?_
          refine zr_iload_n (pc := 52)  (i := 2) rfl rfl dX0_addRoad_52 ?_
          first | refine zr_dup2 (pc := 53)  rfl rfl dX0_addRoad_53 ?_ | refine zr_dup2L (pc := 53)  rfl dX0_addRoad_53 ?_
          refine zr_lald (pc := 54)  (by first | assumption | rfl | exact hB_row ⟨by omega, by omega⟩) ⟨by omega, by omega⟩ (by decide) dX0_addRoad_54 ?_
          refine zr_iload_n (pc := 55)  (i := 3) rfl rfl dX0_addRoad_55 ?_
          refine zr_i2l (pc := 56)  ⟨by omega, by omega⟩ dX0_addRoad_56 ?_
          refine zr_lsub (pc := 57)  dX0_addRoad_57 ?_
          refine zr_last (pc := 58)  (by first | assumption | rfl | exact hB_row ⟨by omega, by omega⟩) ⟨by omega, by omega⟩ (by decide) dX0_addRoad_58 ?_
          refine zr_heap (hB_set ⟨by omega, by omega⟩) ?_
          refine zr_aload_n (pc := 59)  (i := 0) rfl rfl dX0_addRoad_59 ?_
          refine zr_get (pc := 60)  fl_X0_11 (by first | assumption | rfl | exact hB_row ⟨by omega, by omega⟩) rfl dX0_addRoad_60 ?_
          refine zr_iload_n (pc := 63)  (i := 2) rfl rfl dX0_addRoad_63 ?_
          refine zr_aald (pc := 64)  (by first | assumption | rfl | exact hB_row ⟨by omega, by omega⟩) ⟨by omega, by omega⟩ (by decide) (by exact oTb_at ⟨by omega, by omega⟩) dX0_addRoad_64 ?_
          refine zr_iload_n (pc := 65)  (i := 1) rfl rfl dX0_addRoad_65 ?_
          first | refine zr_dup2 (pc := 66)  rfl rfl dX0_addRoad_66 ?_ | refine zr_dup2L (pc := 66)  rfl dX0_addRoad_66 ?_
          refine zr_lald (pc := 67)  (by first | assumption | rfl | exact hB_row ⟨by omega, by omega⟩) ⟨by omega, by omega⟩ (by decide) dX0_addRoad_67 ?_
          refine zr_iload_n (pc := 68)  (i := 3) rfl rfl dX0_addRoad_68 ?_
          refine zr_i2l (pc := 69)  ⟨by omega, by omega⟩ dX0_addRoad_69 ?_
          refine zr_lsub (pc := 70)  dX0_addRoad_70 ?_
          refine zr_last (pc := 71)  (by first | assumption | rfl | exact hB_row ⟨by omega, by omega⟩) ⟨by omega, by omega⟩ (by decide) dX0_addRoad_71 ?_
          refine zr_heap (hB_set ⟨by omega, by omega⟩) ?_
          refine zr_vreturn (pc := 72)  rfl (by decide) (by decide) dX0_addRoad_72 ?_
          exact k _ (fun c j c0 c4 j0 j8 => by (first | rw [upS, upS, upA, upA] | rw [upA] | skip); unfold arZ; (repeat' split) <;> omega)
    · refine zr_aload_n (pc := 23)  (i := 0) rfl rfl dX0_addRoad_23 ?_
      refine zr_get (pc := 24)  fl_X0_11 (by first | assumption | rfl | exact hB_row ⟨by omega, by omega⟩) rfl dX0_addRoad_24 ?_
      refine zr_iload_n (pc := 27)  (i := 2) rfl rfl dX0_addRoad_27 ?_
      refine zr_aald (pc := 28)  (by first | assumption | rfl | exact hB_row ⟨by omega, by omega⟩) ⟨by omega, by omega⟩ (by decide) (by exact oTb_at ⟨by omega, by omega⟩) dX0_addRoad_28 ?_
      refine zr_iload_n (pc := 29)  (i := 2) rfl rfl dX0_addRoad_29 ?_
      first | refine zr_dup2 (pc := 30)  rfl rfl dX0_addRoad_30 ?_ | refine zr_dup2L (pc := 30)  rfl dX0_addRoad_30 ?_
      refine zr_lald (pc := 31)  (by first | assumption | rfl | exact hB_row ⟨by omega, by omega⟩) ⟨by omega, by omega⟩ (by decide) dX0_addRoad_31 ?_
      refine zr_iload_n (pc := 32)  (i := 3) rfl rfl dX0_addRoad_32 ?_
      refine zr_i2l (pc := 33)  ⟨by omega, by omega⟩ dX0_addRoad_33 ?_
      refine zr_ladd (pc := 34)  dX0_addRoad_34 ?_
      refine zr_last (pc := 35)  (by first | assumption | rfl | exact hB_row ⟨by omega, by omega⟩) ⟨by omega, by omega⟩ (by decide) dX0_addRoad_35 ?_
      refine zr_heap (hB_set ⟨by omega, by omega⟩) ?_
      refine zr_iload_n (pc := 36)  (i := 1) rfl rfl dX0_addRoad_36 ?_
      refine zr_iconst (pc := 37)  dX0_addRoad_37 ?_
      refine zr_icmp_ge (pc := 38)  (tgt := 72) ⟨by omega, by omega⟩ ⟨by omega, by omega⟩ (by decide) dX0_addRoad_38 (fun q38 => ?_) (fun q38 => ?_)
      · refine zr_vreturn (pc := 72)  rfl (by decide) (by decide) dX0_addRoad_72 ?_
        exact k _ (fun c j c0 c4 j0 j8 => by (first | rw [upS, upS, upA, upA] | rw [upA] | skip); unfold arZ; (repeat' split) <;> omega)
      · refine zr_iload_n (pc := 41)  (i := 2) rfl rfl dX0_addRoad_41 ?_
        refine zr_iconst (pc := 42)  dX0_addRoad_42 ?_
        refine zr_icmp_ge (pc := 43)  (tgt := 72) ⟨by omega, by omega⟩ ⟨by omega, by omega⟩ (by decide) dX0_addRoad_43 (fun q43 => ?_) (fun q43 => ?_)
        · refine zr_vreturn (pc := 72)  rfl (by decide) (by decide) dX0_addRoad_72 ?_
          exact k _ (fun c j c0 c4 j0 j8 => by (first | rw [upS, upS, upA, upA] | rw [upA] | skip); unfold arZ; (repeat' split) <;> omega)
        · refine zr_aload_n (pc := 46)  (i := 0) rfl rfl dX0_addRoad_46 ?_
          refine zr_get (pc := 47)  fl_X0_11 (by first | assumption | rfl | exact hB_row ⟨by omega, by omega⟩) rfl dX0_addRoad_47 ?_
          refine zr_iload_n (pc := 50)  (i := 1) rfl rfl dX0_addRoad_50 ?_
          refine zr_aald (pc := 51)  (by first | assumption | rfl | exact hB_row ⟨by omega, by omega⟩) ⟨by omega, by omega⟩ (by decide) (by exact oTb_at ⟨by omega, by omega⟩) dX0_addRoad_51 ?_
          refine zr_iload_n (pc := 52)  (i := 2) rfl rfl dX0_addRoad_52 ?_
          first | refine zr_dup2 (pc := 53)  rfl rfl dX0_addRoad_53 ?_ | refine zr_dup2L (pc := 53)  rfl dX0_addRoad_53 ?_
          refine zr_lald (pc := 54)  (by first | assumption | rfl | exact hB_row ⟨by omega, by omega⟩) ⟨by omega, by omega⟩ (by decide) dX0_addRoad_54 ?_
          refine zr_iload_n (pc := 55)  (i := 3) rfl rfl dX0_addRoad_55 ?_
          refine zr_i2l (pc := 56)  ⟨by omega, by omega⟩ dX0_addRoad_56 ?_
          refine zr_lsub (pc := 57)  dX0_addRoad_57 ?_
          refine zr_last (pc := 58)  (by first | assumption | rfl | exact hB_row ⟨by omega, by omega⟩) ⟨by omega, by omega⟩ (by decide) dX0_addRoad_58 ?_
          refine zr_heap (hB_set ⟨by omega, by omega⟩) ?_
          refine zr_aload_n (pc := 59)  (i := 0) rfl rfl dX0_addRoad_59 ?_
          refine zr_get (pc := 60)  fl_X0_11 (by first | assumption | rfl | exact hB_row ⟨by omega, by omega⟩) rfl dX0_addRoad_60 ?_
          refine zr_iload_n (pc := 63)  (i := 2) rfl rfl dX0_addRoad_63 ?_
          refine zr_aald (pc := 64)  (by first | assumption | rfl | exact hB_row ⟨by omega, by omega⟩) ⟨by omega, by omega⟩ (by decide) (by exact oTb_at ⟨by omega, by omega⟩) dX0_addRoad_64 ?_
          refine zr_iload_n (pc := 65)  (i := 1) rfl rfl dX0_addRoad_65 ?_
          first | refine zr_dup2 (pc := 66)  rfl rfl dX0_addRoad_66 ?_ | refine zr_dup2L (pc := 66)  rfl dX0_addRoad_66 ?_
          refine zr_lald (pc := 67)  (by first | assumption | rfl | exact hB_row ⟨by omega, by omega⟩) ⟨by omega, by omega⟩ (by decide) dX0_addRoad_67 ?_
          refine zr_iload_n (pc := 68)  (i := 3) rfl rfl dX0_addRoad_68 ?_
          refine zr_i2l (pc := 69)  ⟨by omega, by omega⟩ dX0_addRoad_69 ?_
          refine zr_lsub (pc := 70)  dX0_addRoad_70 ?_
          refine zr_last (pc := 71)  (by first | assumption | rfl | exact hB_row ⟨by omega, by omega⟩) ⟨by omega, by omega⟩ (by decide) dX0_addRoad_71 ?_
          refine zr_heap (hB_set ⟨by omega, by omega⟩) ?_
          refine zr_vreturn (pc := 72)  rfl (by decide) (by decide) dX0_addRoad_72 ?_
          exact k _ (fun c j c0 c4 j0 j8 => by (first | rw [upS, upS, upA, upA] | rw [upA] | skip); unfold arZ; (repeat' split) <;> omega)
theorem k_X0_setExcess {G : zG} {n : Nat} {h : zH} {Post : Option Value → Nat → zH → Prop} {c e dv : Int} {T : Int → Int → Int} {ex pu : Int → Int} (hc : 0 ≤ c ∧ c < 4) (he : iR e) (k : Post none n (hB h dv T (uZ ex c e) pu)) : zMP G mX0_setExcess [.ref 29, vi c, vi e] n (hB h dv T ex pu) Post := by
  refine zMP_of (by decide) [some _, some _, some _] (Nat.le_of_ble_eq_true rfl) rfl ?_
  refine zr_aload_n (pc := 0)  (i := 0) rfl rfl dX0_setExcess_0 ?_
  refine zr_get (pc := 1)  fl_X0_16 (by first | assumption | rfl | exact hB_row ⟨by omega, by omega⟩) rfl dX0_setExcess_1 ?_
  refine zr_iload_n (pc := 4)  (i := 1) rfl rfl dX0_setExcess_4 ?_
  refine zr_iload_n (pc := 5)  (i := 2) rfl rfl dX0_setExcess_5 ?_
  refine zr_i2l (pc := 6)  ⟨by omega, by omega⟩ dX0_setExcess_6 ?_
  refine zr_last (pc := 7)  (by first | assumption | rfl | exact hB_row ⟨by omega, by omega⟩) ⟨by omega, by omega⟩ (by decide) dX0_setExcess_7 ?_
  refine zr_heap hB_35 ?_
  refine zr_vreturn (pc := 8)  rfl (by decide) (by decide) dX0_setExcess_8 ?_
  exact k
/-- one of Bareiss' steps -/
def toT (T : Int → Int → Int) (dv c : Int) : Int → Int → Int := fun r i => if r = c then T c i else (T c c * T r i - T r c * T c i).tdiv dv
def eqT (T T2 : Int → Int → Int) : Prop := ∀ c j : Int, 0 ≤ c → c < 4 → 0 ≤ j → j < 8 → T c j = T2 c j
theorem l_X0_turnOver2 {G : zG} {n : Nat} {h : zH} {Post : Option Value → Nat → zH → Prop} {c r dv : Int} {T : Int → Int → Int} {ex pu : Int → Int} (h30 : h 30 = some oTb) (hc : 0 ≤ c ∧ c < 4) (hr : 0 ≤ r ∧ r < 4) (hrc : r ≠ c) (hdv : lR dv ∧ dv ≠ 0) (hn : ∀ i, 0 ≤ i → i < 8 → lR (T c c * T r i - T r c * T c i)) (kk : ∀ (g : Int → Int) (x5 x6 x7 : Option Value), (∀ i, 0 ≤ i → i < 8 → g i = (T c c * T r i - T r c * T c i).tdiv dv) → zAW G mX0_turnOver zTT (zF G mX0_turnOver Post) 107 [some (.ref 29), some (vi c), some (vl (T c c)), none, some (vi r), x5, x6, x7] [] n (hB h dv (uT T r g) ex pu) 0 0) : ∀ (k : Nat) (m : Int) (g : Int → Int), 8 - m ≤ k → 0 ≤ m → m ≤ 8 → (∀ i, 0 ≤ i → i < m → g i = (T c c * T r i - T r c * T c i).tdiv dv) → (∀ i, m ≤ i → g i = T r i) → zAW G mX0_turnOver zTT (zF G mX0_turnOver Post) 54 [some (.ref 29), some (vi c), some (vl (T c c)), none, some (vi r), some (vl (T r c)), none, some (vi m)] [] n (hB h dv (uT T r g) ex pu) 0 0 := by
  intro k
  induction k with
  | zero =>
    intro m g hk h0 hm hg hg2
    obtain rfl : m = 8 := by omega
    refine zr_iload (pc := 54)  rfl dX0_turnOver_54 ?_
    refine zr_bipush (pc := 56)  (by decide) dX0_turnOver_56 ?_
    refine zr_icmp_ge (pc := 58)  (tgt := 107) ⟨by omega, by omega⟩ ⟨by omega, by omega⟩ (by decide) dX0_turnOver_58 (fun q58 => ?_) (fun q58 => ?_)
    · exact kk g _ _ _ hg
    · exact absurd q58 (by omega)
  | succ k ih =>
    intro m g hk h0 hm hg hg2
    refine zr_iload (pc := 54)  rfl dX0_turnOver_54 ?_
    refine zr_bipush (pc := 56)  (by decide) dX0_turnOver_56 ?_
    refine zr_icmp_ge (pc := 58)  (tgt := 107) ⟨by omega, by omega⟩ ⟨by omega, by omega⟩ (by decide) dX0_turnOver_58 (fun q58 => ?_) (fun q58 => ?_)
    · exact kk g _ _ _ (fun i a b => hg i a (by omega))
    · have hnm := hn m h0 (by omega)
      have e1 : uT T r g r m = T r m := by rw [uT_s]; exact hg2 m (by omega)
      have e2 : uT T r g c m = T c m := by rw [uT_n (fun q => hrc q.symm)]
      refine zr_aload_n (pc := 61)  (i := 0) rfl rfl dX0_turnOver_61 ?_
      refine zr_get (pc := 62)  fl_X0_11 (by first | assumption | rfl | exact hB_row ⟨by omega, by omega⟩) rfl dX0_turnOver_62 ?_
      refine zr_iload (pc := 65)  rfl dX0_turnOver_65 ?_
      refine zr_aald (pc := 67)  (by first | assumption | rfl | exact hB_row ⟨by omega, by omega⟩) ⟨by omega, by omega⟩ (by decide) (by exact oTb_at ⟨by omega, by omega⟩) dX0_turnOver_67 ?_
      refine zr_iload (pc := 68)  rfl dX0_turnOver_68 ?_
      refine zr_lload_n (pc := 70)  (i := 2) rfl rfl dX0_turnOver_70 ?_
      refine zr_aload_n (pc := 71)  (i := 0) rfl rfl dX0_turnOver_71 ?_
      refine zr_get (pc := 72)  fl_X0_11 (by first | assumption | rfl | exact hB_row ⟨by omega, by omega⟩) rfl dX0_turnOver_72 ?_
      refine zr_iload (pc := 75)  rfl dX0_turnOver_75 ?_
      refine zr_aald (pc := 77)  (by first | assumption | rfl | exact hB_row ⟨by omega, by omega⟩) ⟨by omega, by omega⟩ (by decide) (by exact oTb_at ⟨by omega, by omega⟩) dX0_turnOver_77 ?_
      refine zr_iload (pc := 78)  rfl dX0_turnOver_78 ?_
      refine zr_lald (pc := 80)  (by first | assumption | rfl | exact hB_row ⟨by omega, by omega⟩) ⟨by omega, by omega⟩ (by decide) dX0_turnOver_80 ?_
      refine zr_eql e1 ?_
      refine zr_lmul (pc := 81)  dX0_turnOver_81 ?_
      refine zr_lload (pc := 82)  rfl dX0_turnOver_82 ?_
      refine zr_aload_n (pc := 84)  (i := 0) rfl rfl dX0_turnOver_84 ?_
      refine zr_get (pc := 85)  fl_X0_11 (by first | assumption | rfl | exact hB_row ⟨by omega, by omega⟩) rfl dX0_turnOver_85 ?_
      refine zr_iload_n (pc := 88)  (i := 1) rfl rfl dX0_turnOver_88 ?_
      refine zr_aald (pc := 89)  (by first | assumption | rfl | exact hB_row ⟨by omega, by omega⟩) ⟨by omega, by omega⟩ (by decide) (by exact oTb_at ⟨by omega, by omega⟩) dX0_turnOver_89 ?_
      refine zr_iload (pc := 90)  rfl dX0_turnOver_90 ?_
      refine zr_lald (pc := 92)  (by first | assumption | rfl | exact hB_row ⟨by omega, by omega⟩) ⟨by omega, by omega⟩ (by decide) dX0_turnOver_92 ?_
      refine zr_eql e2 ?_
      refine zr_lmul (pc := 93)  dX0_turnOver_93 ?_
      refine zr_lsub (pc := 94)  dX0_turnOver_94 ?_
      refine zr_aload_n (pc := 95)  (i := 0) rfl rfl dX0_turnOver_95 ?_
      refine zr_get (pc := 96)  fl_X0_23 (by first | assumption | rfl | exact hB_row ⟨by omega, by omega⟩) rfl dX0_turnOver_96 ?_
      refine zr_ldiv (pc := 99) hnm hdv.1 hdv.2 dX0_turnOver_99 ?_
      refine zr_last (pc := 100)  (by first | assumption | rfl | exact hB_row ⟨by omega, by omega⟩) ⟨by omega, by omega⟩ (by decide) dX0_turnOver_100 ?_
      refine zr_heap ((hB_set ⟨by omega, by omega⟩).trans (show _ = hB h dv (uT T r (uZ g m ((T c c * T r m - T r c * T c m).tdiv dv))) ex pu from by rw [uT_s]; congr 1; funext q; unfold uT; split <;> rfl)) ?_
      refine zs_iinc_7 (pc := 101)  (by first | exact zn_i | exact zn_r | exact zn_0) (by decide) dX0_turnOver_101 ?_
      refine zr_goto (pc := 104)  (tgt := 54) (by decide) dX0_turnOver_104 ?_
      exact ih (m + 1) _ (by omega) (by omega) (by omega) (fun i a b => by by_cases e : i = m; (rw [e, uZ_s]); (rw [uZ_n e]; exact hg i a (by omega))) (fun i a => by rw [uZ_n (by omega)]; exact hg2 i (by omega))
theorem l_X0_turnOver1 {G : zG} {n : Nat} {h : zH} {Post : Option Value → Nat → zH → Prop} {c dv : Int} {T : Int → Int → Int} {ex pu : Int → Int} (h30 : h 30 = some oTb) (hc : 0 ≤ c ∧ c < 4) (hdv : lR dv ∧ dv ≠ 0) (hn : ∀ r i, 0 ≤ r → r < 4 → 0 ≤ i → i < 8 → lR (T c c * T r i - T r c * T c i)) (kk : ∀ T2 : Int → Int → Int, eqT T2 (toT T dv c) → Post none n (hB h (T c c) T2 ex pu)) : ∀ (k : Nat) (m : Int) (T2 : Int → Int → Int) (x5 x6 x7 : Option Value), 4 - m ≤ k → 0 ≤ m → m ≤ 4 → (∀ r i, 0 ≤ r → r < m → 0 ≤ i → i < 8 → T2 r i = toT T dv c r i) → (∀ r, m ≤ r → T2 r = T r) → T2 c = T c → zAW G mX0_turnOver zTT (zF G mX0_turnOver Post) 28 [some (.ref 29), some (vi c), some (vl (T c c)), none, some (vi m), x5, x6, x7] [] n (hB h dv T2 ex pu) 0 0 := by
  intro k
  induction k with
  | zero =>
    intro m T2 x5 x6 x7 hk h0 hm hT hT2 hTc
    obtain rfl : m = 4 := by omega
    refine zr_iload (pc := 28)  rfl dX0_turnOver_28 ?_
    refine zr_iconst (pc := 30)  dX0_turnOver_30 ?_
    refine zr_icmp_ge (pc := 31)  (tgt := 113) ⟨by omega, by omega⟩ ⟨by omega, by omega⟩ (by decide) dX0_turnOver_31 (fun q31 => ?_) (fun q31 => ?_)
    · refine zr_aload_n (pc := 113)  (i := 0) rfl rfl dX0_turnOver_113 ?_
      refine zr_lload_n (pc := 114)  (i := 2) rfl rfl dX0_turnOver_114 ?_
      refine zr_put (pc := 115)  (oBal _) (fp_X0_23 rfl) (by first | assumption | rfl | exact hB_row ⟨by omega, by omega⟩) (Nat.le_of_ble_eq_true rfl) rfl rfl rfl dX0_turnOver_115 ?_
      refine zr_heap hB_29 ?_
      refine zr_vreturn (pc := 118)  rfl (by decide) (by decide) dX0_turnOver_118 ?_
      exact kk _ (fun r i a b a2 b2 => hT r i a b a2 b2)
    · exact absurd q31 (by omega)
  | succ k ih =>
    intro m T2 x5 x6 x7 hk h0 hm hT hT2 hTc
    refine zr_iload (pc := 28)  rfl dX0_turnOver_28 ?_
    refine zr_iconst (pc := 30)  dX0_turnOver_30 ?_
    refine zr_icmp_ge (pc := 31)  (tgt := 113) ⟨by omega, by omega⟩ ⟨by omega, by omega⟩ (by decide) dX0_turnOver_31 (fun q31 => ?_) (fun q31 => ?_)
    · refine zr_aload_n (pc := 113)  (i := 0) rfl rfl dX0_turnOver_113 ?_
      refine zr_lload_n (pc := 114)  (i := 2) rfl rfl dX0_turnOver_114 ?_
      refine zr_put (pc := 115)  (oBal _) (fp_X0_23 rfl) (by first | assumption | rfl | exact hB_row ⟨by omega, by omega⟩) (Nat.le_of_ble_eq_true rfl) rfl rfl rfl dX0_turnOver_115 ?_
      refine zr_heap hB_29 ?_
      refine zr_vreturn (pc := 118)  rfl (by decide) (by decide) dX0_turnOver_118 ?_
      exact kk _ (fun r i a b a2 b2 => hT r i a (by omega) a2 b2)
    · refine zr_iload (pc := 34)  rfl dX0_turnOver_34 ?_
      refine zr_iload_n (pc := 36)  (i := 1) rfl rfl dX0_turnOver_36 ?_
      refine zr_icmp_eq (pc := 37)  (tgt := 107) ⟨by omega, by omega⟩ ⟨by omega, by omega⟩ (by decide) dX0_turnOver_37 (fun q37 => ?_) (fun q37 => ?_)
      · refine zs_iinc_4 (pc := 107)  (by first | exact zn_i | exact zn_r | exact zn_0) (by decide) dX0_turnOver_107 ?_
        refine zr_goto (pc := 110)  (tgt := 28) (by decide) dX0_turnOver_110 ?_
        exact ih (m + 1) T2 _ _ _ (by omega) (by omega) (by omega) (fun r i a b a2 b2 => by rcases Int.lt_or_le r m with q | q; exact hT r i a q a2 b2; (obtain rfl : r = m := by omega); unfold toT; rw [if_pos q37, q37, hTc]) (fun r a => hT2 r (by omega)) hTc
      · have em := hT2 m (by omega)
        refine zr_aload_n (pc := 40)  (i := 0) rfl rfl dX0_turnOver_40 ?_
        refine zr_get (pc := 41)  fl_X0_11 (by first | assumption | rfl | exact hB_row ⟨by omega, by omega⟩) rfl dX0_turnOver_41 ?_
        refine zr_iload (pc := 44)  rfl dX0_turnOver_44 ?_
        refine zr_aald (pc := 46)  (by first | assumption | rfl | exact hB_row ⟨by omega, by omega⟩) ⟨by omega, by omega⟩ (by decide) (by exact oTb_at ⟨by omega, by omega⟩) dX0_turnOver_46 ?_
        refine zr_iload_n (pc := 47)  (i := 1) rfl rfl dX0_turnOver_47 ?_
        refine zr_lald (pc := 48)  (by first | assumption | rfl | exact hB_row ⟨by omega, by omega⟩) ⟨by omega, by omega⟩ (by decide) dX0_turnOver_48 ?_
        refine zr_eql (show T2 m c = T m c from by rw [em]) ?_
        refine zs_lstore_5 (pc := 49)  (by first | exact zn_i | exact zn_r | exact zn_0) (by decide) dX0_turnOver_49 ?_
        refine zr_iconst (pc := 51)  dX0_turnOver_51 ?_
        refine zs_istore_7 (pc := 52)  (by first | exact zn_i | exact zn_r | exact zn_0) (by decide) dX0_turnOver_52 ?_
        refine zr_heap (show hB h dv T2 ex pu = hB h dv (uT T2 m (T m)) ex pu from by congr 1; funext q; unfold uT; split; (rename_i e; rw [e, em]); rfl) ?_
        have e1 : T2 c c = T c c := by rw [hTc]
        have e2 : ∀ i, T2 m i = T m i := fun i => by rw [em]
        have e3 : ∀ i, T2 c i = T c i := fun i => by rw [hTc]
        have L := l_X0_turnOver2 (G := G) (n := n) (h := h) (Post := Post) (c := c) (r := m) (dv := dv) (T := T2) (ex := ex) (pu := pu) h30 hc (by omega) q37 hdv (fun i a b => by rw [e1, e2, e2, e3]; exact hn m i (by omega) (by omega) a b) (fun g x5 x6 x7 hg => ?_) 8 0 (T m) (by omega) (by omega) (by omega) (fun i a b => by omega) (fun i _ => (e2 i).symm)
        · rw [e1, e2] at L
          exact L
        · rw [e1]
          refine zs_iinc_4 (pc := 107)  (by first | exact zn_i | exact zn_r | exact zn_0) (by decide) dX0_turnOver_107 ?_
          refine zr_goto (pc := 110)  (tgt := 28) (by decide) dX0_turnOver_110 ?_
          refine ih (m + 1) _ _ _ _ (by omega) (by omega) (by omega) (fun r i a b a2 b2 => ?_) (fun r a => ?_) ?_
          · by_cases e : r = m
            · rw [e, uT_s, hg i a2 b2, e1, e2, e2, e3]; unfold toT; rw [if_neg q37]
            · rw [uT_n e]; exact hT r i a (by omega) a2 b2
          · rw [uT_n (by omega)]; exact hT2 r (by omega)
          · rw [uT_n (fun q => q37 q.symm)]; exact hTc
theorem k_X0_turnOver {G : zG} {n : Nat} {h : zH} {Post : Option Value → Nat → zH → Prop} {c dv : Int} {T : Int → Int → Int} {ex pu : Int → Int} (h30 : h 30 = some oTb) (hc : 0 ≤ c ∧ c < 4) (hl : lR (T c c)) (hdv : 0 < T c c → lR dv ∧ 0 < dv) (hn : 0 < T c c → ∀ r i, 0 ≤ r → r < 4 → 0 ≤ i → i < 8 → lR (T c c * T r i - T r c * T c i)) (k : 0 < T c c → ∀ T2 : Int → Int → Int, eqT T2 (toT T dv c) → Post none n (hB h (T c c) T2 ex pu)) (k2 : ¬ 0 < T c c → Post none n (hB h dv T ex pu)) : zMP G mX0_turnOver [.ref 29, vi c] n (hB h dv T ex pu) Post := by
  refine zMP_of (by decide) [some _, some _, none, none, none, none, none, none] (Nat.le_of_ble_eq_true rfl) rfl ?_
  refine zr_aload_n (pc := 0)  (i := 0) rfl rfl dX0_turnOver_0 ?_
  refine zr_get (pc := 1)  fl_X0_11 (by first | assumption | rfl | exact hB_row ⟨by omega, by omega⟩) rfl dX0_turnOver_1 ?_
  refine zr_iload_n (pc := 4)  (i := 1) rfl rfl dX0_turnOver_4 ?_
  refine zr_aald (pc := 5)  (by first | assumption | rfl | exact hB_row ⟨by omega, by omega⟩) ⟨by omega, by omega⟩ (by decide) (by exact oTb_at ⟨by omega, by omega⟩) dX0_turnOver_5 ?_
  refine zr_iload_n (pc := 6)  (i := 1) rfl rfl dX0_turnOver_6 ?_
  refine zr_lald (pc := 7)  (by first | assumption | rfl | exact hB_row ⟨by omega, by omega⟩) ⟨by omega, by omega⟩ (by decide) dX0_turnOver_7 ?_
  refine zs_lstore_n_2 (pc := 8)  (by first | exact zn_i | exact zn_r | exact zn_0) (by decide) dX0_turnOver_8 ?_
  have hl1 := hl.1
  have hl2 := hl.2
  refine zr_lload_n (pc := 9)  (i := 2) rfl rfl dX0_turnOver_9 ?_
  refine zr_lconst (pc := 10)  (z := 0) (by decide) dX0_turnOver_10 ?_
  refine zr_lcmp_le (pc := 11)  (tgt := 24) ⟨by omega, by omega⟩ ⟨by omega, by omega⟩ (by decide) dX0_turnOver_11 dX0_turnOver_12 (fun q12 => ?_) (fun q12 => ?_)
  · refine zr_vreturn (pc := 24)  rfl (by decide) (by decide) dX0_turnOver_24 ?_
    first | exact k2 (by omega) | exact absurd hd3 (by omega)
  · have hd := hdv (by omega)
    have hd1 := hd.1.1
    have hd2 := hd.1.2
    have hd3 := hd.2
    refine zr_aload_n (pc := 15)  (i := 0) rfl rfl dX0_turnOver_15 ?_
    refine zr_get (pc := 16)  fl_X0_23 (by first | assumption | rfl | exact hB_row ⟨by omega, by omega⟩) rfl dX0_turnOver_16 ?_
    refine zr_lconst (pc := 19)  (z := 0) (by decide) dX0_turnOver_19 ?_
    refine zr_lcmp_gt (pc := 20)  (tgt := 25) ⟨by omega, by omega⟩ ⟨by omega, by omega⟩ (by decide) dX0_turnOver_20 dX0_turnOver_21 (fun q21 => ?_) (fun q21 => ?_)
    · refine zr_iconst (pc := 25)  dX0_turnOver_25 ?_
      refine zs_istore_4 (pc := 26)  (by first | exact zn_i | exact zn_r | exact zn_0) (by decide) dX0_turnOver_26 ?_
      exact l_X0_turnOver1 h30 hc ⟨hd.1, by omega⟩ (hn (by omega)) (k (by omega)) 4 0 T _ _ _ (by omega) (by omega) (by omega) (fun r i a b => by omega) (fun r _ => rfl) rfl
    · refine zr_vreturn (pc := 24)  rfl (by decide) (by decide) dX0_turnOver_24 ?_
      first | exact k2 (by omega) | exact absurd hd3 (by omega)
theorem l_X0_pullAt {G : zG} {n : Nat} {h : zH} {Post : Option Value → Nat → zH → Prop} {c dv : Int} {T : Int → Int → Int} {ex pu : Int → Int} (h30 : h 30 = some oTb) (hc : 0 ≤ c ∧ c < 4) (kk : Post (some (vl (sumZ (fun i => T c (4 + i) * ex i) 4))) n (hB h dv T ex pu)) : ∀ (k m : Nat), 4 - m ≤ k → m ≤ 4 → zAW G mX0_pullAt zTT (zF G mX0_pullAt Post) 5 [some (.ref 29), some (vi c), some (vl (sumZ (fun i => T c (4 + i) * ex i) m)), none, some (vi m)] [] n (hB h dv T ex pu) 0 0 := by
  intro k
  induction k with
  | zero =>
    intro m hk hm
    obtain rfl : m = 4 := by omega
    refine zr_iload (pc := 5)  rfl dX0_pullAt_5 ?_
    refine zr_iconst (pc := 7)  dX0_pullAt_7 ?_
    refine zr_icmp_ge (pc := 8)  (tgt := 39) ⟨by omega, by omega⟩ ⟨by omega, by omega⟩ (by decide) dX0_pullAt_8 (fun q8 => ?_) (fun q8 => ?_)
    · refine zr_lload_n (pc := 39)  (i := 2) rfl rfl dX0_pullAt_39 ?_
      refine zr_lreturn (pc := 40)  rfl (by decide) (by decide) dX0_pullAt_40 ?_
      exact kk
    · exact absurd q8 (by omega)
  | succ k ih =>
    intro m hk hm
    refine zr_iload (pc := 5)  rfl dX0_pullAt_5 ?_
    refine zr_iconst (pc := 7)  dX0_pullAt_7 ?_
    refine zr_icmp_ge (pc := 8)  (tgt := 39) ⟨by omega, by omega⟩ ⟨by omega, by omega⟩ (by decide) dX0_pullAt_8 (fun q8 => ?_) (fun q8 => ?_)
    · refine zr_lload_n (pc := 39)  (i := 2) rfl rfl dX0_pullAt_39 ?_
      refine zr_lreturn (pc := 40)  rfl (by decide) (by decide) dX0_pullAt_40 ?_
      obtain rfl : m = 4 := by omega
      exact kk
    · refine zr_lload_n (pc := 11)  (i := 2) rfl rfl dX0_pullAt_11 ?_
      refine zr_aload_n (pc := 12)  (i := 0) rfl rfl dX0_pullAt_12 ?_
      refine zr_get (pc := 13)  fl_X0_11 (by first | assumption | rfl | exact hB_row ⟨by omega, by omega⟩) rfl dX0_pullAt_13 ?_
      refine zr_iload_n (pc := 16)  (i := 1) rfl rfl dX0_pullAt_16 ?_
      refine zr_aald (pc := 17)  (by first | assumption | rfl | exact hB_row ⟨by omega, by omega⟩) ⟨by omega, by omega⟩ (by decide) (by exact oTb_at ⟨by omega, by omega⟩) dX0_pullAt_17 ?_
      refine zr_iconst (pc := 18)  dX0_pullAt_18 ?_
      refine zr_iload (pc := 19)  rfl dX0_pullAt_19 ?_
      refine zr_iadd (pc := 21)  dX0_pullAt_21 ?_
      refine zr_lald (pc := 22)  (by first | assumption | rfl | exact hB_row ⟨by omega, by omega⟩) ⟨by omega, by omega⟩ (by decide) dX0_pullAt_22 ?_
      refine zr_aload_n (pc := 23)  (i := 0) rfl rfl dX0_pullAt_23 ?_
      refine zr_get (pc := 24)  fl_X0_16 (by first | assumption | rfl | exact hB_row ⟨by omega, by omega⟩) rfl dX0_pullAt_24 ?_
      refine zr_iload (pc := 27)  rfl dX0_pullAt_27 ?_
      refine zr_lald (pc := 29)  (by first | assumption | rfl | exact hB_row ⟨by omega, by omega⟩) ⟨by omega, by omega⟩ (by decide) dX0_pullAt_29 ?_
      refine zr_lmul (pc := 30)  dX0_pullAt_30 ?_
      refine zr_ladd (pc := 31)  dX0_pullAt_31 ?_
      refine zs_lstore_n_2 (pc := 32)  (by first | exact zn_i | exact zn_r | exact zn_0) (by decide) dX0_pullAt_32 ?_
      refine zs_iinc_4 (pc := 33)  (by first | exact zn_i | exact zn_r | exact zn_0) (by decide) dX0_pullAt_33 ?_
      refine zr_goto (pc := 36)  (tgt := 5) (by decide) dX0_pullAt_36 ?_
      exact ih (m + 1) (by omega) (by omega)
theorem k_X0_pullAt {G : zG} {n : Nat} {h : zH} {Post : Option Value → Nat → zH → Prop} {c dv : Int} {T : Int → Int → Int} {ex pu : Int → Int} (h30 : h 30 = some oTb) (hc : 0 ≤ c ∧ c < 4) (k : Post (some (vl (sumZ (fun i => T c (4 + i) * ex i) 4))) n (hB h dv T ex pu)) : zMP G mX0_pullAt [.ref 29, vi c] n (hB h dv T ex pu) Post := by
  refine zMP_of (by decide) [some _, some _, none, none, none] (Nat.le_of_ble_eq_true rfl) rfl ?_
  refine zr_lconst (pc := 0)  (z := 0) (by decide) dX0_pullAt_0 ?_
  refine zs_lstore_n_2 (pc := 1)  (by first | exact zn_i | exact zn_r | exact zn_0) (by decide) dX0_pullAt_1 ?_
  refine zr_iconst (pc := 2)  dX0_pullAt_2 ?_
  refine zs_istore_4 (pc := 3)  (by first | exact zn_i | exact zn_r | exact zn_0) (by decide) dX0_pullAt_3 ?_
  exact l_X0_pullAt h30 hc k 4 0 (by omega) (by omega)
theorem k_X0_putAgreed {G : zG} {n : Nat} {h : zH} {Post : Option Value → Nat → zH → Prop} {a b f d dv u l : Int} {T : Int → Int → Int} {ex pu : Int → Int} (h37 : h 37 = some (oFrac u l)) (ha : 0 ≤ a ∧ a < 8) (hb : 0 ≤ b ∧ b < 8) (hf : iR f) (hd : iR d) (hdv : 0 < dv ∧ dv < 9223372036854775808) (ht : -9223372036854775808 < f * dv - d * (pu b - pu a) ∧ f * dv - d * (pu b - pu a) < 9223372036854775808) (k : Post none n (hB (zup h 37 (oFrac (rdU (f * dv - d * (pu b - pu a)) dv) (rdL (f * dv - d * (pu b - pu a)) dv))) dv T ex pu)) : zMP G mX0_putAgreed [.ref 29, vi a, vi b, vi f, vi d, .ref 37] n (hB h dv T ex pu) Post := by
  refine zMP_of (by decide) [some _, some _, some _, some _, some _, some _] (Nat.le_of_ble_eq_true rfl) rfl ?_
  refine zr_aload (pc := 0)  rfl dX0_putAgreed_0 ?_
  refine zr_iload_n (pc := 2)  (i := 3) rfl rfl dX0_putAgreed_2 ?_
  refine zr_i2l (pc := 3)  ⟨by omega, by omega⟩ dX0_putAgreed_3 ?_
  refine zr_aload_n (pc := 4)  (i := 0) rfl rfl dX0_putAgreed_4 ?_
  refine zr_get (pc := 5)  fl_X0_23 (by first | assumption | rfl | exact hB_row ⟨by omega, by omega⟩) rfl dX0_putAgreed_5 ?_
  refine zr_lmul (pc := 8)  dX0_putAgreed_8 ?_
  refine zr_iload (pc := 9)  rfl dX0_putAgreed_9 ?_
  refine zr_i2l (pc := 11)  ⟨by omega, by omega⟩ dX0_putAgreed_11 ?_
  refine zr_aload_n (pc := 12)  (i := 0) rfl rfl dX0_putAgreed_12 ?_
  refine zr_get (pc := 13)  fl_X0_20 (by first | assumption | rfl | exact hB_row ⟨by omega, by omega⟩) rfl dX0_putAgreed_13 ?_
  refine zr_iload_n (pc := 16)  (i := 2) rfl rfl dX0_putAgreed_16 ?_
  refine zr_lald (pc := 17)  (by first | assumption | rfl | exact hB_row ⟨by omega, by omega⟩) ⟨by omega, by omega⟩ (by decide) dX0_putAgreed_17 ?_
  refine zr_aload_n (pc := 18)  (i := 0) rfl rfl dX0_putAgreed_18 ?_
  refine zr_get (pc := 19)  fl_X0_20 (by first | assumption | rfl | exact hB_row ⟨by omega, by omega⟩) rfl dX0_putAgreed_19 ?_
  refine zr_iload_n (pc := 22)  (i := 1) rfl rfl dX0_putAgreed_22 ?_
  refine zr_lald (pc := 23)  (by first | assumption | rfl | exact hB_row ⟨by omega, by omega⟩) ⟨by omega, by omega⟩ (by decide) dX0_putAgreed_23 ?_
  refine zr_lsub (pc := 24)  dX0_putAgreed_24 ?_
  refine zr_lmul (pc := 25)  dX0_putAgreed_25 ?_
  refine zr_lsub (pc := 26)  dX0_putAgreed_26 ?_
  refine zr_aload_n (pc := 27)  (i := 0) rfl rfl dX0_putAgreed_27 ?_
  refine zr_get (pc := 28)  fl_X0_23 (by first | assumption | rfl | exact hB_row ⟨by omega, by omega⟩) rfl dX0_putAgreed_28 ?_
  refine zv_call2 (pc := 31)  cv_X0_putAgreed_41 (by first | assumption | rfl | exact hB_row ⟨by omega, by omega⟩) ⟨_, rfl, rfl⟩ (Nat.le_of_ble_eq_true rfl) (by decide) dX0_putAgreed_31 ?_
  refine k_X2_put (by assumption) ht hdv ?_
  rw [hB_out (by decide)]
  dsimp only [Option.toList, List.cons_append, List.nil_append]
  refine zr_vreturn (pc := 34)  rfl (by decide) (by decide) dX0_putAgreed_34 ?_
  exact k
