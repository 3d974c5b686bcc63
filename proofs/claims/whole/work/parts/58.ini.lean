/-! the constructors -/
def z0 : Int → Int := fun _ => 0
section INI
variable {G : zG} {h : zH} {Post : Option Value → Nat → zH → Prop}
theorem k_X5_init (h1 : h 1 = some (.inr (5, [.null, .int (iZ 0)]))) (k : ∀ h', h' 1 = some (oTape 0) → h' 2 = some (aI 200 z0) → (∀ j, j ≠ 1 → j ≠ 2 → h' j = h j) → Post none 3 h') : zMP G mX5_init [.ref 1] 2 h Post := by
  refine zMP_of (by decide) [some _] (Nat.le_of_ble_eq_true rfl) rfl ?_
  refine zr_aload_n (pc := 0)  (i := 0) rfl rfl dX5_init_0 ?_
  refine zr_objInit (pc := 1)  ci_X5_init_3 oi_i oi_c (by decide) (Nat.le_of_ble_eq_true rfl) dX5_init_1 ?_
  refine zr_aload_n (pc := 4)  (i := 0) rfl rfl dX5_init_4 ?_
  refine zr_sipush (pc := 5)  (by decide) dX5_init_5 ?_
  refine zr_newI (pc := 8)  rfl (by decide) ka_int (by decide) (by decide) dX5_init_8 ?_
  refine zr_put (pc := 10)  _ (fp_X5_9 rfl rfl) (by first | assumption | rfl | (repeat (first | assumption | exact zup_s | refine zup_g (by decide) ?_))) (Nat.le_of_ble_eq_true rfl) rfl rfl rfl dX5_init_10 ?_
  refine zr_aload_n (pc := 13)  (i := 0) rfl rfl dX5_init_13 ?_
  refine zr_iconst (pc := 14)  dX5_init_14 ?_
  refine zr_put (pc := 15)  _ (fp_X5_15 rfl) (by first | assumption | rfl | (repeat (first | assumption | exact zup_s | refine zup_g (by decide) ?_))) (Nat.le_of_ble_eq_true rfl) rfl rfl rfl dX5_init_15 ?_
  refine zr_vreturn (pc := 18)  rfl (by decide) (by decide) dX5_init_18 ?_
  exact k _ rfl rfl (fun j a b => by (repeat rw [zup_n (by omega)]))
theorem k_X3_init (h1 : h 3 = some (.inr (3, [.null, .null, .null, .null, .int (iZ 0)]))) (k : ∀ h', h' 3 = some (oRoads 0) → h' 4 = some (aZ 16 z0) → h' 5 = some (aI 16 z0) → h' 6 = some (aI 16 z0) → h' 7 = some (aI 16 z0) → (∀ j, j < 3 ∨ 7 < j → h' j = h j) → Post none 8 h') : zMP G mX3_init [.ref 3] 4 h Post := by
  refine zMP_of (by decide) [some _] (Nat.le_of_ble_eq_true rfl) rfl ?_
  refine zr_aload_n (pc := 0)  (i := 0) rfl rfl dX3_init_0 ?_
  refine zr_objInit (pc := 1)  ci_X3_init_3 oi_i oi_c (by decide) (Nat.le_of_ble_eq_true rfl) dX3_init_1 ?_
  refine zr_aload_n (pc := 4)  (i := 0) rfl rfl dX3_init_4 ?_
  refine zr_bipush (pc := 5)  (by decide) dX3_init_5 ?_
  refine zr_newZ (pc := 7)  rfl (by decide) ka_boolean (by decide) (by decide) dX3_init_7 ?_
  refine zr_put (pc := 9)  _ (fp_X3_9 rfl rfl) (by first | assumption | rfl | (repeat (first | assumption | exact zup_s | refine zup_g (by decide) ?_))) (Nat.le_of_ble_eq_true rfl) rfl rfl rfl dX3_init_9 ?_
  refine zr_aload_n (pc := 12)  (i := 0) rfl rfl dX3_init_12 ?_
  refine zr_bipush (pc := 13)  (by decide) dX3_init_13 ?_
  refine zr_newI (pc := 15)  rfl (by decide) ka_int (by decide) (by decide) dX3_init_15 ?_
  refine zr_put (pc := 17)  _ (fp_X3_15 rfl rfl) (by first | assumption | rfl | (repeat (first | assumption | exact zup_s | refine zup_g (by decide) ?_))) (Nat.le_of_ble_eq_true rfl) rfl rfl rfl dX3_init_17 ?_
  refine zr_aload_n (pc := 20)  (i := 0) rfl rfl dX3_init_20 ?_
  refine zr_bipush (pc := 21)  (by decide) dX3_init_21 ?_
  refine zr_newI (pc := 23)  rfl (by decide) ka_int (by decide) (by decide) dX3_init_23 ?_
  refine zr_put (pc := 25)  _ (fp_X3_19 rfl rfl) (by first | assumption | rfl | (repeat (first | assumption | exact zup_s | refine zup_g (by decide) ?_))) (Nat.le_of_ble_eq_true rfl) rfl rfl rfl dX3_init_25 ?_
  refine zr_aload_n (pc := 28)  (i := 0) rfl rfl dX3_init_28 ?_
  refine zr_bipush (pc := 29)  (by decide) dX3_init_29 ?_
  refine zr_newI (pc := 31)  rfl (by decide) ka_int (by decide) (by decide) dX3_init_31 ?_
  refine zr_put (pc := 33)  _ (fp_X3_22 rfl rfl) (by first | assumption | rfl | (repeat (first | assumption | exact zup_s | refine zup_g (by decide) ?_))) (Nat.le_of_ble_eq_true rfl) rfl rfl rfl dX3_init_33 ?_
  refine zr_aload_n (pc := 36)  (i := 0) rfl rfl dX3_init_36 ?_
  refine zr_iconst (pc := 37)  dX3_init_37 ?_
  refine zr_put (pc := 38)  _ (fp_X3_25 rfl) (by first | assumption | rfl | (repeat (first | assumption | exact zup_s | refine zup_g (by decide) ?_))) (Nat.le_of_ble_eq_true rfl) rfl rfl rfl dX3_init_38 ?_
  refine zr_vreturn (pc := 41)  rfl (by decide) (by decide) dX3_init_41 ?_
  exact k _ rfl rfl rfl rfl rfl (fun j a => by (repeat rw [zup_n (by omega)]))
theorem k_X1_init (h1 : h 8 = some (.inr (1, [.null, .null, .null, .null, .null, .null, .int (iZ 0)]))) (k : ∀ h', h' 8 = some (oBooks 0) → h' 9 = some (aI 600 z0) → h' 10 = some (aI 600 z0) → h' 11 = some (aI 1800 z0) → h' 12 = some (aI 600 z0) → h' 13 = some (aI 1344 (clZ z0 0 1344 (-1))) → h' 14 = some (aZ 1344 z0) → (∀ j, j < 8 ∨ 14 < j → h' j = h j) → Post none 15 h') : zMP G mX1_init [.ref 8] 9 h Post := by
  refine zMP_of (by decide) [some _] (Nat.le_of_ble_eq_true rfl) rfl ?_
  refine zr_aload_n (pc := 0)  (i := 0) rfl rfl dX1_init_0 ?_
  refine zr_objInit (pc := 1)  ci_X1_init_3 oi_i oi_c (by decide) (Nat.le_of_ble_eq_true rfl) dX1_init_1 ?_
  refine zr_aload_n (pc := 4)  (i := 0) rfl rfl dX1_init_4 ?_
  refine zr_sipush (pc := 5)  (by decide) dX1_init_5 ?_
  refine zr_newI (pc := 8)  rfl (by decide) ka_int (by decide) (by decide) dX1_init_8 ?_
  refine zr_put (pc := 10)  _ (fp_X1_9 rfl rfl) (by first | assumption | rfl | (repeat (first | assumption | exact zup_s | refine zup_g (by decide) ?_))) (Nat.le_of_ble_eq_true rfl) rfl rfl rfl dX1_init_10 ?_
  refine zr_aload_n (pc := 13)  (i := 0) rfl rfl dX1_init_13 ?_
  refine zr_sipush (pc := 14)  (by decide) dX1_init_14 ?_
  refine zr_newI (pc := 17)  rfl (by decide) ka_int (by decide) (by decide) dX1_init_17 ?_
  refine zr_put (pc := 19)  _ (fp_X1_15 rfl rfl) (by first | assumption | rfl | (repeat (first | assumption | exact zup_s | refine zup_g (by decide) ?_))) (Nat.le_of_ble_eq_true rfl) rfl rfl rfl dX1_init_19 ?_
  refine zr_aload_n (pc := 22)  (i := 0) rfl rfl dX1_init_22 ?_
  refine zr_sipush (pc := 23)  (by decide) dX1_init_23 ?_
  refine zr_newI (pc := 26)  rfl (by decide) ka_int (by decide) (by decide) dX1_init_26 ?_
  refine zr_put (pc := 28)  _ (fp_X1_18 rfl rfl) (by first | assumption | rfl | (repeat (first | assumption | exact zup_s | refine zup_g (by decide) ?_))) (Nat.le_of_ble_eq_true rfl) rfl rfl rfl dX1_init_28 ?_
  refine zr_aload_n (pc := 31)  (i := 0) rfl rfl dX1_init_31 ?_
  refine zr_sipush (pc := 32)  (by decide) dX1_init_32 ?_
  refine zr_newI (pc := 35)  rfl (by decide) ka_int (by decide) (by decide) dX1_init_35 ?_
  refine zr_put (pc := 37)  _ (fp_X1_21 rfl rfl) (by first | assumption | rfl | (repeat (first | assumption | exact zup_s | refine zup_g (by decide) ?_))) (Nat.le_of_ble_eq_true rfl) rfl rfl rfl dX1_init_37 ?_
  refine zr_aload_n (pc := 40)  (i := 0) rfl rfl dX1_init_40 ?_
  refine zr_sipush (pc := 41)  (by decide) dX1_init_41 ?_
  refine zr_newI (pc := 44)  rfl (by decide) ka_int (by decide) (by decide) dX1_init_44 ?_
  refine zr_put (pc := 46)  _ (fp_X1_24 rfl rfl) (by first | assumption | rfl | (repeat (first | assumption | exact zup_s | refine zup_g (by decide) ?_))) (Nat.le_of_ble_eq_true rfl) rfl rfl rfl dX1_init_46 ?_
  refine zr_aload_n (pc := 49)  (i := 0) rfl rfl dX1_init_49 ?_
  refine zr_get (pc := 50)  fl_X1_24 (by first | assumption | rfl | (repeat (first | assumption | exact zup_s | refine zup_g (by decide) ?_))) rfl dX1_init_50 ?_
  refine zr_iconst (pc := 53)  dX1_init_53 ?_
  refine zc_call2 (pc := 54)  cs_X1_init_27 (Nat.le_of_ble_eq_true rfl) (by decide) dX1_init_54 ?_
  refine k_J7_fill_53178 (g := z0) (len := 1344) rfl (by decide) ?_
  dsimp only [Option.toList, List.cons_append, List.nil_append]
  refine zr_aload_n (pc := 57)  (i := 0) rfl rfl dX1_init_57 ?_
  refine zr_sipush (pc := 58)  (by decide) dX1_init_58 ?_
  refine zr_newZ (pc := 61)  rfl (by decide) ka_boolean (by decide) (by decide) dX1_init_61 ?_
  refine zr_put (pc := 63)  _ (fp_X1_33 rfl rfl) (by first | assumption | rfl | (repeat (first | assumption | exact zup_s | refine zup_g (by decide) ?_))) (Nat.le_of_ble_eq_true rfl) rfl rfl rfl dX1_init_63 ?_
  refine zr_aload_n (pc := 66)  (i := 0) rfl rfl dX1_init_66 ?_
  refine zr_iconst (pc := 67)  dX1_init_67 ?_
  refine zr_put (pc := 68)  _ (fp_X1_37 rfl) (by first | assumption | rfl | (repeat (first | assumption | exact zup_s | refine zup_g (by decide) ?_))) (Nat.le_of_ble_eq_true rfl) rfl rfl rfl dX1_init_68 ?_
  refine zr_vreturn (pc := 71)  rfl (by decide) (by decide) dX1_init_71 ?_
  exact k _ rfl rfl rfl rfl rfl rfl rfl (fun j a => by (repeat rw [zup_n (by omega)]))
theorem k_X4_init (h1 : h 16 = some (.inr (4, [.null, .null, .null, .null]))) (k : ∀ h', h' 16 = some oTal → h' 17 = some (aI 35 z0) → h' 18 = some (aI 60 z0) → h' 19 = some (aI 5 z0) → h' 20 = some (aI 5 z0) → (∀ j, j < 16 ∨ 20 < j → h' j = h j) → Post none 21 h') : zMP G mX4_init [.ref 16] 17 h Post := by
  refine zMP_of (by decide) [some _] (Nat.le_of_ble_eq_true rfl) rfl ?_
  refine zr_aload_n (pc := 0)  (i := 0) rfl rfl dX4_init_0 ?_
  refine zr_objInit (pc := 1)  ci_X4_init_3 oi_i oi_c (by decide) (Nat.le_of_ble_eq_true rfl) dX4_init_1 ?_
  refine zr_aload_n (pc := 4)  (i := 0) rfl rfl dX4_init_4 ?_
  refine zr_bipush (pc := 5)  (by decide) dX4_init_5 ?_
  refine zr_newI (pc := 7)  rfl (by decide) ka_int (by decide) (by decide) dX4_init_7 ?_
  refine zr_put (pc := 9)  _ (fp_X4_9 rfl rfl) (by first | assumption | rfl | (repeat (first | assumption | exact zup_s | refine zup_g (by decide) ?_))) (Nat.le_of_ble_eq_true rfl) rfl rfl rfl dX4_init_9 ?_
  refine zr_aload_n (pc := 12)  (i := 0) rfl rfl dX4_init_12 ?_
  refine zr_bipush (pc := 13)  (by decide) dX4_init_13 ?_
  refine zr_newI (pc := 15)  rfl (by decide) ka_int (by decide) (by decide) dX4_init_15 ?_
  refine zr_put (pc := 17)  _ (fp_X4_15 rfl rfl) (by first | assumption | rfl | (repeat (first | assumption | exact zup_s | refine zup_g (by decide) ?_))) (Nat.le_of_ble_eq_true rfl) rfl rfl rfl dX4_init_17 ?_
  refine zr_aload_n (pc := 20)  (i := 0) rfl rfl dX4_init_20 ?_
  refine zr_iconst (pc := 21)  dX4_init_21 ?_
  refine zr_newI (pc := 22)  rfl (by decide) ka_int (by decide) (by decide) dX4_init_22 ?_
  refine zr_put (pc := 24)  _ (fp_X4_18 rfl rfl) (by first | assumption | rfl | (repeat (first | assumption | exact zup_s | refine zup_g (by decide) ?_))) (Nat.le_of_ble_eq_true rfl) rfl rfl rfl dX4_init_24 ?_
  refine zr_aload_n (pc := 27)  (i := 0) rfl rfl dX4_init_27 ?_
  refine zr_iconst (pc := 28)  dX4_init_28 ?_
  refine zr_newI (pc := 29)  rfl (by decide) ka_int (by decide) (by decide) dX4_init_29 ?_
  refine zr_put (pc := 31)  _ (fp_X4_21 rfl rfl) (by first | assumption | rfl | (repeat (first | assumption | exact zup_s | refine zup_g (by decide) ?_))) (Nat.le_of_ble_eq_true rfl) rfl rfl rfl dX4_init_31 ?_
  refine zr_vreturn (pc := 34)  rfl (by decide) (by decide) dX4_init_34 ?_
  exact k _ rfl rfl rfl rfl rfl (fun j a => by (repeat rw [zup_n (by omega)]))
theorem k_X2_init {a n : Nat} (h1 : h a = some (.inr (2, [.long (lZ 0), .long (lZ 0)]))) (k : ∀ h', h' a = some (oFrac 0 1) → (∀ j, j ≠ a → h' j = h j) → Post none n h') : zMP G mX2_init [.ref a] n h Post := by
  refine zMP_of (by decide) [some _] (Nat.le_of_ble_eq_true rfl) rfl ?_
  refine zr_aload_n (pc := 0)  (i := 0) rfl rfl dX2_init_0 ?_
  refine zr_objInit (pc := 1)  ci_X2_init_3 oi_i oi_c (by decide) (Nat.le_of_ble_eq_true rfl) dX2_init_1 ?_
  refine zr_aload_n (pc := 4)  (i := 0) rfl rfl dX2_init_4 ?_
  refine zr_lconst (pc := 5)  (z := 0) (by decide) dX2_init_5 ?_
  refine zr_put (pc := 6) (oFrac 0 0) (fp_X2_9 rfl) h1 (Nat.le_of_ble_eq_true rfl) rfl rfl rfl dX2_init_6 ?_
  refine zr_aload_n (pc := 9)  (i := 0) rfl rfl dX2_init_9 ?_
  refine zr_lconst (pc := 10)  (z := 1) (by decide) dX2_init_10 ?_
  refine zr_put (pc := 11) (oFrac 0 1) (fp_X2_15 rfl) zup_s (Nat.le_of_ble_eq_true rfl) rfl rfl rfl dX2_init_11 ?_
  refine zr_vreturn (pc := 14)  rfl (by decide) (by decide) dX2_init_14 ?_
  exact k _ zup_s (fun j b => by rw [zup_n b, zup_n b])
theorem k_X0_init (h1 : h 29 = some (.inr (0, [.null, .null, .null, .long (lZ 0)]))) (k : ∀ h', h' 29 = some (oBal 1) → h' 30 = some oTb → h' 31 = some (aJ 8 z0) → h' 32 = some (aJ 8 z0) → h' 33 = some (aJ 8 z0) → h' 34 = some (aJ 8 z0) → h' 35 = some (aJ 4 z0) → h' 36 = some (aJ 8 z0) → (∀ j, j < 29 ∨ 36 < j → h' j = h j) → Post none 37 h') : zMP G mX0_init [.ref 29] 30 h Post := by
  refine zMP_of (by decide) [some _] (Nat.le_of_ble_eq_true rfl) rfl ?_
  refine zr_aload_n (pc := 0)  (i := 0) rfl rfl dX0_init_0 ?_
  refine zr_objInit (pc := 1)  ci_X0_init_3 oi_i oi_c (by decide) (Nat.le_of_ble_eq_true rfl) dX0_init_1 ?_
  refine zr_aload_n (pc := 4)  (i := 0) rfl rfl dX0_init_4 ?_
  refine zr_iconst (pc := 5)  dX0_init_5 ?_
  refine zr_bipush (pc := 6)  (by decide) dX0_init_6 ?_
  refine zr_mna (pc := 8) rfl rfl (TG_of (mt1 (i := 179) rfl) rfl) ka_long (by decide) (by decide) dX0_init_8 ?_
  refine zr_put (pc := 12)  _ (fp_X0_11 rfl rfl) (by first | assumption | rfl | exact hB_row ⟨by omega, by omega⟩) (Nat.le_of_ble_eq_true rfl) rfl rfl rfl dX0_init_12 ?_
  refine zr_aload_n (pc := 15)  (i := 0) rfl rfl dX0_init_15 ?_
  refine zr_iconst (pc := 16)  dX0_init_16 ?_
  refine zr_newJ (pc := 17)  rfl (by decide) ka_long (by decide) (by decide) dX0_init_17 ?_
  refine zr_put (pc := 19)  _ (fp_X0_16 rfl rfl) (by first | assumption | rfl | exact hB_row ⟨by omega, by omega⟩) (Nat.le_of_ble_eq_true rfl) rfl rfl rfl dX0_init_19 ?_
  refine zr_aload_n (pc := 22)  (i := 0) rfl rfl dX0_init_22 ?_
  refine zr_bipush (pc := 23)  (by decide) dX0_init_23 ?_
  refine zr_newJ (pc := 25)  rfl (by decide) ka_long (by decide) (by decide) dX0_init_25 ?_
  refine zr_put (pc := 27)  _ (fp_X0_20 rfl rfl) (by first | assumption | rfl | exact hB_row ⟨by omega, by omega⟩) (Nat.le_of_ble_eq_true rfl) rfl rfl rfl dX0_init_27 ?_
  refine zr_aload_n (pc := 30)  (i := 0) rfl rfl dX0_init_30 ?_
  refine zr_lconst (pc := 31)  (z := 1) (by decide) dX0_init_31 ?_
  refine zr_put (pc := 32)  _ (fp_X0_23 rfl) (by first | assumption | rfl | exact hB_row ⟨by omega, by omega⟩) (Nat.le_of_ble_eq_true rfl) rfl rfl rfl dX0_init_32 ?_
  refine zr_vreturn (pc := 35)  rfl (by decide) (by decide) dX0_init_35 ?_
  exact k _ rfl rfl rfl rfl rfl rfl rfl rfl (fun j a => by (repeat rw [zup_n (by omega)]))
theorem k_X6_init (h1 : h 15 = some (.inr (6, [.null, .null, .null, .null, .null, .null, .int (iZ 0), .null, .null, .null, .null, .null, .int (iZ 0), .int (iZ 0)]))) (k : ∀ h', h' 15 = some (oView 0 0 (-1)) → h' 16 = some oTal → h' 17 = some (aI 35 z0) → h' 18 = some (aI 60 z0) → h' 19 = some (aI 5 z0) → h' 20 = some (aI 5 z0) → h' 21 = some (aZ 16 z0) → h' 22 = some (aI 14 z0) → h' 23 = some (aI 14 z0) → h' 24 = some (aJ 5 z0) → h' 25 = some (aJ 5 z0) → h' 26 = some (aI 16 z0) → h' 27 = some (aI 16 z0) → h' 28 = some (oFrac 0 1) → (∀ j, j < 15 ∨ 28 < j → h' j = h j) → Post none 29 h') : zMP G mX6_init [.ref 15, .ref 3, .ref 8] 16 h Post := by
  refine zMP_of (by decide) [some _, some _, some _] (Nat.le_of_ble_eq_true rfl) rfl ?_
  refine zr_aload_n (pc := 0)  (i := 0) rfl rfl dX6_init_0 ?_
  refine zr_objInit (pc := 1)  ci_X6_init_3 oi_i oi_c (by decide) (Nat.le_of_ble_eq_true rfl) dX6_init_1 ?_
  refine zr_aload_n (pc := 4)  (i := 0) rfl rfl dX6_init_4 ?_
  refine zr_aload_n (pc := 5)  (i := 1) rfl rfl dX6_init_5 ?_
  refine zr_put (pc := 6)  _ (fp_X6_9 rfl rfl) (by first | assumption | rfl | (repeat (first | assumption | exact zup_s | refine zup_g (by decide) ?_))) (Nat.le_of_ble_eq_true rfl) rfl rfl rfl dX6_init_6 ?_
  refine zr_aload_n (pc := 9)  (i := 0) rfl rfl dX6_init_9 ?_
  refine zr_aload_n (pc := 10)  (i := 2) rfl rfl dX6_init_10 ?_
  refine zr_put (pc := 11)  _ (fp_X6_15 rfl rfl) (by first | assumption | rfl | (repeat (first | assumption | exact zup_s | refine zup_g (by decide) ?_))) (Nat.le_of_ble_eq_true rfl) rfl rfl rfl dX6_init_11 ?_
  refine zr_aload_n (pc := 14)  (i := 0) rfl rfl dX6_init_14 ?_
  refine zr_new (pc := 15)  nw_X6_19 (by decide) (by decide) dX6_init_15 ?_
  refine zr_dup (pc := 18)  rfl dX6_init_18 ?_
  refine zi_call0 (pc := 19)  ci_X6_init_21 (Nat.le_of_ble_eq_true rfl) (by decide) dX6_init_19 ?_
  refine k_X4_init rfl (fun h2 a1 a2 a3 a4 a5 af => ?_)
  have e15 : h2 15 = some (.inr (6, [.ref 3, .ref 8, .null, .null, .null, .null, .int (iZ 0), .null, .null, .null, .null, .null, .int (iZ 0), .int (iZ 0)])) := (af 15 (by omega)).trans rfl
  dsimp only [Option.toList, List.cons_append, List.nil_append]
  refine zr_put (pc := 22)  _ (fp_X6_22 rfl rfl) (by first | assumption | rfl | (repeat (first | assumption | exact zup_s | refine zup_g (by decide) ?_))) (Nat.le_of_ble_eq_true rfl) rfl rfl rfl dX6_init_22 ?_
  refine zr_aload_n (pc := 25)  (i := 0) rfl rfl dX6_init_25 ?_
  refine zr_bipush (pc := 26)  (by decide) dX6_init_26 ?_
  refine zr_newZ (pc := 28)  rfl (by decide) ka_boolean (by decide) (by decide) dX6_init_28 ?_
  refine zr_put (pc := 30)  _ (fp_X6_26 rfl rfl) (by first | assumption | rfl | (repeat (first | assumption | exact zup_s | refine zup_g (by decide) ?_))) (Nat.le_of_ble_eq_true rfl) rfl rfl rfl dX6_init_30 ?_
  refine zr_aload_n (pc := 33)  (i := 0) rfl rfl dX6_init_33 ?_
  refine zr_bipush (pc := 34)  (by decide) dX6_init_34 ?_
  refine zr_newI (pc := 36)  rfl (by decide) ka_int (by decide) (by decide) dX6_init_36 ?_
  refine zr_put (pc := 38)  _ (fp_X6_30 rfl rfl) (by first | assumption | rfl | (repeat (first | assumption | exact zup_s | refine zup_g (by decide) ?_))) (Nat.le_of_ble_eq_true rfl) rfl rfl rfl dX6_init_38 ?_
  refine zr_aload_n (pc := 41)  (i := 0) rfl rfl dX6_init_41 ?_
  refine zr_bipush (pc := 42)  (by decide) dX6_init_42 ?_
  refine zr_newI (pc := 44)  rfl (by decide) ka_int (by decide) (by decide) dX6_init_44 ?_
  refine zr_put (pc := 46)  _ (fp_X6_34 rfl rfl) (by first | assumption | rfl | (repeat (first | assumption | exact zup_s | refine zup_g (by decide) ?_))) (Nat.le_of_ble_eq_true rfl) rfl rfl rfl dX6_init_46 ?_
  refine zr_aload_n (pc := 49)  (i := 0) rfl rfl dX6_init_49 ?_
  refine zr_iconst (pc := 50)  dX6_init_50 ?_
  refine zr_put (pc := 51)  _ (fp_X6_37 rfl) (by first | assumption | rfl | (repeat (first | assumption | exact zup_s | refine zup_g (by decide) ?_))) (Nat.le_of_ble_eq_true rfl) rfl rfl rfl dX6_init_51 ?_
  refine zr_aload_n (pc := 54)  (i := 0) rfl rfl dX6_init_54 ?_
  refine zr_iconst (pc := 55)  dX6_init_55 ?_
  refine zr_newJ (pc := 56)  rfl (by decide) ka_long (by decide) (by decide) dX6_init_56 ?_
  refine zr_put (pc := 58)  _ (fp_X6_41 rfl rfl) (by first | assumption | rfl | (repeat (first | assumption | exact zup_s | refine zup_g (by decide) ?_))) (Nat.le_of_ble_eq_true rfl) rfl rfl rfl dX6_init_58 ?_
  refine zr_aload_n (pc := 61)  (i := 0) rfl rfl dX6_init_61 ?_
  refine zr_iconst (pc := 62)  dX6_init_62 ?_
  refine zr_newJ (pc := 63)  rfl (by decide) ka_long (by decide) (by decide) dX6_init_63 ?_
  refine zr_put (pc := 65)  _ (fp_X6_45 rfl rfl) (by first | assumption | rfl | (repeat (first | assumption | exact zup_s | refine zup_g (by decide) ?_))) (Nat.le_of_ble_eq_true rfl) rfl rfl rfl dX6_init_65 ?_
  refine zr_aload_n (pc := 68)  (i := 0) rfl rfl dX6_init_68 ?_
  refine zr_bipush (pc := 69)  (by decide) dX6_init_69 ?_
  refine zr_newI (pc := 71)  rfl (by decide) ka_int (by decide) (by decide) dX6_init_71 ?_
  refine zr_put (pc := 73)  _ (fp_X6_48 rfl rfl) (by first | assumption | rfl | (repeat (first | assumption | exact zup_s | refine zup_g (by decide) ?_))) (Nat.le_of_ble_eq_true rfl) rfl rfl rfl dX6_init_73 ?_
  refine zr_aload_n (pc := 76)  (i := 0) rfl rfl dX6_init_76 ?_
  refine zr_bipush (pc := 77)  (by decide) dX6_init_77 ?_
  refine zr_newI (pc := 79)  rfl (by decide) ka_int (by decide) (by decide) dX6_init_79 ?_
  refine zr_put (pc := 81)  _ (fp_X6_51 rfl rfl) (by first | assumption | rfl | (repeat (first | assumption | exact zup_s | refine zup_g (by decide) ?_))) (Nat.le_of_ble_eq_true rfl) rfl rfl rfl dX6_init_81 ?_
  refine zr_aload_n (pc := 84)  (i := 0) rfl rfl dX6_init_84 ?_
  refine zr_new (pc := 85)  nw_X6_54 (by decide) (by decide) dX6_init_85 ?_
  refine zr_dup (pc := 88)  rfl dX6_init_88 ?_
  refine zi_call0 (pc := 89)  ci_X6_init_56 (Nat.le_of_ble_eq_true rfl) (by decide) dX6_init_89 ?_
  refine k_X2_init rfl (fun h3 b1 bf => ?_)
  have f15 : h3 15 = some (.inr (6, [.ref 3, .ref 8, .ref 16, .ref 21, .ref 22, .ref 23, .int (iZ 0), .ref 24, .ref 25, .ref 26, .ref 27, .null, .int (iZ 0), .int (iZ 0)])) := (bf 15 (by decide)).trans rfl
  dsimp only [Option.toList, List.cons_append, List.nil_append]
  refine zr_put (pc := 92)  _ (fp_X6_57 rfl rfl) (by first | assumption | rfl | (repeat (first | assumption | exact zup_s | refine zup_g (by decide) ?_))) (Nat.le_of_ble_eq_true rfl) rfl rfl rfl dX6_init_92 ?_
  refine zr_aload_n (pc := 95)  (i := 0) rfl rfl dX6_init_95 ?_
  refine zr_iconst (pc := 96)  dX6_init_96 ?_
  refine zr_put (pc := 97)  _ (fp_X6_61 rfl) (by first | assumption | rfl | (repeat (first | assumption | exact zup_s | refine zup_g (by decide) ?_))) (Nat.le_of_ble_eq_true rfl) rfl rfl rfl dX6_init_97 ?_
  refine zr_aload_n (pc := 100)  (i := 0) rfl rfl dX6_init_100 ?_
  refine zr_iconst (pc := 101)  dX6_init_101 ?_
  refine zr_put (pc := 102)  _ (fp_X6_65 rfl) (by first | assumption | rfl | (repeat (first | assumption | exact zup_s | refine zup_g (by decide) ?_))) (Nat.le_of_ble_eq_true rfl) rfl rfl rfl dX6_init_102 ?_
  refine zr_vreturn (pc := 105)  rfl (by decide) (by decide) dX6_init_105 ?_
  exact k _ rfl ((bf 16 (by decide)).trans a1) ((bf 17 (by decide)).trans a2) ((bf 18 (by decide)).trans a3) ((bf 19 (by decide)).trans a4) ((bf 20 (by decide)).trans a5) ((bf 21 (by decide)).trans rfl) ((bf 22 (by decide)).trans rfl) ((bf 23 (by decide)).trans rfl) ((bf 24 (by decide)).trans rfl) ((bf 25 (by decide)).trans rfl) ((bf 26 (by decide)).trans rfl) ((bf 27 (by decide)).trans rfl) b1 (fun j a => by (repeat rw [zup_n (by omega)]); rw [bf j (by omega)]; (repeat rw [zup_n (by omega)]); rw [af j (by omega)]; (repeat rw [zup_n (by omega)]))
end INI
