/-! a new office, a new reference -/
section INI
variable {G : zG} {h : zH} {Post : Option Value → Nat → zH → Prop}
theorem k_X7_init (h0 : h 0 = some (.inr (7, [.null, .null, .null, .null, .null, .null, .int (iZ 0)]))) (k : ∀ h', oK h' 0 0 z0 z0 z0 z0 z0 0 0 z0 z0 z0 z0 (clZ z0 0 1344 (-1)) z0 z0 → (∀ j, 37 < j → h' j = h j) → Post none 38 h') : zMP G mX7_init [.ref 0] 1 h Post := by
  refine zMP_of (by decide) [some _] (Nat.le_of_ble_eq_true rfl) rfl ?_
  refine zr_aload_n (pc := 0)  (i := 0) rfl rfl dX7_init_0 ?_
  refine zr_objInit (pc := 1)  ci_X7_init_3 oi_i oi_c (by decide) (Nat.le_of_ble_eq_true rfl) dX7_init_1 ?_
  refine zr_aload_n (pc := 4)  (i := 0) rfl rfl dX7_init_4 ?_
  refine zr_new (pc := 5)  nw_X7_9 (by decide) (by decide) dX7_init_5 ?_
  refine zr_dup (pc := 8)  rfl dX7_init_8 ?_
  refine zi_call0 (pc := 9)  ci_X7_init_11 (Nat.le_of_ble_eq_true rfl) (by decide) dX7_init_9 ?_
  refine k_X5_init rfl (fun h1 a1 a2 af => ?_)
  have e1 : h1 0 = some (.inr (7, [.null, .null, .null, .null, .null, .null, .int (iZ 0)])) := (af 0 (by decide) (by decide)).trans h0
  dsimp only [Option.toList, List.cons_append, List.nil_append]
  refine zr_put (pc := 12)  _ (fp_X7_12 rfl rfl) (by first | assumption | rfl | (repeat (first | assumption | exact zup_s | refine zup_g (by decide) ?_))) (Nat.le_of_ble_eq_true rfl) rfl rfl rfl dX7_init_12 ?_
  refine zr_aload_n (pc := 15)  (i := 0) rfl rfl dX7_init_15 ?_
  refine zr_new (pc := 16)  nw_X7_16 (by decide) (by decide) dX7_init_16 ?_
  refine zr_dup (pc := 19)  rfl dX7_init_19 ?_
  refine zi_call0 (pc := 20)  ci_X7_init_18 (Nat.le_of_ble_eq_true rfl) (by decide) dX7_init_20 ?_
  refine k_X3_init rfl (fun h2 b1 b2 b3 b4 b5 bf => ?_)
  have e2 : h2 0 = some (.inr (7, [.ref 1, .null, .null, .null, .null, .null, .int (iZ 0)])) := (bf 0 (by omega)).trans rfl
  dsimp only [Option.toList, List.cons_append, List.nil_append]
  refine zr_put (pc := 23)  _ (fp_X7_19 rfl rfl) (by first | assumption | rfl | (repeat (first | assumption | exact zup_s | refine zup_g (by decide) ?_))) (Nat.le_of_ble_eq_true rfl) rfl rfl rfl dX7_init_23 ?_
  refine zr_aload_n (pc := 26)  (i := 0) rfl rfl dX7_init_26 ?_
  refine zr_new (pc := 27)  nw_X7_23 (by decide) (by decide) dX7_init_27 ?_
  refine zr_dup (pc := 30)  rfl dX7_init_30 ?_
  refine zi_call0 (pc := 31)  ci_X7_init_25 (Nat.le_of_ble_eq_true rfl) (by decide) dX7_init_31 ?_
  refine k_X1_init rfl (fun h3 c1 c2 c3 c4 c5 c6 c7 cf => ?_)
  have e3 : h3 0 = some (.inr (7, [.ref 1, .ref 3, .null, .null, .null, .null, .int (iZ 0)])) := (cf 0 (by omega)).trans rfl
  dsimp only [Option.toList, List.cons_append, List.nil_append]
  refine zr_put (pc := 34)  _ (fp_X7_26 rfl rfl) (by first | assumption | rfl | (repeat (first | assumption | exact zup_s | refine zup_g (by decide) ?_))) (Nat.le_of_ble_eq_true rfl) rfl rfl rfl dX7_init_34 ?_
  refine zr_aload_n (pc := 37)  (i := 0) rfl rfl dX7_init_37 ?_
  refine zr_new (pc := 38)  nw_X7_30 (by decide) (by decide) dX7_init_38 ?_
  refine zr_dup (pc := 41)  rfl dX7_init_41 ?_
  refine zr_aload_n (pc := 42)  (i := 0) rfl rfl dX7_init_42 ?_
  refine zr_get (pc := 43)  fl_X7_19 (by first | assumption | rfl | (repeat (first | assumption | exact zup_s | refine zup_g (by decide) ?_))) rfl dX7_init_43 ?_
  refine zr_aload_n (pc := 46)  (i := 0) rfl rfl dX7_init_46 ?_
  refine zr_get (pc := 47)  fl_X7_26 (by first | assumption | rfl | (repeat (first | assumption | exact zup_s | refine zup_g (by decide) ?_))) rfl dX7_init_47 ?_
  refine zi_call2 (pc := 50)  ci_X7_init_32 (Nat.le_of_ble_eq_true rfl) (by decide) dX7_init_50 ?_
  refine k_X6_init rfl (fun h4 d1 d2 d3 d4 d5 d6 d7 d8 d9 d10 d11 d12 d13 d14 df => ?_)
  have e4 : h4 0 = some (.inr (7, [.ref 1, .ref 3, .ref 8, .null, .null, .null, .int (iZ 0)])) := (df 0 (by omega)).trans rfl
  dsimp only [Option.toList, List.cons_append, List.nil_append]
  refine zr_put (pc := 53)  _ (fp_X7_35 rfl rfl) (by first | assumption | rfl | (repeat (first | assumption | exact zup_s | refine zup_g (by decide) ?_))) (Nat.le_of_ble_eq_true rfl) rfl rfl rfl dX7_init_53 ?_
  refine zr_aload_n (pc := 56)  (i := 0) rfl rfl dX7_init_56 ?_
  refine zr_new (pc := 57)  nw_X7_39 (by decide) (by decide) dX7_init_57 ?_
  refine zr_dup (pc := 60)  rfl dX7_init_60 ?_
  refine zi_call0 (pc := 61)  ci_X7_init_41 (Nat.le_of_ble_eq_true rfl) (by decide) dX7_init_61 ?_
  refine k_X0_init rfl (fun h5 f1 f2 f3 f4 f5 f6 f7 f8 ff => ?_)
  have e5 : h5 0 = some (.inr (7, [.ref 1, .ref 3, .ref 8, .ref 15, .null, .null, .int (iZ 0)])) := (ff 0 (by omega)).trans rfl
  dsimp only [Option.toList, List.cons_append, List.nil_append]
  refine zr_put (pc := 64)  _ (fp_X7_42 rfl rfl) (by first | assumption | rfl | (repeat (first | assumption | exact zup_s | refine zup_g (by decide) ?_))) (Nat.le_of_ble_eq_true rfl) rfl rfl rfl dX7_init_64 ?_
  refine zr_aload_n (pc := 67)  (i := 0) rfl rfl dX7_init_67 ?_
  refine zr_new (pc := 68)  nw_X7_46 (by decide) (by decide) dX7_init_68 ?_
  refine zr_dup (pc := 71)  rfl dX7_init_71 ?_
  refine zi_call0 (pc := 72)  ci_X7_init_48 (Nat.le_of_ble_eq_true rfl) (by decide) dX7_init_72 ?_
  refine k_X2_init rfl (fun h6 g1 gf => ?_)
  have e6 : h6 0 = some (.inr (7, [.ref 1, .ref 3, .ref 8, .ref 15, .ref 29, .null, .int (iZ 0)])) := (gf 0 (by decide)).trans rfl
  dsimp only [Option.toList, List.cons_append, List.nil_append]
  refine zr_put (pc := 75)  _ (fp_X7_49 rfl rfl) (by first | assumption | rfl | (repeat (first | assumption | exact zup_s | refine zup_g (by decide) ?_))) (Nat.le_of_ble_eq_true rfl) rfl rfl rfl dX7_init_75 ?_
  refine zr_aload_n (pc := 78)  (i := 0) rfl rfl dX7_init_78 ?_
  refine zr_iconst (pc := 79)  dX7_init_79 ?_
  refine zr_put (pc := 80)  _ (fp_X7_53 rfl) (by first | assumption | rfl | (repeat (first | assumption | exact zup_s | refine zup_g (by decide) ?_))) (Nat.le_of_ble_eq_true rfl) rfl rfl rfl dX7_init_80 ?_
  refine zr_vreturn (pc := 83)  rfl (by decide) (by decide) dX7_init_83 ?_
  have t6 : ∀ j, 0 < j → j < 37 → h6 j = h5 j := fun j a b => by rw [gf j (by omega)]; (repeat rw [zup_n (by omega)])
  have t5 : ∀ j, 0 < j → j < 29 → h5 j = h4 j := fun j a b => by rw [ff j (by omega)]; (repeat rw [zup_n (by omega)])
  have t4 : ∀ j, 0 < j → j < 15 → h4 j = h3 j := fun j a b => by rw [df j (by omega)]; (repeat rw [zup_n (by omega)])
  have t3 : ∀ j, 0 < j → j < 8 → h3 j = h2 j := fun j a b => by rw [cf j (by omega)]; (repeat rw [zup_n (by omega)])
  have t2 : ∀ j, 0 < j → j < 3 → h2 j = h1 j := fun j a b => by rw [bf j (by omega)]; (repeat rw [zup_n (by omega)])
  have u5 : ∀ (j : Nat) (x : Option va_E), 29 ≤ j → j < 37 → h5 j = x → h6 j = x := fun j x a b c => (t6 j (by omega) b).trans c
  have u4 : ∀ (j : Nat) (x : Option va_E), 15 ≤ j → j < 29 → h4 j = x → h6 j = x := fun j x a b c => (t6 j (by omega) (by omega)).trans ((t5 j (by omega) b).trans c)
  have u3 : ∀ (j : Nat) (x : Option va_E), 8 ≤ j → j < 15 → h3 j = x → h6 j = x := fun j x a b c => (t6 j (by omega) (by omega)).trans ((t5 j (by omega) (by omega)).trans ((t4 j (by omega) b).trans c))
  have u2 : ∀ (j : Nat) (x : Option va_E), 3 ≤ j → j < 8 → h2 j = x → h6 j = x := fun j x a b c => (t6 j (by omega) (by omega)).trans ((t5 j (by omega) (by omega)).trans ((t4 j (by omega) (by omega)).trans ((t3 j (by omega) b).trans c)))
  have u1 : ∀ (j : Nat) (x : Option va_E), 0 < j → j < 3 → h1 j = x → h6 j = x := fun j x a b c => (t6 j (by omega) (by omega)).trans ((t5 j (by omega) (by omega)).trans ((t4 j (by omega) (by omega)).trans ((t3 j (by omega) (by omega)).trans ((t2 j (by omega) b).trans c))))
  refine k _ ⟨⟨rfl, u1 1 _ (by omega) (by omega) a1, u1 2 _ (by omega) (by omega) a2, u2 3 _ (by omega) (by omega) b1, u2 4 _ (by omega) (by omega) b2, u2 5 _ (by omega) (by omega) b3, u2 6 _ (by omega) (by omega) b4, u2 7 _ (by omega) (by omega) b5, u3 8 _ (by omega) (by omega) c1, u3 9 _ (by omega) (by omega) c2, u3 10 _ (by omega) (by omega) c3, u3 11 _ (by omega) (by omega) c4, u3 12 _ (by omega) (by omega) c5, u3 13 _ (by omega) (by omega) c6, u3 14 _ (by omega) (by omega) c7⟩, ⟨by omega, by omega, fun i => by show (0 : Int) ≤ 0 ∧ (0 : Int) ≤ 255; omega, fun i => Or.inl rfl, fun i => by show (0 : Int) ≤ 0 ∧ (0 : Int) < 8; omega, fun i => by show (0 : Int) ≤ 0 ∧ (0 : Int) < 8; omega, fun i => by show (-1 : Int) ≤ 0 ∧ (0 : Int) < 4; omega, fun i z => absurd z (by show ¬ (0 : Int) = 1; omega), by decide, ⟨fun i => by show (0 : Int) ≤ 0 ∧ (0 : Int) ≤ 99; omega, fun i => by show (-1 : Int) ≤ 0 ∧ (0 : Int) ≤ 50; omega, fun i => Or.inl rfl, ⟨fun p a b => if_pos ⟨a, b⟩, fun e a b => absurd b (by omega)⟩, by omega⟩⟩, ⟨u4 16 _ (by omega) (by omega) d2, 0, 0, -1, z0, z0, z0, z0, z0, z0, z0, z0, z0, z0, z0, 0, 1, ⟨u4 15 _ (by omega) (by omega) d1, u4 17 _ (by omega) (by omega) d3, u4 18 _ (by omega) (by omega) d4, u4 19 _ (by omega) (by omega) d5, u4 20 _ (by omega) (by omega) d6, u4 21 _ (by omega) (by omega) d7, u4 22 _ (by omega) (by omega) d8, u4 23 _ (by omega) (by omega) d9, u4 24 _ (by omega) (by omega) d10, u4 25 _ (by omega) (by omega) d11, u4 26 _ (by omega) (by omega) d12, u4 27 _ (by omega) (by omega) d13, u4 28 _ (by omega) (by omega) d14⟩, ⟨by omega, by omega⟩, Or.inl rfl, fun i => Or.inl rfl, fun z => absurd rfl z⟩, ⟨u5 30 _ (by omega) (by omega) f2, ⟨1, fun _ => z0, z0, z0, u5 29 _ (by omega) (by omega) f1, u5 31 _ (by omega) (by omega) f3, u5 32 _ (by omega) (by omega) f4, u5 33 _ (by omega) (by omega) f5, u5 34 _ (by omega) (by omega) f6, u5 35 _ (by omega) (by omega) f7, u5 36 _ (by omega) (by omega) f8⟩, 0, 1, g1⟩⟩ (fun j hj => ?_)
  (repeat rw [zup_n (by omega)])
  rw [gf j (by omega)]
  (repeat rw [zup_n (by omega)])
  rw [ff j (by omega)]
  (repeat rw [zup_n (by omega)])
  rw [df j (by omega)]
  (repeat rw [zup_n (by omega)])
  rw [cf j (by omega)]
  (repeat rw [zup_n (by omega)])
  rw [bf j (by omega)]
  (repeat rw [zup_n (by omega)])
  rw [af j (by omega) (by omega)]
  (repeat rw [zup_n (by omega)])
theorem k_X8_init (h0 : h 38 = some (.inr (8, [.int (iZ 0), .null, .int (iZ 0), .null, .null, .null, .null, .null, .null, .null, .null, .null, .null, .int (iZ 0), .int (iZ 0), .null, .null, .null, .null, .long (lZ 0), .int (iZ 0), .long (lZ 0), .long (lZ 0), .null, .null, .null, .long (lZ 0), .long (lZ 0), .null, .null, .null, .null, .null, .null, .null, .null]))) (k : ∀ h', mK h' 0 0 0 z0 z0 z0 z0 z0 0 z0 z0 z0 z0 z0 → (∀ j, j < 38 ∨ 64 < j → h' j = h j) → Post none 65 h') : zMP G mX8_init [.ref 38] 39 h Post := by
  refine zMP_of (by decide) [some _] (Nat.le_of_ble_eq_true rfl) rfl ?_
  refine zr_aload_n (pc := 0)  (i := 0) rfl rfl dX8_init_0 ?_
  refine zr_objInit (pc := 1)  ci_X8_init_1 oi_i oi_c (by decide) (Nat.le_of_ble_eq_true rfl) dX8_init_1 ?_
  refine zr_aload_n (pc := 4)  (i := 0) rfl rfl dX8_init_4 ?_
  refine zr_sipush (pc := 5)  (by decide) dX8_init_5 ?_
  refine zr_newB (pc := 8)  rfl (by decide) ka_byte (by decide) (by decide) dX8_init_8 ?_
  refine zr_put (pc := 10)  _ (fp_X8_7 rfl rfl) (by first | assumption | rfl | (repeat (first | assumption | exact zup_s | refine zup_g (by decide) ?_))) (Nat.le_of_ble_eq_true rfl) rfl rfl rfl dX8_init_10 ?_
  refine zr_aload_n (pc := 13)  (i := 0) rfl rfl dX8_init_13 ?_
  refine zr_bipush (pc := 14)  (by decide) dX8_init_14 ?_
  refine zr_newZ (pc := 16)  rfl (by decide) ka_boolean (by decide) (by decide) dX8_init_16 ?_
  refine zr_put (pc := 18)  _ (fp_X8_13 rfl rfl) (by first | assumption | rfl | (repeat (first | assumption | exact zup_s | refine zup_g (by decide) ?_))) (Nat.le_of_ble_eq_true rfl) rfl rfl rfl dX8_init_18 ?_
  refine zr_aload_n (pc := 21)  (i := 0) rfl rfl dX8_init_21 ?_
  refine zr_sipush (pc := 22)  (by decide) dX8_init_22 ?_
  refine zr_newZ (pc := 25)  rfl (by decide) ka_boolean (by decide) (by decide) dX8_init_25 ?_
  refine zr_put (pc := 27)  _ (fp_X8_17 rfl rfl) (by first | assumption | rfl | (repeat (first | assumption | exact zup_s | refine zup_g (by decide) ?_))) (Nat.le_of_ble_eq_true rfl) rfl rfl rfl dX8_init_27 ?_
  refine zr_aload_n (pc := 30)  (i := 0) rfl rfl dX8_init_30 ?_
  refine zr_bipush (pc := 31)  (by decide) dX8_init_31 ?_
  refine zr_newI (pc := 33)  rfl (by decide) ka_int (by decide) (by decide) dX8_init_33 ?_
  refine zr_put (pc := 35)  _ (fp_X8_20 rfl rfl) (by first | assumption | rfl | (repeat (first | assumption | exact zup_s | refine zup_g (by decide) ?_))) (Nat.le_of_ble_eq_true rfl) rfl rfl rfl dX8_init_35 ?_
  refine zr_aload_n (pc := 38)  (i := 0) rfl rfl dX8_init_38 ?_
  refine zr_bipush (pc := 39)  (by decide) dX8_init_39 ?_
  refine zr_newI (pc := 41)  rfl (by decide) ka_int (by decide) (by decide) dX8_init_41 ?_
  refine zr_put (pc := 43)  _ (fp_X8_24 rfl rfl) (by first | assumption | rfl | (repeat (first | assumption | exact zup_s | refine zup_g (by decide) ?_))) (Nat.le_of_ble_eq_true rfl) rfl rfl rfl dX8_init_43 ?_
  refine zr_aload_n (pc := 46)  (i := 0) rfl rfl dX8_init_46 ?_
  refine zr_bipush (pc := 47)  (by decide) dX8_init_47 ?_
  refine zr_newI (pc := 49)  rfl (by decide) ka_int (by decide) (by decide) dX8_init_49 ?_
  refine zr_put (pc := 51)  _ (fp_X8_27 rfl rfl) (by first | assumption | rfl | (repeat (first | assumption | exact zup_s | refine zup_g (by decide) ?_))) (Nat.le_of_ble_eq_true rfl) rfl rfl rfl dX8_init_51 ?_
  refine zr_aload_n (pc := 54)  (i := 0) rfl rfl dX8_init_54 ?_
  refine zr_sipush (pc := 55)  (by decide) dX8_init_55 ?_
  refine zr_newI (pc := 58)  rfl (by decide) ka_int (by decide) (by decide) dX8_init_58 ?_
  refine zr_put (pc := 60)  _ (fp_X8_30 rfl rfl) (by first | assumption | rfl | (repeat (first | assumption | exact zup_s | refine zup_g (by decide) ?_))) (Nat.le_of_ble_eq_true rfl) rfl rfl rfl dX8_init_60 ?_
  refine zr_aload_n (pc := 63)  (i := 0) rfl rfl dX8_init_63 ?_
  refine zr_sipush (pc := 64)  (by decide) dX8_init_64 ?_
  refine zr_newI (pc := 67)  rfl (by decide) ka_int (by decide) (by decide) dX8_init_67 ?_
  refine zr_put (pc := 69)  _ (fp_X8_33 rfl rfl) (by first | assumption | rfl | (repeat (first | assumption | exact zup_s | refine zup_g (by decide) ?_))) (Nat.le_of_ble_eq_true rfl) rfl rfl rfl dX8_init_69 ?_
  refine zr_aload_n (pc := 72)  (i := 0) rfl rfl dX8_init_72 ?_
  refine zr_sipush (pc := 73)  (by decide) dX8_init_73 ?_
  refine zr_newI (pc := 76)  rfl (by decide) ka_int (by decide) (by decide) dX8_init_76 ?_
  refine zr_put (pc := 78)  _ (fp_X8_36 rfl rfl) (by first | assumption | rfl | (repeat (first | assumption | exact zup_s | refine zup_g (by decide) ?_))) (Nat.le_of_ble_eq_true rfl) rfl rfl rfl dX8_init_78 ?_
  refine zr_aload_n (pc := 81)  (i := 0) rfl rfl dX8_init_81 ?_
  refine zr_sipush (pc := 82)  (by decide) dX8_init_82 ?_
  refine zr_newI (pc := 85)  rfl (by decide) ka_int (by decide) (by decide) dX8_init_85 ?_
  refine zr_put (pc := 87)  _ (fp_X8_39 rfl rfl) (by first | assumption | rfl | (repeat (first | assumption | exact zup_s | refine zup_g (by decide) ?_))) (Nat.le_of_ble_eq_true rfl) rfl rfl rfl dX8_init_87 ?_
  refine zr_aload_n (pc := 90)  (i := 0) rfl rfl dX8_init_90 ?_
  refine zr_sipush (pc := 91)  (by decide) dX8_init_91 ?_
  refine zr_newI (pc := 94)  rfl (by decide) ka_int (by decide) (by decide) dX8_init_94 ?_
  refine zr_put (pc := 96)  _ (fp_X8_42 rfl rfl) (by first | assumption | rfl | (repeat (first | assumption | exact zup_s | refine zup_g (by decide) ?_))) (Nat.le_of_ble_eq_true rfl) rfl rfl rfl dX8_init_96 ?_
  refine zr_aload_n (pc := 99)  (i := 0) rfl rfl dX8_init_99 ?_
  refine zr_sipush (pc := 100)  (by decide) dX8_init_100 ?_
  refine zr_newI (pc := 103)  rfl (by decide) ka_int (by decide) (by decide) dX8_init_103 ?_
  refine zr_put (pc := 105)  _ (fp_X8_45 rfl rfl) (by first | assumption | rfl | (repeat (first | assumption | exact zup_s | refine zup_g (by decide) ?_))) (Nat.le_of_ble_eq_true rfl) rfl rfl rfl dX8_init_105 ?_
  refine zr_aload_n (pc := 108)  (i := 0) rfl rfl dX8_init_108 ?_
  refine zr_bipush (pc := 109)  (by decide) dX8_init_109 ?_
  refine zr_newZ (pc := 111)  rfl (by decide) ka_boolean (by decide) (by decide) dX8_init_111 ?_
  refine zr_put (pc := 113)  _ (fp_X8_48 rfl rfl) (by first | assumption | rfl | (repeat (first | assumption | exact zup_s | refine zup_g (by decide) ?_))) (Nat.le_of_ble_eq_true rfl) rfl rfl rfl dX8_init_113 ?_
  refine zr_aload_n (pc := 116)  (i := 0) rfl rfl dX8_init_116 ?_
  refine zr_bipush (pc := 117)  (by decide) dX8_init_117 ?_
  refine zr_newJ (pc := 119)  rfl (by decide) ka_long (by decide) (by decide) dX8_init_119 ?_
  refine zr_put (pc := 121)  _ (fp_X8_51 rfl rfl) (by first | assumption | rfl | (repeat (first | assumption | exact zup_s | refine zup_g (by decide) ?_))) (Nat.le_of_ble_eq_true rfl) rfl rfl rfl dX8_init_121 ?_
  refine zr_aload_n (pc := 124)  (i := 0) rfl rfl dX8_init_124 ?_
  refine zr_bipush (pc := 125)  (by decide) dX8_init_125 ?_
  refine zr_newJ (pc := 127)  rfl (by decide) ka_long (by decide) (by decide) dX8_init_127 ?_
  refine zr_put (pc := 129)  _ (fp_X8_55 rfl rfl) (by first | assumption | rfl | (repeat (first | assumption | exact zup_s | refine zup_g (by decide) ?_))) (Nat.le_of_ble_eq_true rfl) rfl rfl rfl dX8_init_129 ?_
  refine zr_aload_n (pc := 132)  (i := 0) rfl rfl dX8_init_132 ?_
  refine zr_iconst (pc := 133)  dX8_init_133 ?_
  refine zr_newI (pc := 134)  rfl (by decide) ka_int (by decide) (by decide) dX8_init_134 ?_
  refine zr_put (pc := 136)  _ (fp_X8_58 rfl rfl) (by first | assumption | rfl | (repeat (first | assumption | exact zup_s | refine zup_g (by decide) ?_))) (Nat.le_of_ble_eq_true rfl) rfl rfl rfl dX8_init_136 ?_
  refine zr_aload_n (pc := 139)  (i := 0) rfl rfl dX8_init_139 ?_
  refine zr_iconst (pc := 140)  dX8_init_140 ?_
  refine zr_newJ (pc := 141)  rfl (by decide) ka_long (by decide) (by decide) dX8_init_141 ?_
  refine zr_put (pc := 143)  _ (fp_X8_61 rfl rfl) (by first | assumption | rfl | (repeat (first | assumption | exact zup_s | refine zup_g (by decide) ?_))) (Nat.le_of_ble_eq_true rfl) rfl rfl rfl dX8_init_143 ?_
  refine zr_aload_n (pc := 146)  (i := 0) rfl rfl dX8_init_146 ?_
  refine zr_iconst (pc := 147)  dX8_init_147 ?_
  refine zr_newJ (pc := 148)  rfl (by decide) ka_long (by decide) (by decide) dX8_init_148 ?_
  refine zr_put (pc := 150)  _ (fp_X8_64 rfl rfl) (by first | assumption | rfl | (repeat (first | assumption | exact zup_s | refine zup_g (by decide) ?_))) (Nat.le_of_ble_eq_true rfl) rfl rfl rfl dX8_init_150 ?_
  refine zr_aload_n (pc := 153)  (i := 0) rfl rfl dX8_init_153 ?_
  refine zr_bipush (pc := 154)  (by decide) dX8_init_154 ?_
  refine zr_newI (pc := 156)  rfl (by decide) ka_int (by decide) (by decide) dX8_init_156 ?_
  refine zr_put (pc := 158)  _ (fp_X8_67 rfl rfl) (by first | assumption | rfl | (repeat (first | assumption | exact zup_s | refine zup_g (by decide) ?_))) (Nat.le_of_ble_eq_true rfl) rfl rfl rfl dX8_init_158 ?_
  refine zr_aload_n (pc := 161)  (i := 0) rfl rfl dX8_init_161 ?_
  refine zr_bipush (pc := 162)  (by decide) dX8_init_162 ?_
  refine zr_newI (pc := 164)  rfl (by decide) ka_int (by decide) (by decide) dX8_init_164 ?_
  refine zr_put (pc := 166)  _ (fp_X8_70 rfl rfl) (by first | assumption | rfl | (repeat (first | assumption | exact zup_s | refine zup_g (by decide) ?_))) (Nat.le_of_ble_eq_true rfl) rfl rfl rfl dX8_init_166 ?_
  refine zr_aload_n (pc := 169)  (i := 0) rfl rfl dX8_init_169 ?_
  refine zr_bipush (pc := 170)  (by decide) dX8_init_170 ?_
  refine zr_newI (pc := 172)  rfl (by decide) ka_int (by decide) (by decide) dX8_init_172 ?_
  refine zr_put (pc := 174)  _ (fp_X8_73 rfl rfl) (by first | assumption | rfl | (repeat (first | assumption | exact zup_s | refine zup_g (by decide) ?_))) (Nat.le_of_ble_eq_true rfl) rfl rfl rfl dX8_init_174 ?_
  refine zr_aload_n (pc := 177)  (i := 0) rfl rfl dX8_init_177 ?_
  refine zr_iconst (pc := 178)  dX8_init_178 ?_
  refine zr_newI (pc := 179)  rfl (by decide) ka_int (by decide) (by decide) dX8_init_179 ?_
  refine zr_put (pc := 181)  _ (fp_X8_76 rfl rfl) (by first | assumption | rfl | (repeat (first | assumption | exact zup_s | refine zup_g (by decide) ?_))) (Nat.le_of_ble_eq_true rfl) rfl rfl rfl dX8_init_181 ?_
  refine zr_aload_n (pc := 184)  (i := 0) rfl rfl dX8_init_184 ?_
  refine zr_bipush (pc := 185)  (by decide) dX8_init_185 ?_
  refine zr_newJ (pc := 187)  rfl (by decide) ka_long (by decide) (by decide) dX8_init_187 ?_
  refine zr_put (pc := 189)  _ (fp_X8_79 rfl rfl) (by first | assumption | rfl | (repeat (first | assumption | exact zup_s | refine zup_g (by decide) ?_))) (Nat.le_of_ble_eq_true rfl) rfl rfl rfl dX8_init_189 ?_
  refine zr_aload_n (pc := 192)  (i := 0) rfl rfl dX8_init_192 ?_
  refine zr_iconst (pc := 193)  dX8_init_193 ?_
  refine zr_newJ (pc := 194)  rfl (by decide) ka_long (by decide) (by decide) dX8_init_194 ?_
  refine zr_put (pc := 196)  _ (fp_X8_82 rfl rfl) (by first | assumption | rfl | (repeat (first | assumption | exact zup_s | refine zup_g (by decide) ?_))) (Nat.le_of_ble_eq_true rfl) rfl rfl rfl dX8_init_196 ?_
  refine zr_aload_n (pc := 199)  (i := 0) rfl rfl dX8_init_199 ?_
  refine zr_bipush (pc := 200)  (by decide) dX8_init_200 ?_
  refine zr_newJ (pc := 202)  rfl (by decide) ka_long (by decide) (by decide) dX8_init_202 ?_
  refine zr_put (pc := 204)  _ (fp_X8_85 rfl rfl) (by first | assumption | rfl | (repeat (first | assumption | exact zup_s | refine zup_g (by decide) ?_))) (Nat.le_of_ble_eq_true rfl) rfl rfl rfl dX8_init_204 ?_
  refine zr_aload_n (pc := 207)  (i := 0) rfl rfl dX8_init_207 ?_
  refine zr_bipush (pc := 208)  (by decide) dX8_init_208 ?_
  refine zr_newZ (pc := 210)  rfl (by decide) ka_boolean (by decide) (by decide) dX8_init_210 ?_
  refine zr_put (pc := 212)  _ (fp_X8_88 rfl rfl) (by first | assumption | rfl | (repeat (first | assumption | exact zup_s | refine zup_g (by decide) ?_))) (Nat.le_of_ble_eq_true rfl) rfl rfl rfl dX8_init_212 ?_
  refine zr_vreturn (pc := 215)  rfl (by decide) (by decide) dX8_init_215 ?_
  exact k _ ⟨⟨0, 0, 0, 0, 0, 0, rfl⟩, ⟨z0, ⟨rfl, rfl, rfl, rfl, rfl, rfl, rfl, rfl, rfl, rfl, rfl⟩, fun e a b => absurd b (by omega)⟩, ⟨⟨z0, z0, ⟨rfl, rfl⟩, fun _ => Or.inl rfl⟩, ⟨z0, z0, rfl, rfl⟩, ⟨z0, z0, z0, rfl, rfl, rfl⟩, ⟨z0, z0, rfl, rfl⟩, z0, z0, z0, z0, z0, z0, rfl, rfl, rfl, rfl, rfl, rfl, fun _ => Or.inl rfl⟩, fun e => by show (0 : Int) ≤ 0 ∧ (0 : Int) < 1344; omega⟩ (fun j hj => by (repeat rw [zup_n (by omega)]))
end INI
