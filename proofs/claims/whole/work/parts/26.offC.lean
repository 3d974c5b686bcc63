theorem hT_hT {h : zH} {a c : Int} {b d : Int → Int} : hT (hT h a b) c d = hT h c d := by
  rw [show hT (hT h a b) c d = zup (zup (hT h a b) 2 (aI 200 d)) 1 (oTape c) from rfl, hT_set2, hT_set1]
theorem hT_of1 {h : zH} {a : Int} {g : Int → Int} (h2 : h 2 = some (aI 200 g)) : zup h 1 (oTape a) = hT h a g := by unfold hT; rw [zup_self h2]
theorem appG_R {z : Int} : ∀ (k : Nat) (g : Int → Int) (len : Int), (∀ i, 0 ≤ g i ∧ g i ≤ 255) → ∀ i, 0 ≤ appG z k g len i ∧ appG z k g len i ≤ 255
  | 0, g, len, h, i => h i
  | k + 1, g, len, h, i => appG_R k _ _ (fun j => by
      unfold uZ
      split
      · exact byteZ_R z k
      · exact h j) i
theorem sumZ_uZ {g : Int → Int} {i v : Int} : ∀ k : Nat, (0 ≤ i ∧ i < k → sumZ (uZ g i v) k = sumZ g k + v - g i) ∧ (¬ (0 ≤ i ∧ i < k) → sumZ (uZ g i v) k = sumZ g k)
  | 0 => ⟨fun q => by omega, fun _ => rfl⟩
  | k + 1 => by
    have h := sumZ_uZ (g := g) (i := i) (v := v) k
    refine ⟨fun q => ?_, fun q => ?_⟩
    · show sumZ (uZ g i v) k + uZ g i v k = sumZ g k + g k + v - g i
      by_cases e : i = k
      · rw [h.2 (by omega), e, uZ_s]; omega
      · rw [h.1 (by omega), uZ_n (by omega)]; omega
    · show sumZ (uZ g i v) k + uZ g i v k = sumZ g k + g k
      rw [h.2 (by omega), uZ_n (by omega)]
section OFF
variable {G : zG} {n : Nat} {h : zH} {Post : Option Value → Nat → zH → Prop} {now len num : Int} {tb rk rs rg gr bt bc bk be bn ap pl : Int → Int} {N : Nat}
theorem oK.tape {len2 : Int} {tb2 : Int → Int} (hK : oK h now len tb rk rs rg gr num N bt bc bk be bn ap pl) (hl : 0 ≤ len2 ∧ len2 ≤ 200) (ht : ∀ i, 0 ≤ tb2 i ∧ tb2 i ≤ 255) : oK (hT h len2 tb2) now len2 tb2 rk rs rg gr num N bt bc bk be bn ap pl := by
  obtain ⟨⟨g0, g1, g2, g3, g4, g5, g6, g7, g8, g9, g10, g11, g12, g13, g14⟩, ⟨i1, i2, i3, i4⟩, ⟨g16, ssz, fnd, tm, wk, mo, to, po, wp, sd, sc, pr, sq, fl, db, yu, yl, ⟨v1, v2, v3, v4, v5, v6, v7, v8, v9, v10, v11, v12, v13⟩, hv⟩, ⟨g30, ⟨dv, T, ex, pu, b1, b2, b3, b4, b5, b6, b7⟩, u, l, g37⟩⟩ := hK
  exact ⟨⟨g0, rfl, rfl, g3, g4, g5, g6, g7, g8, g9, g10, g11, g12, g13, g14⟩, ⟨i1, hl, ht, i4⟩, ⟨g16, ssz, fnd, tm, wk, mo, to, po, wp, sd, sc, pr, sq, fl, db, yu, yl, ⟨v1, v2, v3, v4, v5, v6, v7, v8, v9, v10, v11, v12, v13⟩, hv⟩, ⟨g30, ⟨dv, T, ex, pu, b1, b2, b3, b4, b5, b6, b7⟩, u, l, g37⟩⟩
theorem oK.setNow {now2 : Int} (hK : oK h now len tb rk rs rg gr num N bt bc bk be bn ap pl) (hn : 0 ≤ now2 ∧ now2 ≤ 99) : oK (zup h 0 (oOff now2)) now2 len tb rk rs rg gr num N bt bc bk be bn ap pl := by
  obtain ⟨⟨g0, g1, g2, g3, g4, g5, g6, g7, g8, g9, g10, g11, g12, g13, g14⟩, ⟨i1, i2⟩, ⟨g16, ssz, fnd, tm, wk, mo, to, po, wp, sd, sc, pr, sq, fl, db, yu, yl, ⟨v1, v2, v3, v4, v5, v6, v7, v8, v9, v10, v11, v12, v13⟩, hv⟩, ⟨g30, ⟨dv, T, ex, pu, b1, b2, b3, b4, b5, b6, b7⟩, u, l, g37⟩⟩ := hK
  exact ⟨⟨rfl, g1, g2, g3, g4, g5, g6, g7, g8, g9, g10, g11, g12, g13, g14⟩, ⟨hn, i2⟩, ⟨g16, ssz, fnd, tm, wk, mo, to, po, wp, sd, sc, pr, sq, fl, db, yu, yl, ⟨v1, v2, v3, v4, v5, v6, v7, v8, v9, v10, v11, v12, v13⟩, hv⟩, ⟨g30, ⟨dv, T, ex, pu, b1, b2, b3, b4, b5, b6, b7⟩, u, l, g37⟩⟩
theorem hT_hi {len2 : Int} {tb2 : Int → Int} {j : Nat} (hj : 2 < j) : hT h len2 tb2 j = h j := by unfold hT; rw [zup_n (by omega), zup_n (by omega)]
theorem k_X7_feed {a b c d e : Int} (hK : oK h now len tb rk rs rg gr num N bt bc bk be bn ap pl) (ha : iR a) (hb : iR b) (hc : iR c) (hd : iR d) (he : iR e) (k1 : len + 20 ≤ 200 → ∀ h', oK h' now (len + 20) (appG e 4 (appG d 4 (appG c 4 (appG b 4 (appG a 4 tb len) (len + 4)) (len + 4 + 4)) (len + 4 + 4 + 4)) (len + 4 + 4 + 4 + 4)) rk rs rg gr num N bt bc bk be bn ap pl → (∀ j, 37 < j → h' j = h j) → Post (some (vi (len + 20))) n h') (k0 : ¬ len + 20 ≤ 200 → Post (some (vi (-1))) n h) : zMP G mX7_feed [.ref 0, vi a, vi b, vi c, vi d, vi e] n h Post := by
  have hK' := hK
  obtain ⟨⟨g0, g1, g2, -⟩, ⟨-, i2, i3, -⟩, -, -⟩ := hK'
  refine zMP_of (by decide) [some _, some _, some _, some _, some _, some _] (Nat.le_of_ble_eq_true rfl) rfl ?_
  refine zr_aload_n (pc := 0)  (i := 0) rfl rfl dX7_feed_0 ?_
  refine zr_get (pc := 1)  fl_X7_12 (by first | assumption | rfl | (repeat (first | assumption | exact zup_s | refine zup_g (by decide) ?_))) rfl dX7_feed_1 ?_
  refine zv_call0 (pc := 4)  cv_X7_feed_57 (by first | assumption | rfl | (repeat (first | assumption | exact zup_s | refine zup_g (by decide) ?_))) ⟨_, rfl, rfl⟩ (Nat.le_of_ble_eq_true rfl) (by decide) dX7_feed_4 ?_
  refine k_X5_length (by first | assumption | omega | (refine ⟨?_, ?_⟩ <;> omega) | rfl | (repeat (first | assumption | exact zup_s | refine zup_g (by decide) ?_))) ?_
  dsimp only [Option.toList, List.cons_append, List.nil_append]
  refine zr_bipush (pc := 7)  (by decide) dX7_feed_7 ?_
  refine zr_iadd (pc := 9)  dX7_feed_9 ?_
  refine zr_sipush (pc := 10)  (by decide) dX7_feed_10 ?_
  refine zr_icmp_le (pc := 13)  (tgt := 18) ⟨by omega, by omega⟩ ⟨by omega, by omega⟩ (by decide) dX7_feed_13 (fun q13 => ?_) (fun q13 => ?_)
  · refine zr_aload_n (pc := 18)  (i := 0) rfl rfl dX7_feed_18 ?_
    refine zr_get (pc := 19)  fl_X7_12 (by first | assumption | rfl | (repeat (first | assumption | exact zup_s | refine zup_g (by decide) ?_))) rfl dX7_feed_19 ?_
    refine zr_iload_n (pc := 22)  (i := 1) rfl rfl dX7_feed_22 ?_
    refine zv_call1 (pc := 23)  cv_X7_feed_61 (by first | assumption | rfl | (repeat (first | assumption | exact zup_s | refine zup_g (by decide) ?_))) ⟨_, rfl, rfl⟩ (Nat.le_of_ble_eq_true rfl) (by decide) dX7_feed_23 ?_
    refine k_X5_append g1 g2 ha (by omega) ?_
    dsimp only [Option.toList, List.cons_append, List.nil_append]
    refine zr_aload_n (pc := 26)  (i := 0) rfl rfl dX7_feed_26 ?_
    refine zr_get (pc := 27)  fl_X7_12 (by first | assumption | rfl | (repeat (first | assumption | exact zup_s | refine zup_g (by decide) ?_))) rfl dX7_feed_27 ?_
    refine zr_iload_n (pc := 30)  (i := 2) rfl rfl dX7_feed_30 ?_
    refine zv_call1 (pc := 31)  cv_X7_feed_61 (by first | assumption | rfl | (repeat (first | assumption | exact zup_s | refine zup_g (by decide) ?_))) ⟨_, rfl, rfl⟩ (Nat.le_of_ble_eq_true rfl) (by decide) dX7_feed_31 ?_
    refine k_X5_append rfl rfl hb (by omega) ?_
    rw [hT_hT]
    dsimp only [Option.toList, List.cons_append, List.nil_append]
    refine zr_aload_n (pc := 34)  (i := 0) rfl rfl dX7_feed_34 ?_
    refine zr_get (pc := 35)  fl_X7_12 (by first | assumption | rfl | (repeat (first | assumption | exact zup_s | refine zup_g (by decide) ?_))) rfl dX7_feed_35 ?_
    refine zr_iload_n (pc := 38)  (i := 3) rfl rfl dX7_feed_38 ?_
    refine zv_call1 (pc := 39)  cv_X7_feed_61 (by first | assumption | rfl | (repeat (first | assumption | exact zup_s | refine zup_g (by decide) ?_))) ⟨_, rfl, rfl⟩ (Nat.le_of_ble_eq_true rfl) (by decide) dX7_feed_39 ?_
    refine k_X5_append rfl rfl hc (by omega) ?_
    rw [hT_hT]
    dsimp only [Option.toList, List.cons_append, List.nil_append]
    refine zr_aload_n (pc := 42)  (i := 0) rfl rfl dX7_feed_42 ?_
    refine zr_get (pc := 43)  fl_X7_12 (by first | assumption | rfl | (repeat (first | assumption | exact zup_s | refine zup_g (by decide) ?_))) rfl dX7_feed_43 ?_
    refine zr_iload (pc := 46)  rfl dX7_feed_46 ?_
    refine zv_call1 (pc := 48)  cv_X7_feed_61 (by first | assumption | rfl | (repeat (first | assumption | exact zup_s | refine zup_g (by decide) ?_))) ⟨_, rfl, rfl⟩ (Nat.le_of_ble_eq_true rfl) (by decide) dX7_feed_48 ?_
    refine k_X5_append rfl rfl hd (by omega) ?_
    rw [hT_hT]
    dsimp only [Option.toList, List.cons_append, List.nil_append]
    refine zr_aload_n (pc := 51)  (i := 0) rfl rfl dX7_feed_51 ?_
    refine zr_get (pc := 52)  fl_X7_12 (by first | assumption | rfl | (repeat (first | assumption | exact zup_s | refine zup_g (by decide) ?_))) rfl dX7_feed_52 ?_
    refine zr_iload (pc := 55)  rfl dX7_feed_55 ?_
    refine zv_call1 (pc := 57)  cv_X7_feed_61 (by first | assumption | rfl | (repeat (first | assumption | exact zup_s | refine zup_g (by decide) ?_))) ⟨_, rfl, rfl⟩ (Nat.le_of_ble_eq_true rfl) (by decide) dX7_feed_57 ?_
    refine k_X5_append rfl rfl he (by omega) ?_
    rw [hT_hT]
    dsimp only [Option.toList, List.cons_append, List.nil_append]
    refine zr_aload_n (pc := 60)  (i := 0) rfl rfl dX7_feed_60 ?_
    refine zr_get (pc := 61)  fl_X7_12 (by first | assumption | rfl | (repeat (first | assumption | exact zup_s | refine zup_g (by decide) ?_))) rfl dX7_feed_61 ?_
    refine zv_call0 (pc := 64)  cv_X7_feed_57 (by first | assumption | rfl | (repeat (first | assumption | exact zup_s | refine zup_g (by decide) ?_))) ⟨_, rfl, rfl⟩ (Nat.le_of_ble_eq_true rfl) (by decide) dX7_feed_64 ?_
    refine k_X5_length (by first | assumption | omega | (refine ⟨?_, ?_⟩ <;> omega) | rfl | (repeat (first | assumption | exact zup_s | refine zup_g (by decide) ?_))) ?_
    dsimp only [Option.toList, List.cons_append, List.nil_append]
    refine zr_ireturn (pc := 67)  rfl (by decide) (by decide) dX7_feed_67 ?_
    have e20 : len + 4 + 4 + 4 + 4 + 4 = len + 20 := by omega
    rw [e20]
    exact k1 (by omega) _ (hK.tape (by omega) (appG_R 4 _ _ (appG_R 4 _ _ (appG_R 4 _ _ (appG_R 4 _ _ (appG_R 4 _ _ i3)))))) (fun j hj => hT_hi (by omega))
  · refine zr_iconst (pc := 16)  dX7_feed_16 ?_
    refine zr_ireturn (pc := 17)  rfl (by decide) (by decide) dX7_feed_17 ?_
    exact k0 (by omega)
theorem k_X7_end {z : Int} (hK : oK h now len tb rk rs rg gr num N bt bc bk be bn ap pl) (hz : iR z) (k1 : 0 ≤ z ∧ z ≤ len → ∀ h', oK h' now z tb rk rs rg gr num N bt bc bk be bn ap pl → (∀ j, 37 < j → h' j = h j) → Post (some (vi 1)) n h') (k0 : ¬ (0 ≤ z ∧ z ≤ len) → Post (some (vi 0)) n h) : zMP G mX7_end [.ref 0, vi z] n h Post := by
  have hK' := hK
  obtain ⟨⟨g0, g1, g2, -⟩, ⟨-, i2, i3, -⟩, -, -⟩ := hK'
  refine zMP_of (by decide) [some _, some _] (Nat.le_of_ble_eq_true rfl) rfl ?_
  refine zr_aload_n (pc := 0)  (i := 0) rfl rfl dX7_end_0 ?_
  refine zr_get (pc := 1)  fl_X7_12 (by first | assumption | rfl | (repeat (first | assumption | exact zup_s | refine zup_g (by decide) ?_))) rfl dX7_end_1 ?_
  refine zr_iload_n (pc := 4)  (i := 1) rfl rfl dX7_end_4 ?_
  refine zv_call1 (pc := 5)  cv_X7_end_65 (by first | assumption | rfl | (repeat (first | assumption | exact zup_s | refine zup_g (by decide) ?_))) ⟨_, rfl, rfl⟩ (Nat.le_of_ble_eq_true rfl) (by decide) dX7_end_5 ?_
  refine k_X5_cut (by first | assumption | omega | (refine ⟨?_, ?_⟩ <;> omega) | rfl | (repeat (first | assumption | exact zup_s | refine zup_g (by decide) ?_))) (by first | assumption | omega | (refine ⟨?_, ?_⟩ <;> omega) | rfl | (repeat (first | assumption | exact zup_s | refine zup_g (by decide) ?_))) (by first | assumption | omega | (refine ⟨?_, ?_⟩ <;> omega) | rfl | (repeat (first | assumption | exact zup_s | refine zup_g (by decide) ?_))) (fun c5 => ?_) (fun c5 => ?_)
  · dsimp only [Option.toList, List.cons_append, List.nil_append]
    refine zr_zreturn (pc := 8)  rfl (by omega) (by decide) (by decide) dX7_end_8 ?_
    first | (rw [hT_of1 g2]; exact k1 (by omega) _ (hK.tape (by omega) i3) (fun j hj => hT_hi (by omega))) | exact k0 (by omega)
  · dsimp only [Option.toList, List.cons_append, List.nil_append]
    refine zr_zreturn (pc := 8)  rfl (by omega) (by decide) (by decide) dX7_end_8 ?_
    first | (rw [hT_of1 g2]; exact k1 (by omega) _ (hK.tape (by omega) i3) (fun j hj => hT_hi (by omega))) | exact k0 (by omega)
theorem k_X7_later (hK : oK h now len tb rk rs rg gr num N bt bc bk be bn ap pl) (k1 : now < 99 → ∀ h', oK h' (now + 1) len tb rk rs rg gr num N bt bc bk be bn ap pl → (∀ j, 37 < j → h' j = h j) → Post (some (vi (now + 1))) n h') (k0 : ¬ now < 99 → Post (some (vi (-1))) n h) : zMP G mX7_later [.ref 0] n h Post := by
  have hK' := hK
  obtain ⟨⟨g0, -⟩, ⟨i1, -⟩, -, -⟩ := hK'
  refine zMP_of (by decide) [some _] (Nat.le_of_ble_eq_true rfl) rfl ?_
  refine zr_aload_n (pc := 0)  (i := 0) rfl rfl dX7_later_0 ?_
  refine zr_get (pc := 1)  fl_X7_53 (by first | assumption | rfl | (repeat (first | assumption | exact zup_s | refine zup_g (by decide) ?_))) rfl dX7_later_1 ?_
  refine zr_bipush (pc := 4)  (by decide) dX7_later_4 ?_
  refine zr_icmp_lt (pc := 6)  (tgt := 11) ⟨by omega, by omega⟩ ⟨by omega, by omega⟩ (by decide) dX7_later_6 (fun q6 => ?_) (fun q6 => ?_)
  · refine zr_aload_n (pc := 11)  (i := 0) rfl rfl dX7_later_11 ?_
    refine zr_dup (pc := 12)  rfl dX7_later_12 ?_
    refine zr_get (pc := 13)  fl_X7_53 (by first | assumption | rfl | (repeat (first | assumption | exact zup_s | refine zup_g (by decide) ?_))) rfl dX7_later_13 ?_
    refine zr_iconst (pc := 16)  dX7_later_16 ?_
    refine zr_iadd (pc := 17)  dX7_later_17 ?_
    refine zr_put (pc := 18)  (oOff _) (fp_X7_53 rfl) (by first | assumption | rfl | (repeat (first | assumption | exact zup_s | refine zup_g (by decide) ?_))) (Nat.le_of_ble_eq_true rfl) rfl rfl rfl dX7_later_18 ?_
    refine zr_aload_n (pc := 21)  (i := 0) rfl rfl dX7_later_21 ?_
    refine zr_get (pc := 22)  fl_X7_53 (by first | assumption | rfl | (repeat (first | assumption | exact zup_s | refine zup_g (by decide) ?_))) rfl dX7_later_22 ?_
    refine zr_ireturn (pc := 25)  rfl (by decide) (by decide) dX7_later_25 ?_
    exact k1 (by omega) _ (hK.setNow (by omega)) (fun j hj => zup_n (by omega))
  · refine zr_iconst (pc := 9)  dX7_later_9 ?_
    refine zr_ireturn (pc := 10)  rfl (by decide) (by decide) dX7_later_10 ?_
    exact k0 (by omega)
theorem k_X7_told {w : Int} (hK : oK h now len tb rk rs rg gr num N bt bc bk be bn ap pl) (hw : iR w) (k0 : w = 0 → Post (some (vi num)) n h) (k1 : w = 1 → Post (some (vi N)) n h) (k2 : w = 2 → Post (some (vi now)) n h) (k3 : w = 3 → Post (some (vi len)) n h) (kn : w < 0 ∨ 3 < w → Post (some (vi (-1))) n h) : zMP G mX7_told [.ref 0, vi w] n h Post := by
  have hK' := hK
  obtain ⟨⟨g0, g1, g2, g3, g4, g5, g6, g7, g8, -⟩, -, -, -⟩ := hK'
  refine zMP_of (by decide) [some _, some _] (Nat.le_of_ble_eq_true rfl) rfl ?_
  refine zr_iload_n (pc := 0)  (i := 1) rfl rfl dX7_told_0 ?_
  rcases (show w = 0 ∨ w = 1 ∨ w = 2 ∨ w = 3 ∨ (w < 0 ∨ 3 < w) by omega) with q | q | q | q | q
  · refine zr_tblIn (pc := 1) (tgt := 32) hw (by omega) (by omega) (by rw [q]; rfl) (by decide) dX7_told_1 ?_
    refine zr_aload_n (pc := 32)  (i := 0) rfl rfl dX7_told_32 ?_
    refine zr_get (pc := 33)  fl_X7_19 (by first | assumption | rfl | (repeat (first | assumption | exact zup_s | refine zup_g (by decide) ?_))) rfl dX7_told_33 ?_
    refine zv_call0 (pc := 36)  cv_X7_told_184 (by first | assumption | rfl | (repeat (first | assumption | exact zup_s | refine zup_g (by decide) ?_))) ⟨_, rfl, rfl⟩ (Nat.le_of_ble_eq_true rfl) (by decide) dX7_told_36 ?_
    refine k_X3_number (by first | assumption | omega | (refine ⟨?_, ?_⟩ <;> omega) | rfl | (repeat (first | assumption | exact zup_s | refine zup_g (by decide) ?_))) ?_
    dsimp only [Option.toList, List.cons_append, List.nil_append]
    refine zr_ireturn (pc := 39)  rfl (by decide) (by decide) dX7_told_39 ?_
    exact k0 q
  · refine zr_tblIn (pc := 1) (tgt := 40) hw (by omega) (by omega) (by rw [q]; rfl) (by decide) dX7_told_1 ?_
    refine zr_aload_n (pc := 40)  (i := 0) rfl rfl dX7_told_40 ?_
    refine zr_get (pc := 41)  fl_X7_26 (by first | assumption | rfl | (repeat (first | assumption | exact zup_s | refine zup_g (by decide) ?_))) rfl dX7_told_41 ?_
    refine zv_call0 (pc := 44)  cv_X7_told_187 (by first | assumption | rfl | (repeat (first | assumption | exact zup_s | refine zup_g (by decide) ?_))) ⟨_, rfl, rfl⟩ (Nat.le_of_ble_eq_true rfl) (by decide) dX7_told_44 ?_
    refine k_X1_number (by first | assumption | omega | (refine ⟨?_, ?_⟩ <;> omega) | rfl | (repeat (first | assumption | exact zup_s | refine zup_g (by decide) ?_))) ?_
    dsimp only [Option.toList, List.cons_append, List.nil_append]
    refine zr_ireturn (pc := 47)  rfl (by decide) (by decide) dX7_told_47 ?_
    exact k1 q
  · refine zr_tblIn (pc := 1) (tgt := 48) hw (by omega) (by omega) (by rw [q]; rfl) (by decide) dX7_told_1 ?_
    refine zr_aload_n (pc := 48)  (i := 0) rfl rfl dX7_told_48 ?_
    refine zr_get (pc := 49)  fl_X7_53 (by first | assumption | rfl | (repeat (first | assumption | exact zup_s | refine zup_g (by decide) ?_))) rfl dX7_told_49 ?_
    refine zr_ireturn (pc := 52)  rfl (by decide) (by decide) dX7_told_52 ?_
    exact k2 q
  · refine zr_tblIn (pc := 1) (tgt := 53) hw (by omega) (by omega) (by rw [q]; rfl) (by decide) dX7_told_1 ?_
    refine zr_aload_n (pc := 53)  (i := 0) rfl rfl dX7_told_53 ?_
    refine zr_get (pc := 54)  fl_X7_12 (by first | assumption | rfl | (repeat (first | assumption | exact zup_s | refine zup_g (by decide) ?_))) rfl dX7_told_54 ?_
    refine zv_call0 (pc := 57)  cv_X7_told_57 (by first | assumption | rfl | (repeat (first | assumption | exact zup_s | refine zup_g (by decide) ?_))) ⟨_, rfl, rfl⟩ (Nat.le_of_ble_eq_true rfl) (by decide) dX7_told_57 ?_
    refine k_X5_length (by first | assumption | omega | (refine ⟨?_, ?_⟩ <;> omega) | rfl | (repeat (first | assumption | exact zup_s | refine zup_g (by decide) ?_))) ?_
    dsimp only [Option.toList, List.cons_append, List.nil_append]
    refine zr_ireturn (pc := 60)  rfl (by decide) (by decide) dX7_told_60 ?_
    exact k3 q
  · refine zr_tblOut (pc := 1) (tgt := 61) hw q (by decide) dX7_told_1 ?_
    refine zr_iconst (pc := 61)  dX7_told_61 ?_
    refine zr_ireturn (pc := 62)  rfl (by decide) (by decide) dX7_told_62 ?_
    exact kn q
theorem vwI_0 {S : Int → Int → Int} {fnd : Int} {wk mo to po wp fl db : Int → Int} (h1 : fnd = 0 ∨ fnd = 1) (h2 : ∀ i, wp i = 0 ∨ wp i = 1) : vwI S rk gr fnd (-1) wk mo to po wp fl db := ⟨⟨by decide, by decide⟩, h1, h2, fun q => absurd rfl q⟩
theorem k_X7_road {r a b c : Int} (hK : oK h now len tb rk rs rg gr num N bt bc bk be bn ap pl) (hr : iR r) (ha : iR a) (hb : iR b) (hc : iR c) (k1 : ((0 ≤ r ∧ r < 16) ∧ rk r = 0) ∧ ((0 ≤ a ∧ a < 8) ∧ (0 ≤ b ∧ b < 8) ∧ a ≠ b) ∧ (-1 ≤ c ∧ c < 4) → ∀ h', oK h' now len tb (uZ rk r 1) (uZ rs r a) (uZ rg r b) (uZ gr r c) (num + 1) N bt bc bk be bn ap pl → (∀ j, 37 < j → h' j = h j) → Post (some (vi 1)) n h') (k0 : ¬ (((0 ≤ r ∧ r < 16) ∧ rk r = 0) ∧ ((0 ≤ a ∧ a < 8) ∧ (0 ≤ b ∧ b < 8) ∧ a ≠ b) ∧ (-1 ≤ c ∧ c < 4)) → Post (some (vi 0)) n h) : zMP G mX7_road [.ref 0, vi r, vi a, vi b, vi c] n h Post := by
  have hK' := hK
  obtain ⟨⟨g0, g1, g2, g3, g4, g5, g6, g7, g8, g9, g10, g11, g12, g13, g14⟩, ⟨i1, i2, i3, i4, i5, i6, i7, i8, i9, i10⟩, ⟨g16, ssz, fnd, tm, wk, mo, to, po, wp, sd, sc, pr, sq, fl, db, yu, yl, ⟨v1, v2, v3, v4, v5, v6, v7, v8, v9, v10, v11, v12, v13⟩, ⟨w1, w2, w3, -⟩⟩, ⟨g30, ⟨dv, T, ex, pu, b1, b2, b3, b4, b5, b6, b7⟩, u, l, g37⟩⟩ := hK'
  have hkr := i4 r
  have bd : ∀ {g : Int → Int} {lo hi v : Int}, (∀ i, lo ≤ g i ∧ g i < hi) → (lo ≤ v ∧ v < hi) → ∀ i, lo ≤ uZ g r v i ∧ uZ g r v i < hi := fun hg hv i => by
    unfold uZ; split
    · exact hv
    · exact hg i
  refine zMP_of (by decide) [some _, some _, some _, some _, some _] (Nat.le_of_ble_eq_true rfl) rfl ?_
  refine zr_iload_n (pc := 0)  (i := 1) rfl rfl dX7_road_0 ?_
  refine zr_bipush (pc := 1)  (by decide) dX7_road_1 ?_
  refine zc_call2 (pc := 3)  cs_X7_road_69 (Nat.le_of_ble_eq_true rfl) (by decide) dX7_road_3 ?_
  refine k_X7_isBelow (by first | assumption | omega | (refine ⟨?_, ?_⟩ <;> omega) | rfl | (repeat (first | assumption | exact zup_s | refine zup_g (by decide) ?_))) (by first | assumption | omega | (refine ⟨?_, ?_⟩ <;> omega) | rfl | (repeat (first | assumption | exact zup_s | refine zup_g (by decide) ?_))) ?_
  dsimp only [Option.toList, List.cons_append, List.nil_append]
  refine zb_eq (pc := 6) (tgt := 20) (by decide) dX7_road_6 (fun q6 => ?_) (fun q6 => ?_)
  · refine zr_iconst (pc := 20)  dX7_road_20 ?_
    refine zr_zreturn (pc := 21)  rfl (by omega) (by decide) (by decide) dX7_road_21 ?_
    exact k0 (by omega)
  · refine zr_aload_n (pc := 9)  (i := 0) rfl rfl dX7_road_9 ?_
    refine zr_get (pc := 10)  fl_X7_19 (by first | assumption | rfl | (repeat (first | assumption | exact zup_s | refine zup_g (by decide) ?_))) rfl dX7_road_10 ?_
    refine zr_iload_n (pc := 13)  (i := 1) rfl rfl dX7_road_13 ?_
    refine zv_call1 (pc := 14)  cv_X7_road_73 (by first | assumption | rfl | (repeat (first | assumption | exact zup_s | refine zup_g (by decide) ?_))) ⟨_, rfl, rfl⟩ (Nat.le_of_ble_eq_true rfl) (by decide) dX7_road_14 ?_
    refine k_X3_has (by first | assumption | omega | (refine ⟨?_, ?_⟩ <;> omega) | rfl | (repeat (first | assumption | exact zup_s | refine zup_g (by decide) ?_))) (by first | assumption | omega | (refine ⟨?_, ?_⟩ <;> omega) | rfl | (repeat (first | assumption | exact zup_s | refine zup_g (by decide) ?_))) (by first | assumption | omega | (refine ⟨?_, ?_⟩ <;> omega) | rfl | (repeat (first | assumption | exact zup_s | refine zup_g (by decide) ?_))) (by first | assumption | omega | (refine ⟨?_, ?_⟩ <;> omega) | rfl | (repeat (first | assumption | exact zup_s | refine zup_g (by decide) ?_))) ?_
    dsimp only [Option.toList, List.cons_append, List.nil_append]
    refine zb_eq (pc := 17) (tgt := 22) (by decide) dX7_road_17 (fun q17 => ?_) (fun q17 => ?_)
    · refine zr_iload_n (pc := 22)  (i := 2) rfl rfl dX7_road_22 ?_
      refine zr_bipush (pc := 23)  (by decide) dX7_road_23 ?_
      refine zc_call2 (pc := 25)  cs_X7_road_69 (Nat.le_of_ble_eq_true rfl) (by decide) dX7_road_25 ?_
      refine k_X7_isBelow (by first | assumption | omega | (refine ⟨?_, ?_⟩ <;> omega) | rfl | (repeat (first | assumption | exact zup_s | refine zup_g (by decide) ?_))) (by first | assumption | omega | (refine ⟨?_, ?_⟩ <;> omega) | rfl | (repeat (first | assumption | exact zup_s | refine zup_g (by decide) ?_))) ?_
      dsimp only [Option.toList, List.cons_append, List.nil_append]
      refine zb_eq (pc := 28) (tgt := 45) (by decide) dX7_road_28 (fun q28 => ?_) (fun q28 => ?_)
      · refine zr_iconst (pc := 45)  dX7_road_45 ?_
        refine zr_zreturn (pc := 46)  rfl (by omega) (by decide) (by decide) dX7_road_46 ?_
        exact k0 (by omega)
      · refine zr_iload_n (pc := 31)  (i := 3) rfl rfl dX7_road_31 ?_
        refine zr_bipush (pc := 32)  (by decide) dX7_road_32 ?_
        refine zc_call2 (pc := 34)  cs_X7_road_69 (Nat.le_of_ble_eq_true rfl) (by decide) dX7_road_34 ?_
        refine k_X7_isBelow (by first | assumption | omega | (refine ⟨?_, ?_⟩ <;> omega) | rfl | (repeat (first | assumption | exact zup_s | refine zup_g (by decide) ?_))) (by first | assumption | omega | (refine ⟨?_, ?_⟩ <;> omega) | rfl | (repeat (first | assumption | exact zup_s | refine zup_g (by decide) ?_))) ?_
        dsimp only [Option.toList, List.cons_append, List.nil_append]
        refine zb_eq (pc := 37) (tgt := 45) (by decide) dX7_road_37 (fun q37 => ?_) (fun q37 => ?_)
        · refine zr_iconst (pc := 45)  dX7_road_45 ?_
          refine zr_zreturn (pc := 46)  rfl (by omega) (by decide) (by decide) dX7_road_46 ?_
          exact k0 (by omega)
        · refine zr_iload_n (pc := 40)  (i := 2) rfl rfl dX7_road_40 ?_
          refine zr_iload_n (pc := 41)  (i := 3) rfl rfl dX7_road_41 ?_
          refine zr_icmp_ne (pc := 42)  (tgt := 47) ⟨by omega, by omega⟩ ⟨by omega, by omega⟩ (by decide) dX7_road_42 (fun q42 => ?_) (fun q42 => ?_)
          · refine zr_iload (pc := 47)  rfl dX7_road_47 ?_
            refine zr_iconst (pc := 49)  dX7_road_49 ?_
            refine zr_icmp_eq (pc := 50)  (tgt := 64) ⟨by omega, by omega⟩ ⟨by omega, by omega⟩ (by decide) dX7_road_50 (fun q50 => ?_) (fun q50 => ?_)
            · refine zr_aload_n (pc := 64)  (i := 0) rfl rfl dX7_road_64 ?_
              refine zr_get (pc := 65)  fl_X7_19 (by first | assumption | rfl | (repeat (first | assumption | exact zup_s | refine zup_g (by decide) ?_))) rfl dX7_road_65 ?_
              refine zr_iload_n (pc := 68)  (i := 1) rfl rfl dX7_road_68 ?_
              refine zr_iload_n (pc := 69)  (i := 2) rfl rfl dX7_road_69 ?_
              refine zr_iload_n (pc := 70)  (i := 3) rfl rfl dX7_road_70 ?_
              refine zr_iload (pc := 71)  rfl dX7_road_71 ?_
              refine zv_call4 (pc := 73)  cv_X7_road_76 (by first | assumption | rfl | (repeat (first | assumption | exact zup_s | refine zup_g (by decide) ?_))) ⟨_, rfl, rfl⟩ (Nat.le_of_ble_eq_true rfl) (by decide) dX7_road_73 ?_
              refine k_X3_add (by first | assumption | omega | (refine ⟨?_, ?_⟩ <;> omega) | rfl | (repeat (first | assumption | exact zup_s | refine zup_g (by decide) ?_))) (by first | assumption | omega | (refine ⟨?_, ?_⟩ <;> omega) | rfl | (repeat (first | assumption | exact zup_s | refine zup_g (by decide) ?_))) (by first | assumption | omega | (refine ⟨?_, ?_⟩ <;> omega) | rfl | (repeat (first | assumption | exact zup_s | refine zup_g (by decide) ?_))) (by first | assumption | omega | (refine ⟨?_, ?_⟩ <;> omega) | rfl | (repeat (first | assumption | exact zup_s | refine zup_g (by decide) ?_))) (by first | assumption | omega | (refine ⟨?_, ?_⟩ <;> omega) | rfl | (repeat (first | assumption | exact zup_s | refine zup_g (by decide) ?_))) (by first | assumption | omega | (refine ⟨?_, ?_⟩ <;> omega) | rfl | (repeat (first | assumption | exact zup_s | refine zup_g (by decide) ?_))) ?_
              dsimp only [Option.toList, List.cons_append, List.nil_append]
              refine zr_aload_n (pc := 76)  (i := 0) rfl rfl dX7_road_76 ?_
              refine zr_get (pc := 77)  fl_X7_35 (by first | assumption | rfl | (repeat (first | assumption | exact zup_s | refine zup_g (by decide) ?_))) rfl dX7_road_77 ?_
              refine zv_call0 (pc := 80)  cv_X7_road_80 (by first | assumption | rfl | (repeat (first | assumption | exact zup_s | refine zup_g (by decide) ?_))) ⟨_, rfl, rfl⟩ (Nat.le_of_ble_eq_true rfl) (by decide) dX7_road_80 ?_
              refine k_X6_forget (by first | assumption | omega | (refine ⟨?_, ?_⟩ <;> omega) | rfl | (repeat (first | assumption | exact zup_s | refine zup_g (by decide) ?_))) ?_
              dsimp only [Option.toList, List.cons_append, List.nil_append]
              refine zr_iconst (pc := 83)  dX7_road_83 ?_
              refine zr_zreturn (pc := 84)  rfl (by omega) (by decide) (by decide) dX7_road_84 ?_
              refine k1 (by omega) _ ⟨⟨g0, g1, g2, rfl, rfl, rfl, rfl, rfl, g8, g9, g10, g11, g12, g13, g14⟩, ⟨i1, i2, i3, fun i => ?_, bd i5 (by omega), bd i6 (by omega), bd i7 (by omega), fun i => ?_, ?_, i10⟩, ⟨g16, ssz, fnd, -1, wk, mo, to, po, wp, sd, sc, pr, sq, fl, db, yu, yl, ⟨rfl, v2, v3, v4, v5, v6, v7, v8, v9, v10, v11, v12, v13⟩, vwI_0 w2 w3⟩, ⟨g30, ⟨dv, T, ex, pu, b1, b2, b3, b4, b5, b6, b7⟩, u, l, g37⟩⟩ (fun j hj => by rw [zup_n (by omega), zup_n (by omega), zup_n (by omega), zup_n (by omega), zup_n (by omega), zup_n (by omega)])
              (unfold uZ; split; exact Or.inr rfl; exact i4 i)
              (unfold uZ; split; (intro _; omega); exact i8 i)
              (rw [((sumZ_uZ (g := rk) (i := r) (v := 1) 16).1 (by omega)), i9]; omega)
            · refine zr_iload (pc := 53)  rfl dX7_road_53 ?_
              refine zr_iconst (pc := 55)  dX7_road_55 ?_
              refine zc_call2 (pc := 56)  cs_X7_road_69 (Nat.le_of_ble_eq_true rfl) (by decide) dX7_road_56 ?_
              refine k_X7_isBelow (by first | assumption | omega | (refine ⟨?_, ?_⟩ <;> omega) | rfl | (repeat (first | assumption | exact zup_s | refine zup_g (by decide) ?_))) (by first | assumption | omega | (refine ⟨?_, ?_⟩ <;> omega) | rfl | (repeat (first | assumption | exact zup_s | refine zup_g (by decide) ?_))) ?_
              dsimp only [Option.toList, List.cons_append, List.nil_append]
              refine zb_ne (pc := 59) (tgt := 64) (by decide) dX7_road_59 (fun q59 => ?_) (fun q59 => ?_)
              · refine zr_aload_n (pc := 64)  (i := 0) rfl rfl dX7_road_64 ?_
                refine zr_get (pc := 65)  fl_X7_19 (by first | assumption | rfl | (repeat (first | assumption | exact zup_s | refine zup_g (by decide) ?_))) rfl dX7_road_65 ?_
                refine zr_iload_n (pc := 68)  (i := 1) rfl rfl dX7_road_68 ?_
                refine zr_iload_n (pc := 69)  (i := 2) rfl rfl dX7_road_69 ?_
                refine zr_iload_n (pc := 70)  (i := 3) rfl rfl dX7_road_70 ?_
                refine zr_iload (pc := 71)  rfl dX7_road_71 ?_
                refine zv_call4 (pc := 73)  cv_X7_road_76 (by first | assumption | rfl | (repeat (first | assumption | exact zup_s | refine zup_g (by decide) ?_))) ⟨_, rfl, rfl⟩ (Nat.le_of_ble_eq_true rfl) (by decide) dX7_road_73 ?_
                refine k_X3_add (by first | assumption | omega | (refine ⟨?_, ?_⟩ <;> omega) | rfl | (repeat (first | assumption | exact zup_s | refine zup_g (by decide) ?_))) (by first | assumption | omega | (refine ⟨?_, ?_⟩ <;> omega) | rfl | (repeat (first | assumption | exact zup_s | refine zup_g (by decide) ?_))) (by first | assumption | omega | (refine ⟨?_, ?_⟩ <;> omega) | rfl | (repeat (first | assumption | exact zup_s | refine zup_g (by decide) ?_))) (by first | assumption | omega | (refine ⟨?_, ?_⟩ <;> omega) | rfl | (repeat (first | assumption | exact zup_s | refine zup_g (by decide) ?_))) (by first | assumption | omega | (refine ⟨?_, ?_⟩ <;> omega) | rfl | (repeat (first | assumption | exact zup_s | refine zup_g (by decide) ?_))) (by first | assumption | omega | (refine ⟨?_, ?_⟩ <;> omega) | rfl | (repeat (first | assumption | exact zup_s | refine zup_g (by decide) ?_))) ?_
                dsimp only [Option.toList, List.cons_append, List.nil_append]
                refine zr_aload_n (pc := 76)  (i := 0) rfl rfl dX7_road_76 ?_
                refine zr_get (pc := 77)  fl_X7_35 (by first | assumption | rfl | (repeat (first | assumption | exact zup_s | refine zup_g (by decide) ?_))) rfl dX7_road_77 ?_
                refine zv_call0 (pc := 80)  cv_X7_road_80 (by first | assumption | rfl | (repeat (first | assumption | exact zup_s | refine zup_g (by decide) ?_))) ⟨_, rfl, rfl⟩ (Nat.le_of_ble_eq_true rfl) (by decide) dX7_road_80 ?_
                refine k_X6_forget (by first | assumption | omega | (refine ⟨?_, ?_⟩ <;> omega) | rfl | (repeat (first | assumption | exact zup_s | refine zup_g (by decide) ?_))) ?_
                dsimp only [Option.toList, List.cons_append, List.nil_append]
                refine zr_iconst (pc := 83)  dX7_road_83 ?_
                refine zr_zreturn (pc := 84)  rfl (by omega) (by decide) (by decide) dX7_road_84 ?_
                refine k1 (by omega) _ ⟨⟨g0, g1, g2, rfl, rfl, rfl, rfl, rfl, g8, g9, g10, g11, g12, g13, g14⟩, ⟨i1, i2, i3, fun i => ?_, bd i5 (by omega), bd i6 (by omega), bd i7 (by omega), fun i => ?_, ?_, i10⟩, ⟨g16, ssz, fnd, -1, wk, mo, to, po, wp, sd, sc, pr, sq, fl, db, yu, yl, ⟨rfl, v2, v3, v4, v5, v6, v7, v8, v9, v10, v11, v12, v13⟩, vwI_0 w2 w3⟩, ⟨g30, ⟨dv, T, ex, pu, b1, b2, b3, b4, b5, b6, b7⟩, u, l, g37⟩⟩ (fun j hj => by rw [zup_n (by omega), zup_n (by omega), zup_n (by omega), zup_n (by omega), zup_n (by omega), zup_n (by omega)])
                (unfold uZ; split; exact Or.inr rfl; exact i4 i)
                (unfold uZ; split; (intro _; omega); exact i8 i)
                (rw [((sumZ_uZ (g := rk) (i := r) (v := 1) 16).1 (by omega)), i9]; omega)
              · refine zr_iconst (pc := 62)  dX7_road_62 ?_
                refine zr_zreturn (pc := 63)  rfl (by omega) (by decide) (by decide) dX7_road_63 ?_
                exact k0 (by omega)
          · refine zr_iconst (pc := 45)  dX7_road_45 ?_
            refine zr_zreturn (pc := 46)  rfl (by omega) (by decide) (by decide) dX7_road_46 ?_
            exact k0 (by omega)
    · refine zr_iconst (pc := 20)  dX7_road_20 ?_
      refine zr_zreturn (pc := 21)  rfl (by omega) (by decide) (by decide) dX7_road_21 ?_
      exact k0 (by omega)
end OFF
