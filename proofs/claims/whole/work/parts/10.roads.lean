theorem k_X3_add {G : zG} {n : Nat} {h : zH} {Post : Option Value → Nat → zH → Prop} {num r a b c : Int} {rk rs rg gr : Int → Int} (h3 : h 3 = some (oRoads num)) (h4 : h 4 = some (aZ 16 rk)) (h5 : h 5 = some (aI 16 rs)) (h6 : h 6 = some (aI 16 rg)) (h7 : h 7 = some (aI 16 gr)) (hr : 0 ≤ r ∧ r < 16) (k : Post none n (zup (zup (zup (zup (zup h 4 (aZ 16 (uZ rk r 1))) 5 (aI 16 (uZ rs r a))) 6 (aI 16 (uZ rg r b))) 7 (aI 16 (uZ gr r c))) 3 (oRoads (num + 1)))) : zMP G mX3_add [.ref 3, vi r, vi a, vi b, vi c] n h Post := by
  refine zMP_of (by decide) [some _, some _, some _, some _, some _] (Nat.le_of_ble_eq_true rfl) rfl ?_
  refine zr_aload_n (pc := 0)  (i := 0) rfl rfl dX3_add_0 ?_
  refine zr_get (pc := 1)  fl_X3_9 (by first | assumption | rfl | (repeat (first | assumption | exact zup_s | refine zup_g (by decide) ?_))) rfl dX3_add_1 ?_
  refine zr_iload_n (pc := 4)  (i := 1) rfl rfl dX3_add_4 ?_
  refine zr_iconst (pc := 5)  dX3_add_5 ?_
  refine zr_zast (pc := 6)  (by first | assumption | rfl | (repeat (first | assumption | exact zup_s | refine zup_g (by decide) ?_))) ⟨by omega, by omega⟩ (by decide) (by omega) dX3_add_6 ?_
  refine zr_aload_n (pc := 7)  (i := 0) rfl rfl dX3_add_7 ?_
  refine zr_get (pc := 8)  fl_X3_15 (by first | assumption | rfl | (repeat (first | assumption | exact zup_s | refine zup_g (by decide) ?_))) rfl dX3_add_8 ?_
  refine zr_iload_n (pc := 11)  (i := 1) rfl rfl dX3_add_11 ?_
  refine zr_iload_n (pc := 12)  (i := 2) rfl rfl dX3_add_12 ?_
  refine zr_iast (pc := 13)  (by first | assumption | rfl | (repeat (first | assumption | exact zup_s | refine zup_g (by decide) ?_))) ⟨by omega, by omega⟩ (by decide) dX3_add_13 ?_
  refine zr_aload_n (pc := 14)  (i := 0) rfl rfl dX3_add_14 ?_
  refine zr_get (pc := 15)  fl_X3_19 (by first | assumption | rfl | (repeat (first | assumption | exact zup_s | refine zup_g (by decide) ?_))) rfl dX3_add_15 ?_
  refine zr_iload_n (pc := 18)  (i := 1) rfl rfl dX3_add_18 ?_
  refine zr_iload_n (pc := 19)  (i := 3) rfl rfl dX3_add_19 ?_
  refine zr_iast (pc := 20)  (by first | assumption | rfl | (repeat (first | assumption | exact zup_s | refine zup_g (by decide) ?_))) ⟨by omega, by omega⟩ (by decide) dX3_add_20 ?_
  refine zr_aload_n (pc := 21)  (i := 0) rfl rfl dX3_add_21 ?_
  refine zr_get (pc := 22)  fl_X3_22 (by first | assumption | rfl | (repeat (first | assumption | exact zup_s | refine zup_g (by decide) ?_))) rfl dX3_add_22 ?_
  refine zr_iload_n (pc := 25)  (i := 1) rfl rfl dX3_add_25 ?_
  refine zr_iload (pc := 26)  rfl dX3_add_26 ?_
  refine zr_iast (pc := 28)  (by first | assumption | rfl | (repeat (first | assumption | exact zup_s | refine zup_g (by decide) ?_))) ⟨by omega, by omega⟩ (by decide) dX3_add_28 ?_
  refine zr_aload_n (pc := 29)  (i := 0) rfl rfl dX3_add_29 ?_
  refine zr_dup (pc := 30)  rfl dX3_add_30 ?_
  refine zr_get (pc := 31)  fl_X3_25 (by first | assumption | rfl | (repeat (first | assumption | exact zup_s | refine zup_g (by decide) ?_))) rfl dX3_add_31 ?_
  refine zr_iconst (pc := 34)  dX3_add_34 ?_
  refine zr_iadd (pc := 35)  dX3_add_35 ?_
  refine zr_put (pc := 36)  (oRoads _) (fp_X3_25 rfl) (by first | assumption | rfl | (repeat (first | assumption | exact zup_s | refine zup_g (by decide) ?_))) (Nat.le_of_ble_eq_true rfl) rfl rfl rfl dX3_add_36 ?_
  refine zr_vreturn (pc := 39)  rfl (by decide) (by decide) dX3_add_39 ?_
  exact k
theorem k_X3_has {G : zG} {n : Nat} {h : zH} {Post : Option Value → Nat → zH → Prop} {num r : Int} {rk : Int → Int} (h3 : h 3 = some (oRoads num)) (h4 : h 4 = some (aZ 16 rk)) (hk : ∀ i, rk i = 0 ∨ rk i = 1) (hr : iR r) (k : Post (some (vb ((0 ≤ r ∧ r < 16) ∧ rk r = 1))) n h) : zMP G mX3_has [.ref 3, vi r] n h Post := by
  have hk1 := hk r
  refine zMP_of (by decide) [some _, some _] (Nat.le_of_ble_eq_true rfl) rfl ?_
  refine zr_iload_n (pc := 0)  (i := 1) rfl rfl dX3_has_0 ?_
  refine zr_bipush (pc := 1)  (by decide) dX3_has_1 ?_
  refine zn_call2 (pc := 3)  cn_X3_has_29 (Nat.le_of_ble_eq_true rfl) (by decide) dX3_has_3 ?_
  refine k_X7_isBelow (by first | assumption | omega | (refine ⟨?_, ?_⟩ <;> omega) | rfl | (repeat (first | assumption | exact zup_s | refine zup_g (by decide) ?_))) (by first | assumption | omega | (refine ⟨?_, ?_⟩ <;> omega) | rfl | (repeat (first | assumption | exact zup_s | refine zup_g (by decide) ?_))) ?_
  dsimp only [Option.toList, List.cons_append, List.nil_append]
  refine zb_eq (pc := 6) (tgt := 22) (by decide) dX3_has_6 (fun q6 => ?_) (fun q6 => ?_)
  · refine zr_iconst (pc := 22)  dX3_has_22 ?_
    refine zr_zreturn (pc := 23)  rfl (by omega) (by decide) (by decide) dX3_has_23 ?_
    first | exact zb_t (by omega) k | exact zb_f (by omega) k
  · refine zr_aload_n (pc := 9)  (i := 0) rfl rfl dX3_has_9 ?_
    refine zr_get (pc := 10)  fl_X3_9 (by first | assumption | rfl | (repeat (first | assumption | exact zup_s | refine zup_g (by decide) ?_))) rfl dX3_has_10 ?_
    refine zr_iload_n (pc := 13)  (i := 1) rfl rfl dX3_has_13 ?_
    refine zr_zald (pc := 14)  (by first | assumption | rfl | (repeat (first | assumption | exact zup_s | refine zup_g (by decide) ?_))) ⟨by omega, by omega⟩ (by decide) dX3_has_14 ?_
    refine zr_if_eq (pc := 15)  (tgt := 22) ⟨by omega, by omega⟩ (by decide) dX3_has_15 (fun q15 => ?_) (fun q15 => ?_)
    · refine zr_iconst (pc := 22)  dX3_has_22 ?_
      refine zr_zreturn (pc := 23)  rfl (by omega) (by decide) (by decide) dX3_has_23 ?_
      first | exact zb_t (by omega) k | exact zb_f (by omega) k
    · refine zr_iconst (pc := 18)  dX3_has_18 ?_
      refine zr_goto (pc := 19)  (tgt := 23) (by decide) dX3_has_19 ?_
      refine zr_zreturn (pc := 23)  rfl (by omega) (by decide) (by decide) dX3_has_23 ?_
      first | exact zb_t (by omega) k | exact zb_f (by omega) k
theorem k_X3_isPost {G : zG} {n : Nat} {h : zH} {Post : Option Value → Nat → zH → Prop} {num r : Int} {rk gr : Int → Int} (h3 : h 3 = some (oRoads num)) (h4 : h 4 = some (aZ 16 rk)) (h7 : h 7 = some (aI 16 gr)) (hk : ∀ i, rk i = 0 ∨ rk i = 1) (hg : ∀ i, -1 ≤ gr i ∧ gr i < 4) (hr : iR r) (k : Post (some (vb (((0 ≤ r ∧ r < 16) ∧ rk r = 1) ∧ gr r ≠ -1))) n h) : zMP G mX3_isPost [.ref 3, vi r] n h Post := by
  have hg1 := hg r
  refine zMP_of (by decide) [some _, some _] (Nat.le_of_ble_eq_true rfl) rfl ?_
  refine zr_aload_n (pc := 0)  (i := 0) rfl rfl dX3_isPost_0 ?_
  refine zr_iload_n (pc := 1)  (i := 1) rfl rfl dX3_isPost_1 ?_
  refine zv_call1 (pc := 2)  cv_X3_isPost_33 (by first | assumption | rfl | (repeat (first | assumption | exact zup_s | refine zup_g (by decide) ?_))) ⟨_, rfl, rfl⟩ (Nat.le_of_ble_eq_true rfl) (by decide) dX3_isPost_2 ?_
  refine k_X3_has (by first | assumption | omega | (refine ⟨?_, ?_⟩ <;> omega) | rfl | (repeat (first | assumption | exact zup_s | refine zup_g (by decide) ?_))) (by first | assumption | omega | (refine ⟨?_, ?_⟩ <;> omega) | rfl | (repeat (first | assumption | exact zup_s | refine zup_g (by decide) ?_))) (by first | assumption | omega | (refine ⟨?_, ?_⟩ <;> omega) | rfl | (repeat (first | assumption | exact zup_s | refine zup_g (by decide) ?_))) (by first | assumption | omega | (refine ⟨?_, ?_⟩ <;> omega) | rfl | (repeat (first | assumption | exact zup_s | refine zup_g (by decide) ?_))) ?_
  dsimp only [Option.toList, List.cons_append, List.nil_append]
  refine zb_eq (pc := 5) (tgt := 22) (by decide) dX3_isPost_5 (fun q5 => ?_) (fun q5 => ?_)
  · refine zr_iconst (pc := 22)  dX3_isPost_22 ?_
    refine zr_zreturn (pc := 23)  rfl (by omega) (by decide) (by decide) dX3_isPost_23 ?_
    first | exact zb_t (by omega) k | exact zb_f (by omega) k
  · refine zr_aload_n (pc := 8)  (i := 0) rfl rfl dX3_isPost_8 ?_
    refine zr_get (pc := 9)  fl_X3_22 (by first | assumption | rfl | (repeat (first | assumption | exact zup_s | refine zup_g (by decide) ?_))) rfl dX3_isPost_9 ?_
    refine zr_iload_n (pc := 12)  (i := 1) rfl rfl dX3_isPost_12 ?_
    refine zr_iald (pc := 13)  (by first | assumption | rfl | (repeat (first | assumption | exact zup_s | refine zup_g (by decide) ?_))) ⟨by omega, by omega⟩ (by decide) dX3_isPost_13 ?_
    refine zr_iconst (pc := 14)  dX3_isPost_14 ?_
    refine zr_icmp_eq (pc := 15)  (tgt := 22) ⟨by omega, by omega⟩ ⟨by omega, by omega⟩ (by decide) dX3_isPost_15 (fun q15 => ?_) (fun q15 => ?_)
    · refine zr_iconst (pc := 22)  dX3_isPost_22 ?_
      refine zr_zreturn (pc := 23)  rfl (by omega) (by decide) (by decide) dX3_isPost_23 ?_
      first | exact zb_t (by omega) k | exact zb_f (by omega) k
    · refine zr_iconst (pc := 18)  dX3_isPost_18 ?_
      refine zr_goto (pc := 19)  (tgt := 23) (by decide) dX3_isPost_19 ?_
      refine zr_zreturn (pc := 23)  rfl (by omega) (by decide) (by decide) dX3_isPost_23 ?_
      first | exact zb_t (by omega) k | exact zb_f (by omega) k
theorem k_X3_start {G : zG} {n : Nat} {h : zH} {Post : Option Value → Nat → zH → Prop} {num r : Int} {rs : Int → Int} (h3 : h 3 = some (oRoads num)) (h5 : h 5 = some (aI 16 rs)) (hr : 0 ≤ r ∧ r < 16) (k : Post (some (vi (rs r))) n h) : zMP G mX3_start [.ref 3, vi r] n h Post := by
  refine zMP_of (by decide) [some _, some _] (Nat.le_of_ble_eq_true rfl) rfl ?_
  refine zr_aload_n (pc := 0)  (i := 0) rfl rfl dX3_start_0 ?_
  refine zr_get (pc := 1)  fl_X3_15 (by first | assumption | rfl | (repeat (first | assumption | exact zup_s | refine zup_g (by decide) ?_))) rfl dX3_start_1 ?_
  refine zr_iload_n (pc := 4)  (i := 1) rfl rfl dX3_start_4 ?_
  refine zr_iald (pc := 5)  (by first | assumption | rfl | (repeat (first | assumption | exact zup_s | refine zup_g (by decide) ?_))) ⟨by omega, by omega⟩ (by decide) dX3_start_5 ?_
  refine zr_ireturn (pc := 6)  rfl (by decide) (by decide) dX3_start_6 ?_
  exact k
theorem k_X3_goal {G : zG} {n : Nat} {h : zH} {Post : Option Value → Nat → zH → Prop} {num r : Int} {rg : Int → Int} (h3 : h 3 = some (oRoads num)) (h6 : h 6 = some (aI 16 rg)) (hr : 0 ≤ r ∧ r < 16) (k : Post (some (vi (rg r))) n h) : zMP G mX3_goal [.ref 3, vi r] n h Post := by
  refine zMP_of (by decide) [some _, some _] (Nat.le_of_ble_eq_true rfl) rfl ?_
  refine zr_aload_n (pc := 0)  (i := 0) rfl rfl dX3_goal_0 ?_
  refine zr_get (pc := 1)  fl_X3_19 (by first | assumption | rfl | (repeat (first | assumption | exact zup_s | refine zup_g (by decide) ?_))) rfl dX3_goal_1 ?_
  refine zr_iload_n (pc := 4)  (i := 1) rfl rfl dX3_goal_4 ?_
  refine zr_iald (pc := 5)  (by first | assumption | rfl | (repeat (first | assumption | exact zup_s | refine zup_g (by decide) ?_))) ⟨by omega, by omega⟩ (by decide) dX3_goal_5 ?_
  refine zr_ireturn (pc := 6)  rfl (by decide) (by decide) dX3_goal_6 ?_
  exact k
theorem k_X3_group {G : zG} {n : Nat} {h : zH} {Post : Option Value → Nat → zH → Prop} {num r : Int} {gr : Int → Int} (h3 : h 3 = some (oRoads num)) (h7 : h 7 = some (aI 16 gr)) (hr : 0 ≤ r ∧ r < 16) (k : Post (some (vi (gr r))) n h) : zMP G mX3_group [.ref 3, vi r] n h Post := by
  refine zMP_of (by decide) [some _, some _] (Nat.le_of_ble_eq_true rfl) rfl ?_
  refine zr_aload_n (pc := 0)  (i := 0) rfl rfl dX3_group_0 ?_
  refine zr_get (pc := 1)  fl_X3_22 (by first | assumption | rfl | (repeat (first | assumption | exact zup_s | refine zup_g (by decide) ?_))) rfl dX3_group_1 ?_
  refine zr_iload_n (pc := 4)  (i := 1) rfl rfl dX3_group_4 ?_
  refine zr_iald (pc := 5)  (by first | assumption | rfl | (repeat (first | assumption | exact zup_s | refine zup_g (by decide) ?_))) ⟨by omega, by omega⟩ (by decide) dX3_group_5 ?_
  refine zr_ireturn (pc := 6)  rfl (by decide) (by decide) dX3_group_6 ?_
  exact k
theorem k_X3_number {G : zG} {n : Nat} {h : zH} {Post : Option Value → Nat → zH → Prop} {num : Int} (h3 : h 3 = some (oRoads num)) (k : Post (some (vi num)) n h) : zMP G mX3_number [.ref 3] n h Post := by
  refine zMP_of (by decide) [some _] (Nat.le_of_ble_eq_true rfl) rfl ?_
  refine zr_aload_n (pc := 0)  (i := 0) rfl rfl dX3_number_0 ?_
  refine zr_get (pc := 1)  fl_X3_25 (by first | assumption | rfl | (repeat (first | assumption | exact zup_s | refine zup_g (by decide) ?_))) rfl dX3_number_1 ?_
  refine zr_ireturn (pc := 4)  rfl (by decide) (by decide) dX3_number_4 ?_
  exact k
