theorem stO_8 {h : zH} {t : Int} {s : Int → Int} (hO : stO h t s) : ∃ N : Nat, h 8 = some (oBooks N) := by
  obtain ⟨N, bt, bc, be, bn, ap, pl, g, -⟩ := hO
  exact ⟨N, g.1⟩
/-! View: the small ones -/
theorem k_X6_forget {G : zG} {n : Nat} {h : zH} {Post : Option Value → Nat → zH → Prop} {ssz fnd tm : Int} (h15 : h 15 = some (oView ssz fnd tm)) (k : Post none n (zup h 15 (oView ssz fnd (-1)))) : zMP G mX6_forget [.ref 15] n h Post := by
  refine zMP_of (by decide) [some _] (Nat.le_of_ble_eq_true rfl) rfl ?_
  refine zr_aload_n (pc := 0)  (i := 0) rfl rfl dX6_forget_0 ?_
  refine zr_iconst (pc := 1)  dX6_forget_1 ?_
  refine zr_put (pc := 2)  (oView _ _ _) (fp_X6_65 rfl) (by first | assumption | rfl | (repeat (first | assumption | exact zup_s | refine zup_g (by decide) ?_))) (Nat.le_of_ble_eq_true rfl) rfl rfl rfl dX6_forget_2 ?_
  refine zr_vreturn (pc := 5)  rfl (by decide) (by decide) dX6_forget_5 ?_
  exact k
theorem k_X6_isWholePost {G : zG} {n : Nat} {h : zH} {Post : Option Value → Nat → zH → Prop} {ssz fnd tm r : Int} {wp : Int → Int} (h15 : h 15 = some (oView ssz fnd tm)) (h21 : h 21 = some (aZ 16 wp)) (hw : ∀ i, wp i = 0 ∨ wp i = 1) (hr : 0 ≤ r ∧ r < 16) (k : Post (some (vb (wp r = 1))) n h) : zMP G mX6_isWholePost [.ref 15, vi r] n h Post := by
  have hw1 := hw r
  have k : Post (some (vi (wp r))) n h := by
    rcases hw1 with q | q
    · rw [q]; exact zb_f (by omega) k
    · rw [q]; exact zb_t q k
  refine zMP_of (by decide) [some _, some _] (Nat.le_of_ble_eq_true rfl) rfl ?_
  refine zr_aload_n (pc := 0)  (i := 0) rfl rfl dX6_isWholePost_0 ?_
  refine zr_get (pc := 1)  fl_X6_26 (by first | assumption | rfl | (repeat (first | assumption | exact zup_s | refine zup_g (by decide) ?_))) rfl dX6_isWholePost_1 ?_
  refine zr_iload_n (pc := 4)  (i := 1) rfl rfl dX6_isWholePost_4 ?_
  refine zr_zald (pc := 5)  (by first | assumption | rfl | (repeat (first | assumption | exact zup_s | refine zup_g (by decide) ?_))) ⟨by omega, by omega⟩ (by decide) dX6_isWholePost_5 ?_
  refine zr_zreturn (pc := 6)  rfl (by omega) (by decide) (by decide) dX6_isWholePost_6 ?_
  exact k
theorem k_X6_isThere {G : zG} {n : Nat} {h : zH} {Post : Option Value → Nat → zH → Prop} {ssz fnd tm g : Int} {to po : Int → Int} (h15 : h 15 = some (oView ssz fnd tm)) (h16 : h 16 = some oTal) (h19 : h 19 = some (aI 5 to)) (h20 : h 20 = some (aI 5 po)) (hg : 0 ≤ g ∧ g < 5) (hr : iR (po g)) (hr2 : iR (to g)) (k : Post (some (vb (0 < po g ∧ to g ≠ 0))) n h) : zMP G mX6_isThere [.ref 15, vi g] n h Post := by
  refine zMP_of (by decide) [some _, some _] (Nat.le_of_ble_eq_true rfl) rfl ?_
  refine zr_aload_n (pc := 0)  (i := 0) rfl rfl dX6_isThere_0 ?_
  refine zr_get (pc := 1)  fl_X6_22 (by first | assumption | rfl | (repeat (first | assumption | exact zup_s | refine zup_g (by decide) ?_))) rfl dX6_isThere_1 ?_
  refine zr_iload_n (pc := 4)  (i := 1) rfl rfl dX6_isThere_4 ?_
  refine zv_call1 (pc := 5)  cv_X6_isThere_81 (by first | assumption | rfl | (repeat (first | assumption | exact zup_s | refine zup_g (by decide) ?_))) ⟨_, rfl, rfl⟩ (Nat.le_of_ble_eq_true rfl) (by decide) dX6_isThere_5 ?_
  refine k_X4_isThere (by first | assumption | omega | (refine ⟨?_, ?_⟩ <;> omega) | rfl | (repeat (first | assumption | exact zup_s | refine zup_g (by decide) ?_))) (by first | assumption | omega | (refine ⟨?_, ?_⟩ <;> omega) | rfl | (repeat (first | assumption | exact zup_s | refine zup_g (by decide) ?_))) (by first | assumption | omega | (refine ⟨?_, ?_⟩ <;> omega) | rfl | (repeat (first | assumption | exact zup_s | refine zup_g (by decide) ?_))) (by first | assumption | omega | (refine ⟨?_, ?_⟩ <;> omega) | rfl | (repeat (first | assumption | exact zup_s | refine zup_g (by decide) ?_))) (by first | assumption | omega | (refine ⟨?_, ?_⟩ <;> omega) | rfl | (repeat (first | assumption | exact zup_s | refine zup_g (by decide) ?_))) (by first | assumption | omega | (refine ⟨?_, ?_⟩ <;> omega) | rfl | (repeat (first | assumption | exact zup_s | refine zup_g (by decide) ?_))) ?_
  dsimp only [Option.toList, List.cons_append, List.nil_append]
  refine zb_return (pc := 8)  rfl (by decide) (by decide) dX6_isThere_8 ?_
  exact k
theorem k_X6_postsOf {G : zG} {n : Nat} {h : zH} {Post : Option Value → Nat → zH → Prop} {ssz fnd tm g : Int} {po : Int → Int} (h15 : h 15 = some (oView ssz fnd tm)) (h16 : h 16 = some oTal) (h20 : h 20 = some (aI 5 po)) (hg : 0 ≤ g ∧ g < 5) (k : Post (some (vi (po g))) n h) : zMP G mX6_postsOf [.ref 15, vi g] n h Post := by
  refine zMP_of (by decide) [some _, some _] (Nat.le_of_ble_eq_true rfl) rfl ?_
  refine zr_aload_n (pc := 0)  (i := 0) rfl rfl dX6_postsOf_0 ?_
  refine zr_get (pc := 1)  fl_X6_22 (by first | assumption | rfl | (repeat (first | assumption | exact zup_s | refine zup_g (by decide) ?_))) rfl dX6_postsOf_1 ?_
  refine zr_iload_n (pc := 4)  (i := 1) rfl rfl dX6_postsOf_4 ?_
  refine zv_call1 (pc := 5)  cv_X6_postsOf_84 (by first | assumption | rfl | (repeat (first | assumption | exact zup_s | refine zup_g (by decide) ?_))) ⟨_, rfl, rfl⟩ (Nat.le_of_ble_eq_true rfl) (by decide) dX6_postsOf_5 ?_
  refine k_X4_numberOfPosts (by first | assumption | omega | (refine ⟨?_, ?_⟩ <;> omega) | rfl | (repeat (first | assumption | exact zup_s | refine zup_g (by decide) ?_))) (by first | assumption | omega | (refine ⟨?_, ?_⟩ <;> omega) | rfl | (repeat (first | assumption | exact zup_s | refine zup_g (by decide) ?_))) (by first | assumption | omega | (refine ⟨?_, ?_⟩ <;> omega) | rfl | (repeat (first | assumption | exact zup_s | refine zup_g (by decide) ?_))) ?_
  dsimp only [Option.toList, List.cons_append, List.nil_append]
  refine zr_ireturn (pc := 8)  rfl (by decide) (by decide) dX6_postsOf_8 ?_
  exact k
theorem k_X6_dayValue {G : zG} {n : Nat} {h : zH} {Post : Option Value → Nat → zH → Prop} {ssz fnd tm g d : Int} {wk mo : Int → Int} (h15 : h 15 = some (oView ssz fnd tm)) (h16 : h 16 = some oTal) (h17 : h 17 = some (aI 35 wk)) (h18 : h 18 = some (aI 60 mo)) (hg : 0 ≤ g ∧ g < 5) (hd : 0 ≤ d ∧ d < 84) (k : Post (some (vi (wk (g * 7 + d % 7) * mo (g * 12 + d / 7)))) n h) : zMP G mX6_dayValue [.ref 15, vi g, vi d] n h Post := by
  refine zMP_of (by decide) [some _, some _, some _] (Nat.le_of_ble_eq_true rfl) rfl ?_
  refine zr_aload_n (pc := 0)  (i := 0) rfl rfl dX6_dayValue_0 ?_
  refine zr_get (pc := 1)  fl_X6_22 (by first | assumption | rfl | (repeat (first | assumption | exact zup_s | refine zup_g (by decide) ?_))) rfl dX6_dayValue_1 ?_
  refine zr_iload_n (pc := 4)  (i := 1) rfl rfl dX6_dayValue_4 ?_
  refine zr_iload_n (pc := 5)  (i := 2) rfl rfl dX6_dayValue_5 ?_
  refine zv_call2 (pc := 6)  cv_X6_dayValue_88 (by first | assumption | rfl | (repeat (first | assumption | exact zup_s | refine zup_g (by decide) ?_))) ⟨_, rfl, rfl⟩ (Nat.le_of_ble_eq_true rfl) (by decide) dX6_dayValue_6 ?_
  refine k_X4_value (by first | assumption | omega | (refine ⟨?_, ?_⟩ <;> omega) | rfl | (repeat (first | assumption | exact zup_s | refine zup_g (by decide) ?_))) (by first | assumption | omega | (refine ⟨?_, ?_⟩ <;> omega) | rfl | (repeat (first | assumption | exact zup_s | refine zup_g (by decide) ?_))) (by first | assumption | omega | (refine ⟨?_, ?_⟩ <;> omega) | rfl | (repeat (first | assumption | exact zup_s | refine zup_g (by decide) ?_))) (by first | assumption | omega | (refine ⟨?_, ?_⟩ <;> omega) | rfl | (repeat (first | assumption | exact zup_s | refine zup_g (by decide) ?_))) (by first | assumption | omega | (refine ⟨?_, ?_⟩ <;> omega) | rfl | (repeat (first | assumption | exact zup_s | refine zup_g (by decide) ?_))) ?_
  dsimp only [Option.toList, List.cons_append, List.nil_append]
  refine zr_ireturn (pc := 9)  rfl (by decide) (by decide) dX6_dayValue_9 ?_
  exact k
theorem k_X6_flowOf {G : zG} {n : Nat} {h : zH} {Post : Option Value → Nat → zH → Prop} {ssz fnd tm r : Int} {fl : Int → Int} (h15 : h 15 = some (oView ssz fnd tm)) (h26 : h 26 = some (aI 16 fl)) (hr : 0 ≤ r ∧ r < 16) (k : Post (some (vi (fl r))) n h) : zMP G mX6_flowOf [.ref 15, vi r] n h Post := by
  refine zMP_of (by decide) [some _, some _] (Nat.le_of_ble_eq_true rfl) rfl ?_
  refine zr_aload_n (pc := 0)  (i := 0) rfl rfl dX6_flowOf_0 ?_
  refine zr_get (pc := 1)  fl_X6_48 (by first | assumption | rfl | (repeat (first | assumption | exact zup_s | refine zup_g (by decide) ?_))) rfl dX6_flowOf_1 ?_
  refine zr_iload_n (pc := 4)  (i := 1) rfl rfl dX6_flowOf_4 ?_
  refine zr_iald (pc := 5)  (by first | assumption | rfl | (repeat (first | assumption | exact zup_s | refine zup_g (by decide) ?_))) ⟨by omega, by omega⟩ (by decide) dX6_flowOf_5 ?_
  refine zr_ireturn (pc := 6)  rfl (by decide) (by decide) dX6_flowOf_6 ?_
  exact k
theorem k_X6_doubtOf {G : zG} {n : Nat} {h : zH} {Post : Option Value → Nat → zH → Prop} {ssz fnd tm r : Int} {db : Int → Int} (h15 : h 15 = some (oView ssz fnd tm)) (h27 : h 27 = some (aI 16 db)) (hr : 0 ≤ r ∧ r < 16) (k : Post (some (vi (db r))) n h) : zMP G mX6_doubtOf [.ref 15, vi r] n h Post := by
  refine zMP_of (by decide) [some _, some _] (Nat.le_of_ble_eq_true rfl) rfl ?_
  refine zr_aload_n (pc := 0)  (i := 0) rfl rfl dX6_doubtOf_0 ?_
  refine zr_get (pc := 1)  fl_X6_51 (by first | assumption | rfl | (repeat (first | assumption | exact zup_s | refine zup_g (by decide) ?_))) rfl dX6_doubtOf_1 ?_
  refine zr_iload_n (pc := 4)  (i := 1) rfl rfl dX6_doubtOf_4 ?_
  refine zr_iald (pc := 5)  (by first | assumption | rfl | (repeat (first | assumption | exact zup_s | refine zup_g (by decide) ?_))) ⟨by omega, by omega⟩ (by decide) dX6_doubtOf_5 ?_
  refine zr_ireturn (pc := 6)  rfl (by decide) (by decide) dX6_doubtOf_6 ?_
  exact k
def limZ (wp : Int → Int) (r : Int) : Int := if wp r = 1 then 0 else 14
theorem k_X6_sampleLimit {G : zG} {n : Nat} {h : zH} {Post : Option Value → Nat → zH → Prop} {ssz fnd tm r : Int} {wp : Int → Int} (h15 : h 15 = some (oView ssz fnd tm)) (h21 : h 21 = some (aZ 16 wp)) (hw : ∀ i, wp i = 0 ∨ wp i = 1) (hr : 0 ≤ r ∧ r < 16) (k : Post (some (vi (limZ wp r))) n h) : zMP G mX6_sampleLimit [.ref 15, vi r] n h Post := by
  have hw1 := hw r
  unfold limZ at k
  refine zMP_of (by decide) [some _, some _] (Nat.le_of_ble_eq_true rfl) rfl ?_
  refine zr_aload_n (pc := 0)  (i := 0) rfl rfl dX6_sampleLimit_0 ?_
  refine zr_get (pc := 1)  fl_X6_26 (by first | assumption | rfl | (repeat (first | assumption | exact zup_s | refine zup_g (by decide) ?_))) rfl dX6_sampleLimit_1 ?_
  refine zr_iload_n (pc := 4)  (i := 1) rfl rfl dX6_sampleLimit_4 ?_
  refine zr_zald (pc := 5)  (by first | assumption | rfl | (repeat (first | assumption | exact zup_s | refine zup_g (by decide) ?_))) ⟨by omega, by omega⟩ (by decide) dX6_sampleLimit_5 ?_
  refine zr_if_eq (pc := 6)  (tgt := 13) ⟨by omega, by omega⟩ (by decide) dX6_sampleLimit_6 (fun q6 => ?_) (fun q6 => ?_)
  · refine zr_bipush (pc := 13)  (by decide) dX6_sampleLimit_13 ?_
    refine zr_ireturn (pc := 15)  rfl (by decide) (by decide) dX6_sampleLimit_15 ?_
    first | (rw [if_pos (by omega)] at k; exact k) | (rw [if_neg (by omega)] at k; exact k)
  · refine zr_iconst (pc := 9)  dX6_sampleLimit_9 ?_
    refine zr_goto (pc := 10)  (tgt := 15) (by decide) dX6_sampleLimit_10 ?_
    refine zr_ireturn (pc := 15)  rfl (by decide) (by decide) dX6_sampleLimit_15 ?_
    first | (rw [if_pos (by omega)] at k; exact k) | (rw [if_neg (by omega)] at k; exact k)
theorem k_X6_fits {G : zG} {n : Nat} {h : zH} {Post : Option Value → Nat → zH → Prop} {ssz fnd tm g : Int} {sq : Int → Int} (h15 : h 15 = some (oView ssz fnd tm)) (h25 : h 25 = some (aJ 5 sq)) (hg : 0 ≤ g ∧ g < 5) (hr : lR (sq g)) (k : Post (some (vb (0 < sq g))) n h) : zMP G mX6_fits [.ref 15, vi g] n h Post := by
  refine zMP_of (by decide) [some _, some _] (Nat.le_of_ble_eq_true rfl) rfl ?_
  refine zr_aload_n (pc := 0)  (i := 0) rfl rfl dX6_fits_0 ?_
  refine zr_get (pc := 1)  fl_X6_45 (by first | assumption | rfl | (repeat (first | assumption | exact zup_s | refine zup_g (by decide) ?_))) rfl dX6_fits_1 ?_
  refine zr_iload_n (pc := 4)  (i := 1) rfl rfl dX6_fits_4 ?_
  refine zr_lald (pc := 5)  (by first | assumption | rfl | (repeat (first | assumption | exact zup_s | refine zup_g (by decide) ?_))) ⟨by omega, by omega⟩ (by decide) dX6_fits_5 ?_
  refine zr_lconst (pc := 6)  (z := 0) (by decide) dX6_fits_6 ?_
  refine zr_lcmp_le (pc := 7)  (tgt := 15) ⟨by omega, by omega⟩ ⟨by omega, by omega⟩ (by decide) dX6_fits_7 dX6_fits_8 (fun q8 => ?_) (fun q8 => ?_)
  · refine zr_iconst (pc := 15)  dX6_fits_15 ?_
    refine zr_zreturn (pc := 16)  rfl (by omega) (by decide) (by decide) dX6_fits_16 ?_
    first | exact zb_t (by omega) k | exact zb_f (by omega) k
  · refine zr_iconst (pc := 11)  dX6_fits_11 ?_
    refine zr_goto (pc := 12)  (tgt := 16) (by decide) dX6_fits_12 ?_
    refine zr_zreturn (pc := 16)  rfl (by omega) (by decide) (by decide) dX6_fits_16 ?_
    first | exact zb_t (by omega) k | exact zb_f (by omega) k
theorem l_X6_isSeenAllTheYear {G : zG} {n : Nat} {h : zH} {Post : Option Value → Nat → zH → Prop} {ssz fnd tm r : Int} {s : Int → Int} (h15 : h 15 = some (oView ssz fnd tm)) (hO : stO h tm s) (hr : 0 ≤ r ∧ r < 16) (ht : iR tm) (kk : Post (some (vb (∀ d, 0 ≤ d → d < 84 → 0 ≤ s (r * 84 + d)))) n h) : ∀ (k : Nat) (i : Int), 84 - i ≤ k → 0 ≤ i → i ≤ 84 → (∀ j, 0 ≤ j → j < i → 0 ≤ s (r * 84 + j)) → zAW G mX6_isSeenAllTheYear zTT (zF G mX6_isSeenAllTheYear Post) 2 [some (.ref 15), some (vi r), some (vi i)] [] n h 0 0 := by
  obtain ⟨N0, h8⟩ := stO_8 hO
  intro k
  induction k with
  | zero =>
    intro i hk h0 hi hall
    refine zr_iload_n (pc := 2)  (i := 2) rfl rfl dX6_isSeenAllTheYear_2 ?_
    refine zr_bipush (pc := 3)  (by decide) dX6_isSeenAllTheYear_3 ?_
    refine zr_icmp_ge (pc := 5)  (tgt := 36) ⟨by omega, by omega⟩ ⟨by omega, by omega⟩ (by decide) dX6_isSeenAllTheYear_5 (fun q5 => ?_) (fun q5 => ?_)
    · refine zr_iconst (pc := 36)  dX6_isSeenAllTheYear_36 ?_
      refine zr_zreturn (pc := 37)  rfl (by omega) (by decide) (by decide) dX6_isSeenAllTheYear_37 ?_
      exact zb_t (fun j a b => hall j a (by omega)) kk
    · exact absurd q5 (by omega)
  | succ k ih =>
    intro i hk h0 hi hall
    have hsr := stO_R hO (r * 84 + i)
    refine zr_iload_n (pc := 2)  (i := 2) rfl rfl dX6_isSeenAllTheYear_2 ?_
    refine zr_bipush (pc := 3)  (by decide) dX6_isSeenAllTheYear_3 ?_
    refine zr_icmp_ge (pc := 5)  (tgt := 36) ⟨by omega, by omega⟩ ⟨by omega, by omega⟩ (by decide) dX6_isSeenAllTheYear_5 (fun q5 => ?_) (fun q5 => ?_)
    · refine zr_iconst (pc := 36)  dX6_isSeenAllTheYear_36 ?_
      refine zr_zreturn (pc := 37)  rfl (by omega) (by decide) (by decide) dX6_isSeenAllTheYear_37 ?_
      exact zb_t (fun j a b => hall j a (by omega)) kk
    · refine zr_aload_n (pc := 8)  (i := 0) rfl rfl dX6_isSeenAllTheYear_8 ?_
      refine zr_get (pc := 9)  fl_X6_15 (by first | assumption | rfl | (repeat (first | assumption | exact zup_s | refine zup_g (by decide) ?_))) rfl dX6_isSeenAllTheYear_9 ?_
      refine zr_iload_n (pc := 12)  (i := 1) rfl rfl dX6_isSeenAllTheYear_12 ?_
      refine zr_bipush (pc := 13)  (by decide) dX6_isSeenAllTheYear_13 ?_
      refine zr_imul (pc := 15)  dX6_isSeenAllTheYear_15 ?_
      refine zr_iload_n (pc := 16)  (i := 2) rfl rfl dX6_isSeenAllTheYear_16 ?_
      refine zr_iadd (pc := 17)  dX6_isSeenAllTheYear_17 ?_
      refine zr_aload_n (pc := 18)  (i := 0) rfl rfl dX6_isSeenAllTheYear_18 ?_
      refine zr_get (pc := 19)  fl_X6_65 (by first | assumption | rfl | (repeat (first | assumption | exact zup_s | refine zup_g (by decide) ?_))) rfl dX6_isSeenAllTheYear_19 ?_
      refine zv_call2 (pc := 22)  cv_X6_isSeenAllTheYear_144 (by first | assumption | rfl | (repeat (first | assumption | exact zup_s | refine zup_g (by decide) ?_))) ⟨_, rfl, rfl⟩ (Nat.le_of_ble_eq_true rfl) (by decide) dX6_isSeenAllTheYear_22 ?_
      refine k_state hO (by omega) ht ?_
      dsimp only [Option.toList, List.cons_append, List.nil_append]
      refine zr_if_ge (pc := 25)  (tgt := 30) ⟨by omega, by omega⟩ (by decide) dX6_isSeenAllTheYear_25 (fun q25 => ?_) (fun q25 => ?_)
      · refine zs_iinc_2 (pc := 30)  (by first | exact zn_i | exact zn_r | exact zn_0) (by decide) dX6_isSeenAllTheYear_30 ?_
        refine zr_goto (pc := 33)  (tgt := 2) (by decide) dX6_isSeenAllTheYear_33 ?_
        exact ih _ (by omega) (by omega) (by omega) (fun j a b => by rcases Int.lt_or_le j i with q | q; exact hall j a q; (obtain rfl : j = i := by omega); exact q25)
      · refine zr_iconst (pc := 28)  dX6_isSeenAllTheYear_28 ?_
        refine zr_zreturn (pc := 29)  rfl (by omega) (by decide) (by decide) dX6_isSeenAllTheYear_29 ?_
        exact zb_f (fun q => q25 (q i h0 (by omega))) kk
theorem k_X6_isSeenAllTheYear {G : zG} {n : Nat} {h : zH} {Post : Option Value → Nat → zH → Prop} {ssz fnd tm r : Int} {s : Int → Int} (h15 : h 15 = some (oView ssz fnd tm)) (hO : stO h tm s) (hr : 0 ≤ r ∧ r < 16) (ht : iR tm) (k : Post (some (vb (∀ d, 0 ≤ d → d < 84 → 0 ≤ s (r * 84 + d)))) n h) : zMP G mX6_isSeenAllTheYear [.ref 15, vi r] n h Post := by
  refine zMP_of (by decide) [some _, some _, none] (Nat.le_of_ble_eq_true rfl) rfl ?_
  refine zr_iconst (pc := 0)  dX6_isSeenAllTheYear_0 ?_
  refine zs_istore_n_2 (pc := 1)  (by first | exact zn_i | exact zn_r | exact zn_0) (by decide) dX6_isSeenAllTheYear_1 ?_
  exact l_X6_isSeenAllTheYear h15 hO hr ht k 84 0 (by omega) (by omega) (by omega) (fun j a b => by omega)
theorem l_X6_sumOfCounts {G : zG} {n : Nat} {h : zH} {Post : Option Value → Nat → zH → Prop} {ssz fnd tm r : Int} {s : Int → Int} (h15 : h 15 = some (oView ssz fnd tm)) (hO : stO h tm s) (hr : 0 ≤ r ∧ r < 16) (ht : iR tm) (kk : Post (some (vi (sumZ (fun d => s (r * 84 + d)) 84))) n h) : ∀ (k m : Nat), 84 - m ≤ k → m ≤ 84 → zAW G mX6_sumOfCounts zTT (zF G mX6_sumOfCounts Post) 4 [some (.ref 15), some (vi r), some (vi (sumZ (fun d => s (r * 84 + d)) m)), some (vi m)] [] n h 0 0 := by
  obtain ⟨N0, h8⟩ := stO_8 hO
  intro k
  induction k with
  | zero =>
    intro m hk hm
    obtain rfl : m = 84 := by omega
    refine zr_iload_n (pc := 4)  (i := 3) rfl rfl dX6_sumOfCounts_4 ?_
    refine zr_bipush (pc := 5)  (by decide) dX6_sumOfCounts_5 ?_
    refine zr_icmp_ge (pc := 7)  (tgt := 36) ⟨by omega, by omega⟩ ⟨by omega, by omega⟩ (by decide) dX6_sumOfCounts_7 (fun q7 => ?_) (fun q7 => ?_)
    · refine zr_iload_n (pc := 36)  (i := 2) rfl rfl dX6_sumOfCounts_36 ?_
      refine zr_ireturn (pc := 37)  rfl (by decide) (by decide) dX6_sumOfCounts_37 ?_
      exact kk
    · exact absurd q7 (by omega)
  | succ k ih =>
    intro m hk hm
    refine zr_iload_n (pc := 4)  (i := 3) rfl rfl dX6_sumOfCounts_4 ?_
    refine zr_bipush (pc := 5)  (by decide) dX6_sumOfCounts_5 ?_
    refine zr_icmp_ge (pc := 7)  (tgt := 36) ⟨by omega, by omega⟩ ⟨by omega, by omega⟩ (by decide) dX6_sumOfCounts_7 (fun q7 => ?_) (fun q7 => ?_)
    · refine zr_iload_n (pc := 36)  (i := 2) rfl rfl dX6_sumOfCounts_36 ?_
      refine zr_ireturn (pc := 37)  rfl (by decide) (by decide) dX6_sumOfCounts_37 ?_
      obtain rfl : m = 84 := by omega
      exact kk
    · refine zr_iload_n (pc := 10)  (i := 2) rfl rfl dX6_sumOfCounts_10 ?_
      refine zr_aload_n (pc := 11)  (i := 0) rfl rfl dX6_sumOfCounts_11 ?_
      refine zr_get (pc := 12)  fl_X6_15 (by first | assumption | rfl | (repeat (first | assumption | exact zup_s | refine zup_g (by decide) ?_))) rfl dX6_sumOfCounts_12 ?_
      refine zr_iload_n (pc := 15)  (i := 1) rfl rfl dX6_sumOfCounts_15 ?_
      refine zr_bipush (pc := 16)  (by decide) dX6_sumOfCounts_16 ?_
      refine zr_imul (pc := 18)  dX6_sumOfCounts_18 ?_
      refine zr_iload_n (pc := 19)  (i := 3) rfl rfl dX6_sumOfCounts_19 ?_
      refine zr_iadd (pc := 20)  dX6_sumOfCounts_20 ?_
      refine zr_aload_n (pc := 21)  (i := 0) rfl rfl dX6_sumOfCounts_21 ?_
      refine zr_get (pc := 22)  fl_X6_65 (by first | assumption | rfl | (repeat (first | assumption | exact zup_s | refine zup_g (by decide) ?_))) rfl dX6_sumOfCounts_22 ?_
      refine zv_call2 (pc := 25)  cv_X6_sumOfCounts_144 (by first | assumption | rfl | (repeat (first | assumption | exact zup_s | refine zup_g (by decide) ?_))) ⟨_, rfl, rfl⟩ (Nat.le_of_ble_eq_true rfl) (by decide) dX6_sumOfCounts_25 ?_
      refine k_state hO (by omega) ht ?_
      dsimp only [Option.toList, List.cons_append, List.nil_append]
      refine zr_iadd (pc := 28)  dX6_sumOfCounts_28 ?_
      refine zs_istore_n_2 (pc := 29)  (by first | exact zn_i | exact zn_r | exact zn_0) (by decide) dX6_sumOfCounts_29 ?_
      refine zs_iinc_3 (pc := 30)  (by first | exact zn_i | exact zn_r | exact zn_0) (by decide) dX6_sumOfCounts_30 ?_
      refine zr_goto (pc := 33)  (tgt := 4) (by decide) dX6_sumOfCounts_33 ?_
      exact ih (m + 1) (by omega) (by omega)
theorem k_X6_sumOfCounts {G : zG} {n : Nat} {h : zH} {Post : Option Value → Nat → zH → Prop} {ssz fnd tm r : Int} {s : Int → Int} (h15 : h 15 = some (oView ssz fnd tm)) (hO : stO h tm s) (hr : 0 ≤ r ∧ r < 16) (ht : iR tm) (k : Post (some (vi (sumZ (fun d => s (r * 84 + d)) 84))) n h) : zMP G mX6_sumOfCounts [.ref 15, vi r] n h Post := by
  refine zMP_of (by decide) [some _, some _, none, none] (Nat.le_of_ble_eq_true rfl) rfl ?_
  refine zr_iconst (pc := 0)  dX6_sumOfCounts_0 ?_
  refine zs_istore_n_2 (pc := 1)  (by first | exact zn_i | exact zn_r | exact zn_0) (by decide) dX6_sumOfCounts_1 ?_
  refine zr_iconst (pc := 2)  dX6_sumOfCounts_2 ?_
  refine zs_istore_n_3 (pc := 3)  (by first | exact zn_i | exact zn_r | exact zn_0) (by decide) dX6_sumOfCounts_3 ?_
  exact l_X6_sumOfCounts h15 hO hr ht k 84 0 (by omega) (by omega)
