/-- what a post adds to a slot of the tallies -/
def tpS (f : Int → Int) (sl : Int) (m : Nat) (wk mo to wk2 mo2 to2 : Int → Int) : Prop := (∀ i, 0 ≤ i → i < 7 → wk2 (sl * 7 + i) = wk (sl * 7 + i) + wsum f i m) ∧ (∀ j, ¬ (sl * 7 ≤ j ∧ j < sl * 7 + 7) → wk2 j = wk j) ∧ (∀ i, 0 ≤ i → i < 12 → mo2 (sl * 12 + i) = mo (sl * 12 + i) + msum f i m) ∧ (∀ j, ¬ (sl * 12 ≤ j ∧ j < sl * 12 + 12) → mo2 j = mo j) ∧ to2 sl = to sl + sumZ f m ∧ ∀ j, j ≠ sl → to2 j = to j
theorem tpS_0 {f : Int → Int} {sl : Int} {wk mo to : Int → Int} : tpS f sl 0 wk mo to wk mo to := ⟨fun i _ _ => by simp [wsum, sumZ], fun _ _ => rfl, fun i _ _ => by simp [msum, sumZ], fun _ _ => rfl, by simp [sumZ], fun _ _ => rfl⟩
theorem tpS_s {f : Int → Int} {sl : Int} {m : Nat} {wk mo to wk2 mo2 to2 : Int → Int} (hs : 0 ≤ sl ∧ sl < 5) (hm : m < 84) (h : tpS f sl m wk mo to wk2 mo2 to2) : tpS f sl (m + 1) wk mo to (uZ wk2 (sl * 7 + (m : Int) % 7) (wk2 (sl * 7 + (m : Int) % 7) + f m)) (uZ mo2 (sl * 12 + (m : Int) / 7) (mo2 (sl * 12 + (m : Int) / 7) + f m)) (uZ to2 sl (to2 sl + f m)) := by
  obtain ⟨h1, h2, h3, h4, h5, h6⟩ := h
  refine ⟨fun i a b => ?_, fun j hj => ?_, fun i a b => ?_, fun j hj => ?_, ?_, fun j hj => ?_⟩
  · show _ = _ + (wsum f i m + if (m : Int) % 7 = i then f m else 0)
    by_cases e : (m : Int) % 7 = i
    · subst e
      rw [uZ_s, if_pos rfl, h1 _ a b]; omega
    · rw [uZ_n (by omega), if_neg e, h1 _ a b]; omega
  · rw [uZ_n (by omega)]; exact h2 j hj
  · show _ = _ + (msum f i m + if (m : Int) / 7 = i then f m else 0)
    by_cases e : (m : Int) / 7 = i
    · subst e
      rw [uZ_s, if_pos rfl, h3 _ a b]; omega
    · rw [uZ_n (by omega), if_neg e, h3 _ a b]; omega
  · rw [uZ_n (by omega)]; exact h4 j hj
  · rw [uZ_s, h5]; show _ = _ + (sumZ f m + f m); omega
  · rw [uZ_n hj]; exact h6 j hj
theorem l_X6_tallyPost {G : zG} {n : Nat} {h : zH} {Post : Option Value → Nat → zH → Prop} {sl r ssz fnd tm : Int} {s wk mo to po wp sd sc pr sq fl db : Int → Int} {yu yl : Int} (h16 : h 16 = some oTal) (hO : stO h tm s) (hs : 0 ≤ sl ∧ sl < 5) (hr : 0 ≤ r ∧ r < 16) (ht : iR tm) (kk : ∀ wk2 mo2 to2 : Int → Int, tpS (fun d => s (r * 84 + d)) sl 84 wk mo to wk2 mo2 to2 → Post none n (hV h ssz fnd tm wk2 mo2 to2 po wp sd sc pr sq fl db yu yl)) : ∀ (k m : Nat) (wk2 mo2 to2 : Int → Int), 84 - m ≤ k → m ≤ 84 → tpS (fun d => s (r * 84 + d)) sl m wk mo to wk2 mo2 to2 → zAW G mX6_tallyPost zTT (zF G mX6_tallyPost Post) 10 [some (.ref 15), some (vi sl), some (vi r), some (vi m)] [] n (hV h ssz fnd tm wk2 mo2 to2 po wp sd sc pr sq fl db yu yl) 0 0 := by
  obtain ⟨N0, h8⟩ := stO_8 hO
  intro k
  induction k with
  | zero =>
    intro m wk2 mo2 to2 hk hm hT
    obtain rfl : m = 84 := by omega
    refine zr_iload_n (pc := 10)  (i := 3) rfl rfl dX6_tallyPost_10 ?_
    refine zr_bipush (pc := 11)  (by decide) dX6_tallyPost_11 ?_
    refine zr_icmp_ge (pc := 13)  (tgt := 48) ⟨by omega, by omega⟩ ⟨by omega, by omega⟩ (by decide) dX6_tallyPost_13 (fun q13 => ?_) (fun q13 => ?_)
    · refine zr_vreturn (pc := 48)  rfl (by decide) (by decide) dX6_tallyPost_48 ?_
      exact kk _ _ _ hT
    · exact absurd q13 (by omega)
  | succ k ih =>
    intro m wk2 mo2 to2 hk hm hT
    refine zr_iload_n (pc := 10)  (i := 3) rfl rfl dX6_tallyPost_10 ?_
    refine zr_bipush (pc := 11)  (by decide) dX6_tallyPost_11 ?_
    refine zr_icmp_ge (pc := 13)  (tgt := 48) ⟨by omega, by omega⟩ ⟨by omega, by omega⟩ (by decide) dX6_tallyPost_13 (fun q13 => ?_) (fun q13 => ?_)
    · refine zr_vreturn (pc := 48)  rfl (by decide) (by decide) dX6_tallyPost_48 ?_
      obtain rfl : m = 84 := by omega
      exact kk _ _ _ hT
    · refine zr_aload_n (pc := 16)  (i := 0) rfl rfl dX6_tallyPost_16 ?_
      refine zr_get (pc := 17)  fl_X6_22 (by first | assumption | rfl | (repeat (first | assumption | exact zup_s | refine zup_g (by decide) ?_))) rfl dX6_tallyPost_17 ?_
      refine zr_iload_n (pc := 20)  (i := 1) rfl rfl dX6_tallyPost_20 ?_
      refine zr_iload_n (pc := 21)  (i := 3) rfl rfl dX6_tallyPost_21 ?_
      refine zr_aload_n (pc := 22)  (i := 0) rfl rfl dX6_tallyPost_22 ?_
      refine zr_get (pc := 23)  fl_X6_15 (by first | assumption | rfl | (repeat (first | assumption | exact zup_s | refine zup_g (by decide) ?_))) rfl dX6_tallyPost_23 ?_
      refine zr_iload_n (pc := 26)  (i := 2) rfl rfl dX6_tallyPost_26 ?_
      refine zr_bipush (pc := 27)  (by decide) dX6_tallyPost_27 ?_
      refine zr_imul (pc := 29)  dX6_tallyPost_29 ?_
      refine zr_iload_n (pc := 30)  (i := 3) rfl rfl dX6_tallyPost_30 ?_
      refine zr_iadd (pc := 31)  dX6_tallyPost_31 ?_
      refine zr_aload_n (pc := 32)  (i := 0) rfl rfl dX6_tallyPost_32 ?_
      refine zr_get (pc := 33)  fl_X6_65 (by first | assumption | rfl | (repeat (first | assumption | exact zup_s | refine zup_g (by decide) ?_))) rfl dX6_tallyPost_33 ?_
      refine zv_call2 (pc := 36)  cv_X6_tallyPost_144 (by first | assumption | rfl | (repeat (first | assumption | exact zup_s | refine zup_g (by decide) ?_))) ⟨_, rfl, rfl⟩ (Nat.le_of_ble_eq_true rfl) (by decide) dX6_tallyPost_36 ?_
      refine k_state (stO_hV hO) (by omega) ht ?_
      dsimp only [Option.toList, List.cons_append, List.nil_append]
      refine zv_call3 (pc := 39)  cv_X6_tallyPost_161 (by first | assumption | rfl | (repeat (first | assumption | exact zup_s | refine zup_g (by decide) ?_))) ⟨_, rfl, rfl⟩ (Nat.le_of_ble_eq_true rfl) (by decide) dX6_tallyPost_39 ?_
      refine k_X4_addCount (by assumption) rfl rfl rfl hs (by omega) ?_
      rw [hV_17, hV_18, hV_19]
      dsimp only [Option.toList, List.cons_append, List.nil_append]
      refine zs_iinc_3 (pc := 42)  (by first | exact zn_i | exact zn_r | exact zn_0) (by decide) dX6_tallyPost_42 ?_
      refine zr_goto (pc := 45)  (tgt := 10) (by decide) dX6_tallyPost_45 ?_
      exact ih (m + 1) _ _ _ (by omega) (by omega) (tpS_s hs (by omega) hT)
theorem k_X6_tallyPost {G : zG} {n : Nat} {h : zH} {Post : Option Value → Nat → zH → Prop} {sl r ssz fnd tm : Int} {s wk mo to po wp sd sc pr sq fl db : Int → Int} {yu yl : Int} (h16 : h 16 = some oTal) (hO : stO h tm s) (hs : 0 ≤ sl ∧ sl < 5) (hr : 0 ≤ r ∧ r < 16) (ht : iR tm) (k : ∀ wk2 mo2 to2 : Int → Int, tpS (fun d => s (r * 84 + d)) sl 84 wk mo to wk2 mo2 to2 → Post none n (hV h ssz fnd tm wk2 mo2 to2 (uZ po sl (po sl + 1)) wp sd sc pr sq fl db yu yl)) : zMP G mX6_tallyPost [.ref 15, vi sl, vi r] n (hV h ssz fnd tm wk mo to po wp sd sc pr sq fl db yu yl) Post := by
  refine zMP_of (by decide) [some _, some _, some _, none] (Nat.le_of_ble_eq_true rfl) rfl ?_
  refine zr_aload_n (pc := 0)  (i := 0) rfl rfl dX6_tallyPost_0 ?_
  refine zr_get (pc := 1)  fl_X6_22 (by first | assumption | rfl | (repeat (first | assumption | exact zup_s | refine zup_g (by decide) ?_))) rfl dX6_tallyPost_1 ?_
  refine zr_iload_n (pc := 4)  (i := 1) rfl rfl dX6_tallyPost_4 ?_
  refine zv_call1 (pc := 5)  cv_X6_tallyPost_158 (by first | assumption | rfl | (repeat (first | assumption | exact zup_s | refine zup_g (by decide) ?_))) ⟨_, rfl, rfl⟩ (Nat.le_of_ble_eq_true rfl) (by decide) dX6_tallyPost_5 ?_
  refine k_X4_addPost (by assumption) rfl hs ?_
  rw [hV_20]
  dsimp only [Option.toList, List.cons_append, List.nil_append]
  refine zr_iconst (pc := 8)  dX6_tallyPost_8 ?_
  refine zs_istore_n_3 (pc := 9)  (by first | exact zn_i | exact zn_r | exact zn_0) (by decide) dX6_tallyPost_9 ?_
  exact l_X6_tallyPost h16 hO hs hr ht k 84 0 wk mo to (by omega) (by omega) tpS_0
/-- a slot of the tallies behind the first m roads -/
def tgS (q : Int → Prop) (s : Int → Int) (sl : Int) (m : Nat) (wk mo to po wk2 mo2 to2 po2 : Int → Int) : Prop := (∀ i, 0 ≤ i → i < 7 → wk2 (sl * 7 + i) = sumP q (fun r => wsum (fun d => s (r * 84 + d)) i 84) m) ∧ (∀ j, ¬ (sl * 7 ≤ j ∧ j < sl * 7 + 7) → wk2 j = wk j) ∧ (∀ i, 0 ≤ i → i < 12 → mo2 (sl * 12 + i) = sumP q (fun r => msum (fun d => s (r * 84 + d)) i 84) m) ∧ (∀ j, ¬ (sl * 12 ≤ j ∧ j < sl * 12 + 12) → mo2 j = mo j) ∧ to2 sl = sumP q (fun r => sumZ (fun d => s (r * 84 + d)) 84) m ∧ (∀ j, j ≠ sl → to2 j = to j) ∧ po2 sl = cntP q m ∧ ∀ j, j ≠ sl → po2 j = po j
theorem tgS_0 {q : Int → Prop} {s : Int → Int} {sl : Int} {wk mo to po : Int → Int} : tgS q s sl 0 wk mo to po (clZ wk (sl * 7) (sl * 7 + 7) 0) (clZ mo (sl * 12) (sl * 12 + 12) 0) (uZ to sl 0) (uZ po sl 0) :=
  ⟨fun i a b => clZ_in ⟨by omega, by omega⟩, fun j hj => clZ_out hj, fun i a b => clZ_in ⟨by omega, by omega⟩, fun j hj => clZ_out hj, uZ_s, fun j hj => uZ_n hj, uZ_s, fun j hj => uZ_n hj⟩
theorem tgS_n {q : Int → Prop} {s : Int → Int} {sl : Int} {m : Nat} {wk mo to po wk2 mo2 to2 po2 : Int → Int} (h : tgS q s sl m wk mo to po wk2 mo2 to2 po2) (hq : ¬ (q m ∧ cntP q m < 4)) : tgS q s sl (m + 1) wk mo to po wk2 mo2 to2 po2 := by
  obtain ⟨h1, h2, h3, h4, h5, h6, h7, h8⟩ := h
  have e : ∀ F, sumP q F (m + 1) = sumP q F m := fun F => by
    rw [show sumP q F (m + 1) = sumP q F m + ind (q m ∧ cntP q m < 4) * F m from rfl, ind_f hq]; omega
  have e2 : cntP q (m + 1) = cntP q m := by rw [show cntP q (m + 1) = cntP q m + ind (q m ∧ cntP q m < 4) from rfl, ind_f hq]; omega
  exact ⟨fun i a b => by rw [e]; exact h1 i a b, h2, fun i a b => by rw [e]; exact h3 i a b, h4, by rw [e]; exact h5, h6, by rw [e2]; exact h7, h8⟩
theorem tgS_s {q : Int → Prop} {s : Int → Int} {sl : Int} {m : Nat} {wk mo to po wk2 mo2 to2 po2 wk3 mo3 to3 : Int → Int} (h : tgS q s sl m wk mo to po wk2 mo2 to2 po2) (hq : q m ∧ cntP q m < 4) (hT : tpS (fun d => s ((m : Int) * 84 + d)) sl 84 wk2 mo2 to2 wk3 mo3 to3) : tgS q s sl (m + 1) wk mo to po wk3 mo3 to3 (uZ po2 sl (po2 sl + 1)) := by
  obtain ⟨h1, h2, h3, h4, h5, h6, h7, h8⟩ := h
  obtain ⟨t1, t2, t3, t4, t5, t6⟩ := hT
  have e : ∀ F, sumP q F (m + 1) = sumP q F m + F m := fun F => by
    rw [show sumP q F (m + 1) = sumP q F m + ind (q m ∧ cntP q m < 4) * F m from rfl, ind_t hq]; omega
  have e2 : cntP q (m + 1) = cntP q m + 1 := by rw [show cntP q (m + 1) = cntP q m + ind (q m ∧ cntP q m < 4) from rfl, ind_t hq]
  exact ⟨fun i a b => by rw [e, t1 i a b, h1 i a b], fun j hj => by rw [t2 j hj, h2 j hj], fun i a b => by rw [e, t3 i a b, h3 i a b], fun j hj => by rw [t4 j hj, h4 j hj], by rw [e, t5, h5], fun j hj => by rw [t6 j hj, h6 j hj], by rw [e2, uZ_s, h7], fun j hj => by rw [uZ_n hj, h8 j hj]⟩
/-- the posts of group g, but for one -/
def qG (wp gr : Int → Int) (g w : Int) : Int → Prop := fun r => r ≠ w ∧ wp r = 1 ∧ gr r = g
theorem l_X6_tallyGroup {G : zG} {n : Nat} {h : zH} {Post : Option Value → Nat → zH → Prop} {sl g w num ssz fnd tm : Int} {s gr wk mo to po wp sd sc pr sq fl db : Int → Int} {yu yl : Int} (h3 : h 3 = some (oRoads num)) (h7 : h 7 = some (aI 16 gr)) (h16 : h 16 = some oTal) (hO : stO h tm s) (hs : 0 ≤ sl ∧ sl < 5) (hg : -1 ≤ g ∧ g < 16) (hw : -1 ≤ w ∧ w < 16) (hwp : ∀ i, wp i = 0 ∨ wp i = 1) (hgr : ∀ i, -1 ≤ gr i ∧ gr i < 4) (ht : iR tm) (kk : ∀ wk2 mo2 to2 po2 : Int → Int, tgS (qG wp gr g w) s sl 16 wk mo to po wk2 mo2 to2 po2 → Post none n (hV h ssz fnd tm wk2 mo2 to2 po2 wp sd sc pr sq fl db yu yl)) : ∀ (k m : Nat) (wk2 mo2 to2 po2 : Int → Int), 16 - m ≤ k → m ≤ 16 → tgS (qG wp gr g w) s sl m wk mo to po wk2 mo2 to2 po2 → zAW G mX6_tallyGroup zTT (zF G mX6_tallyGroup Post) 11 [some (.ref 15), some (vi sl), some (vi g), some (vi w), some (vi m)] [] n (hV h ssz fnd tm wk2 mo2 to2 po2 wp sd sc pr sq fl db yu yl) 0 0 := by
  intro k
  induction k with
  | zero =>
    intro m wk2 mo2 to2 po2 hk hm hT
    obtain rfl : m = 16 := by omega
    refine zr_iload (pc := 11)  rfl dX6_tallyGroup_11 ?_
    refine zr_bipush (pc := 13)  (by decide) dX6_tallyGroup_13 ?_
    refine zr_icmp_ge (pc := 15)  (tgt := 71) ⟨by omega, by omega⟩ ⟨by omega, by omega⟩ (by decide) dX6_tallyGroup_15 (fun q15 => ?_) (fun q15 => ?_)
    · refine zr_vreturn (pc := 71)  rfl (by decide) (by decide) dX6_tallyGroup_71 ?_
      exact kk _ _ _ _ hT
    · exact absurd q15 (by omega)
  | succ k ih =>
    intro m wk2 mo2 to2 po2 hk hm hT
    have hw1 := hwp m
    have hg1 := hgr m
    have hc := cntP_R (qG wp gr g w) m
    have hpo : po2 sl = cntP (qG wp gr g w) m := hT.2.2.2.2.2.2.1
    refine zr_iload (pc := 11)  rfl dX6_tallyGroup_11 ?_
    refine zr_bipush (pc := 13)  (by decide) dX6_tallyGroup_13 ?_
    refine zr_icmp_ge (pc := 15)  (tgt := 71) ⟨by omega, by omega⟩ ⟨by omega, by omega⟩ (by decide) dX6_tallyGroup_15 (fun q15 => ?_) (fun q15 => ?_)
    · refine zr_vreturn (pc := 71)  rfl (by decide) (by decide) dX6_tallyGroup_71 ?_
      obtain rfl : m = 16 := by omega
      exact kk _ _ _ _ hT
    · refine zr_iload (pc := 18)  rfl dX6_tallyGroup_18 ?_
      refine zr_iload_n (pc := 20)  (i := 3) rfl rfl dX6_tallyGroup_20 ?_
      refine zr_icmp_eq (pc := 21)  (tgt := 65) ⟨by omega, by omega⟩ ⟨by omega, by omega⟩ (by decide) dX6_tallyGroup_21 (fun q21 => ?_) (fun q21 => ?_)
      · refine zs_iinc_4 (pc := 65)  (by first | exact zn_i | exact zn_r | exact zn_0) (by decide) dX6_tallyGroup_65 ?_
        refine zr_goto (pc := 68)  (tgt := 11) (by decide) dX6_tallyGroup_68 ?_
        first | exact ih (m + 1) _ _ _ _ (by omega) (by omega) (tgS_n hT (fun u => by obtain ⟨⟨u1, u2, u3⟩, u4⟩ := u; omega)) | exact ih (m + 1) _ _ _ _ (by omega) (by omega) (tgS_s hT ⟨⟨by omega, by omega, by omega⟩, by omega⟩ hT3)
      · refine zr_aload_n (pc := 24)  (i := 0) rfl rfl dX6_tallyGroup_24 ?_
        refine zr_get (pc := 25)  fl_X6_26 (by first | assumption | rfl | (repeat (first | assumption | exact zup_s | refine zup_g (by decide) ?_))) rfl dX6_tallyGroup_25 ?_
        refine zr_iload (pc := 28)  rfl dX6_tallyGroup_28 ?_
        refine zr_zald (pc := 30)  (by first | assumption | rfl | (repeat (first | assumption | exact zup_s | refine zup_g (by decide) ?_))) ⟨by omega, by omega⟩ (by decide) dX6_tallyGroup_30 ?_
        refine zr_if_eq (pc := 31)  (tgt := 65) ⟨by omega, by omega⟩ (by decide) dX6_tallyGroup_31 (fun q31 => ?_) (fun q31 => ?_)
        · refine zs_iinc_4 (pc := 65)  (by first | exact zn_i | exact zn_r | exact zn_0) (by decide) dX6_tallyGroup_65 ?_
          refine zr_goto (pc := 68)  (tgt := 11) (by decide) dX6_tallyGroup_68 ?_
          first | exact ih (m + 1) _ _ _ _ (by omega) (by omega) (tgS_n hT (fun u => by obtain ⟨⟨u1, u2, u3⟩, u4⟩ := u; omega)) | exact ih (m + 1) _ _ _ _ (by omega) (by omega) (tgS_s hT ⟨⟨by omega, by omega, by omega⟩, by omega⟩ hT3)
        · refine zr_aload_n (pc := 34)  (i := 0) rfl rfl dX6_tallyGroup_34 ?_
          refine zr_get (pc := 35)  fl_X6_9 (by first | assumption | rfl | (repeat (first | assumption | exact zup_s | refine zup_g (by decide) ?_))) rfl dX6_tallyGroup_35 ?_
          refine zr_iload (pc := 38)  rfl dX6_tallyGroup_38 ?_
          refine zv_call1 (pc := 40)  cv_X6_tallyGroup_123 (by first | assumption | rfl | (repeat (first | assumption | exact zup_s | refine zup_g (by decide) ?_))) ⟨_, rfl, rfl⟩ (Nat.le_of_ble_eq_true rfl) (by decide) dX6_tallyGroup_40 ?_
          refine k_X3_group (by first | assumption | omega | (refine ⟨?_, ?_⟩ <;> omega) | rfl | (repeat (first | assumption | exact zup_s | refine zup_g (by decide) ?_))) (by first | assumption | omega | (refine ⟨?_, ?_⟩ <;> omega) | rfl | (repeat (first | assumption | exact zup_s | refine zup_g (by decide) ?_))) (by first | assumption | omega | (refine ⟨?_, ?_⟩ <;> omega) | rfl | (repeat (first | assumption | exact zup_s | refine zup_g (by decide) ?_))) ?_
          dsimp only [Option.toList, List.cons_append, List.nil_append]
          refine zr_iload_n (pc := 43)  (i := 2) rfl rfl dX6_tallyGroup_43 ?_
          refine zr_icmp_ne (pc := 44)  (tgt := 65) ⟨by omega, by omega⟩ ⟨by omega, by omega⟩ (by decide) dX6_tallyGroup_44 (fun q44 => ?_) (fun q44 => ?_)
          · refine zs_iinc_4 (pc := 65)  (by first | exact zn_i | exact zn_r | exact zn_0) (by decide) dX6_tallyGroup_65 ?_
            refine zr_goto (pc := 68)  (tgt := 11) (by decide) dX6_tallyGroup_68 ?_
            first | exact ih (m + 1) _ _ _ _ (by omega) (by omega) (tgS_n hT (fun u => by obtain ⟨⟨u1, u2, u3⟩, u4⟩ := u; omega)) | exact ih (m + 1) _ _ _ _ (by omega) (by omega) (tgS_s hT ⟨⟨by omega, by omega, by omega⟩, by omega⟩ hT3)
          · refine zr_aload_n (pc := 47)  (i := 0) rfl rfl dX6_tallyGroup_47 ?_
            refine zr_get (pc := 48)  fl_X6_22 (by first | assumption | rfl | (repeat (first | assumption | exact zup_s | refine zup_g (by decide) ?_))) rfl dX6_tallyGroup_48 ?_
            refine zr_iload_n (pc := 51)  (i := 1) rfl rfl dX6_tallyGroup_51 ?_
            refine zv_call1 (pc := 52)  cv_X6_tallyGroup_152 (by first | assumption | rfl | (repeat (first | assumption | exact zup_s | refine zup_g (by decide) ?_))) ⟨_, rfl, rfl⟩ (Nat.le_of_ble_eq_true rfl) (by decide) dX6_tallyGroup_52 ?_
            refine k_X4_isFull (by first | assumption | omega | (refine ⟨?_, ?_⟩ <;> omega) | rfl | (repeat (first | assumption | exact zup_s | refine zup_g (by decide) ?_))) (by first | assumption | omega | (refine ⟨?_, ?_⟩ <;> omega) | rfl | (repeat (first | assumption | exact zup_s | refine zup_g (by decide) ?_))) (by first | assumption | omega | (refine ⟨?_, ?_⟩ <;> omega) | rfl | (repeat (first | assumption | exact zup_s | refine zup_g (by decide) ?_))) (by first | assumption | omega | (refine ⟨?_, ?_⟩ <;> omega) | rfl | (repeat (first | assumption | exact zup_s | refine zup_g (by decide) ?_))) ?_
            dsimp only [Option.toList, List.cons_append, List.nil_append]
            refine zb_ne (pc := 55) (tgt := 65) (by decide) dX6_tallyGroup_55 (fun q55 => ?_) (fun q55 => ?_)
            · refine zs_iinc_4 (pc := 65)  (by first | exact zn_i | exact zn_r | exact zn_0) (by decide) dX6_tallyGroup_65 ?_
              refine zr_goto (pc := 68)  (tgt := 11) (by decide) dX6_tallyGroup_68 ?_
              first | exact ih (m + 1) _ _ _ _ (by omega) (by omega) (tgS_n hT (fun u => by obtain ⟨⟨u1, u2, u3⟩, u4⟩ := u; omega)) | exact ih (m + 1) _ _ _ _ (by omega) (by omega) (tgS_s hT ⟨⟨by omega, by omega, by omega⟩, by omega⟩ hT3)
            · refine zr_aload_n (pc := 58)  (i := 0) rfl rfl dX6_tallyGroup_58 ?_
              refine zr_iload_n (pc := 59)  (i := 1) rfl rfl dX6_tallyGroup_59 ?_
              refine zr_iload (pc := 60)  rfl dX6_tallyGroup_60 ?_
              refine zv_call2 (pc := 62)  cv_X6_tallyGroup_155 (by first | assumption | rfl | (repeat (first | assumption | exact zup_s | refine zup_g (by decide) ?_))) ⟨_, rfl, rfl⟩ (Nat.le_of_ble_eq_true rfl) (by decide) dX6_tallyGroup_62 ?_
              refine k_X6_tallyPost h16 hO hs (by omega) ht (fun wk3 mo3 to3 hT3 => ?_)
              dsimp only [Option.toList, List.cons_append, List.nil_append]
              refine zs_iinc_4 (pc := 65)  (by first | exact zn_i | exact zn_r | exact zn_0) (by decide) dX6_tallyGroup_65 ?_
              refine zr_goto (pc := 68)  (tgt := 11) (by decide) dX6_tallyGroup_68 ?_
              first | exact ih (m + 1) _ _ _ _ (by omega) (by omega) (tgS_n hT (fun u => by obtain ⟨⟨u1, u2, u3⟩, u4⟩ := u; omega)) | exact ih (m + 1) _ _ _ _ (by omega) (by omega) (tgS_s hT ⟨⟨by omega, by omega, by omega⟩, by omega⟩ hT3)
theorem k_X6_tallyGroup {G : zG} {n : Nat} {h : zH} {Post : Option Value → Nat → zH → Prop} {sl g w num ssz fnd tm : Int} {s gr wk mo to po wp sd sc pr sq fl db : Int → Int} {yu yl : Int} (h3 : h 3 = some (oRoads num)) (h7 : h 7 = some (aI 16 gr)) (h16 : h 16 = some oTal) (hO : stO h tm s) (hs : 0 ≤ sl ∧ sl < 5) (hg : -1 ≤ g ∧ g < 16) (hw : -1 ≤ w ∧ w < 16) (hwp : ∀ i, wp i = 0 ∨ wp i = 1) (hgr : ∀ i, -1 ≤ gr i ∧ gr i < 4) (ht : iR tm) (k : ∀ wk2 mo2 to2 po2 : Int → Int, tgS (qG wp gr g w) s sl 16 wk mo to po wk2 mo2 to2 po2 → Post none n (hV h ssz fnd tm wk2 mo2 to2 po2 wp sd sc pr sq fl db yu yl)) : zMP G mX6_tallyGroup [.ref 15, vi sl, vi g, vi w] n (hV h ssz fnd tm wk mo to po wp sd sc pr sq fl db yu yl) Post := by
  refine zMP_of (by decide) [some _, some _, some _, some _, none] (Nat.le_of_ble_eq_true rfl) rfl ?_
  refine zr_aload_n (pc := 0)  (i := 0) rfl rfl dX6_tallyGroup_0 ?_
  refine zr_get (pc := 1)  fl_X6_22 (by first | assumption | rfl | (repeat (first | assumption | exact zup_s | refine zup_g (by decide) ?_))) rfl dX6_tallyGroup_1 ?_
  refine zr_iload_n (pc := 4)  (i := 1) rfl rfl dX6_tallyGroup_4 ?_
  refine zv_call1 (pc := 5)  cv_X6_tallyGroup_149 (by first | assumption | rfl | (repeat (first | assumption | exact zup_s | refine zup_g (by decide) ?_))) ⟨_, rfl, rfl⟩ (Nat.le_of_ble_eq_true rfl) (by decide) dX6_tallyGroup_5 ?_
  refine k_X4_clear (by assumption) rfl rfl rfl rfl hs ?_
  rw [hV_hY]
  dsimp only [Option.toList, List.cons_append, List.nil_append]
  refine zr_iconst (pc := 8)  dX6_tallyGroup_8 ?_
  refine zs_istore_4 (pc := 9)  (by first | exact zn_i | exact zn_r | exact zn_0) (by decide) dX6_tallyGroup_9 ?_
  exact l_X6_tallyGroup h3 h7 h16 hO hs hg hw hwp hgr ht k 16 0 _ _ _ _ (by omega) (by omega) tgS_0
