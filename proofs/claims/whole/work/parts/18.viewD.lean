/-- a sample: the first days that were seen, and what was counted then -/
def dwS (f : Int → Int) (most : Int) (m : Nat) (ssz : Int) (sd sc : Int → Int) : Prop := ssz = cnD f most m ∧ (∀ F : Int → Int → Int, sumZ (fun i => F (sd i) (sc i)) ssz.toNat = sumD f most (fun d => F d (f d)) m) ∧ ∀ i, 0 ≤ i → i < ssz → (0 ≤ sd i ∧ sd i < 84) ∧ (0 ≤ sc i ∧ sc i ≤ 50)
theorem dwS_0 {f : Int → Int} {most : Int} {sd sc : Int → Int} : dwS f most 0 0 sd sc := ⟨rfl, fun F => rfl, fun i a b => by omega⟩
theorem dwS_n {f : Int → Int} {most : Int} {m : Nat} {ssz : Int} {sd sc : Int → Int} (h : dwS f most m ssz sd sc) (hq : ¬ (ssz < most ∧ 0 ≤ f m)) : dwS f most (m + 1) ssz sd sc := by
  obtain ⟨h1, h2, h3⟩ := h
  have hq' : ¬ (cnD f most m < most ∧ 0 ≤ f m) := by rw [← h1]; exact hq
  refine ⟨?_, fun F => ?_, h3⟩
  · rw [show cnD f most (m + 1) = cnD f most m + ind (cnD f most m < most ∧ 0 ≤ f m) from rfl, ind_f hq']; omega
  · rw [h2 F, show sumD f most (fun d => F d (f d)) (m + 1) = sumD f most (fun d => F d (f d)) m + ind (cnD f most m < most ∧ 0 ≤ f m) * F m (f m) from rfl, ind_f hq']; omega
theorem dwS_s {f : Int → Int} {most : Int} {m : Nat} {ssz : Int} {sd sc : Int → Int} (hm : 0 ≤ most) (hm84 : m < 84) (hf : f m ≤ 50) (h : dwS f most m ssz sd sc) (hq : ssz < most ∧ 0 ≤ f m) : dwS f most (m + 1) (ssz + 1) (uZ sd ssz m) (uZ sc ssz (f m)) := by
  obtain ⟨h1, h2, h3⟩ := h
  have h0 := cnD_R f hm m
  rw [← h1] at h0
  have hq' : cnD f most m < most ∧ 0 ≤ f m := by rw [← h1]; exact hq
  refine ⟨?_, fun F => ?_, fun i a b => ?_⟩
  · rw [show cnD f most (m + 1) = cnD f most m + ind (cnD f most m < most ∧ 0 ≤ f m) from rfl, ind_t hq']; omega
  · rw [show (ssz + 1).toNat = ssz.toNat + 1 by omega]
    show sumZ _ ssz.toNat + F (uZ sd ssz m (ssz.toNat : Int)) (uZ sc ssz (f m) (ssz.toNat : Int)) = _
    rw [show ((ssz.toNat : Nat) : Int) = ssz by omega, uZ_s, uZ_s, sumZ_congr (g := fun i => F (sd i) (sc i)) _ (fun j a b => by rw [uZ_n (by omega), uZ_n (by omega)]), h2 F]
    rw [show sumD f most (fun d => F d (f d)) (m + 1) = sumD f most (fun d => F d (f d)) m + ind (cnD f most m < most ∧ 0 ≤ f m) * F m (f m) from rfl, ind_t hq']; omega
  · by_cases e : i = ssz
    · rw [e, uZ_s, uZ_s]; omega
    · rw [uZ_n e, uZ_n e]; exact h3 i a (by omega)
theorem dwS_end {f : Int → Int} {most : Int} {m : Nat} {ssz : Int} {sd sc : Int → Int} (hm : m ≤ 84) (h : dwS f most m ssz sd sc) (hq : m = 84 ∨ most ≤ ssz) : dwS f most 84 ssz sd sc := by
  rcases hq with q | q
  · rw [← q]; exact h
  · obtain ⟨h1, h2, h3⟩ := h
    obtain ⟨s1, s2⟩ := cnD_stop (f := f) (most := most) (k := m) (by omega) 84 hm
    exact ⟨by rw [s1]; exact h1, fun F => by rw [s2]; exact h2 F, h3⟩
theorem l_X6_drawDays {G : zG} {n : Nat} {h : zH} {Post : Option Value → Nat → zH → Prop} {r most fnd tm : Int} {s wk mo to po wp pr sq fl db : Int → Int} {yu yl : Int} (hO : stO h tm s) (hr : 0 ≤ r ∧ r < 16) (hmo : 0 ≤ most ∧ most ≤ 14) (ht : iR tm) (kk : ∀ (ssz : Int) (sd sc : Int → Int), dwS (fun d => s (r * 84 + d)) most 84 ssz sd sc → Post none n (hV h ssz fnd tm wk mo to po wp sd sc pr sq fl db yu yl)) : ∀ (k m : Nat) (ssz : Int) (sd sc : Int → Int) (x4 : Option Value), 84 - m ≤ k → m ≤ 84 → dwS (fun d => s (r * 84 + d)) most m ssz sd sc → zAW G mX6_drawDays zTT (zF G mX6_drawDays Post) 7 [some (.ref 15), some (vi r), some (vi most), some (vi m), x4] [] n (hV h ssz fnd tm wk mo to po wp sd sc pr sq fl db yu yl) 0 0 := by
  obtain ⟨N0, h8⟩ := stO_8 hO
  intro k
  induction k with
  | zero =>
    intro m ssz sd sc x4 hk hm hT
    obtain rfl : m = 84 := by omega
    refine zr_iload_n (pc := 7)  (i := 3) rfl rfl dX6_drawDays_7 ?_
    refine zr_bipush (pc := 8)  (by decide) dX6_drawDays_8 ?_
    refine zr_icmp_ge (pc := 10)  (tgt := 82) ⟨by omega, by omega⟩ ⟨by omega, by omega⟩ (by decide) dX6_drawDays_10 (fun q10 => ?_) (fun q10 => ?_)
    · refine zr_vreturn (pc := 82)  rfl (by decide) (by decide) dX6_drawDays_82 ?_
      exact kk _ _ _ hT
    · exact absurd q10 (by omega)
  | succ k ih =>
    intro m ssz sd sc x4 hk hm hT
    have hsr := stO_R hO (r * 84 + m)
    have hc := cnD_R (fun d => s (r * 84 + d)) hmo.1 m
    rw [← hT.1] at hc
    refine zr_iload_n (pc := 7)  (i := 3) rfl rfl dX6_drawDays_7 ?_
    refine zr_bipush (pc := 8)  (by decide) dX6_drawDays_8 ?_
    refine zr_icmp_ge (pc := 10)  (tgt := 82) ⟨by omega, by omega⟩ ⟨by omega, by omega⟩ (by decide) dX6_drawDays_10 (fun q10 => ?_) (fun q10 => ?_)
    · refine zr_vreturn (pc := 82)  rfl (by decide) (by decide) dX6_drawDays_82 ?_
      exact kk _ _ _ (dwS_end hm hT (by omega))
    · refine zr_aload_n (pc := 13)  (i := 0) rfl rfl dX6_drawDays_13 ?_
      refine zr_get (pc := 14)  fl_X6_37 (by first | assumption | rfl | (repeat (first | assumption | exact zup_s | refine zup_g (by decide) ?_))) rfl dX6_drawDays_14 ?_
      refine zr_iload_n (pc := 17)  (i := 2) rfl rfl dX6_drawDays_17 ?_
      refine zr_icmp_ge (pc := 18)  (tgt := 82) ⟨by omega, by omega⟩ ⟨by omega, by omega⟩ (by decide) dX6_drawDays_18 (fun q18 => ?_) (fun q18 => ?_)
      · refine zr_vreturn (pc := 82)  rfl (by decide) (by decide) dX6_drawDays_82 ?_
        exact kk _ _ _ (dwS_end hm hT (by omega))
      · refine zr_aload_n (pc := 21)  (i := 0) rfl rfl dX6_drawDays_21 ?_
        refine zr_get (pc := 22)  fl_X6_15 (by first | assumption | rfl | (repeat (first | assumption | exact zup_s | refine zup_g (by decide) ?_))) rfl dX6_drawDays_22 ?_
        refine zr_iload_n (pc := 25)  (i := 1) rfl rfl dX6_drawDays_25 ?_
        refine zr_bipush (pc := 26)  (by decide) dX6_drawDays_26 ?_
        refine zr_imul (pc := 28)  dX6_drawDays_28 ?_
        refine zr_iload_n (pc := 29)  (i := 3) rfl rfl dX6_drawDays_29 ?_
        refine zr_iadd (pc := 30)  dX6_drawDays_30 ?_
        refine zr_aload_n (pc := 31)  (i := 0) rfl rfl dX6_drawDays_31 ?_
        refine zr_get (pc := 32)  fl_X6_65 (by first | assumption | rfl | (repeat (first | assumption | exact zup_s | refine zup_g (by decide) ?_))) rfl dX6_drawDays_32 ?_
        refine zv_call2 (pc := 35)  cv_X6_drawDays_144 (by first | assumption | rfl | (repeat (first | assumption | exact zup_s | refine zup_g (by decide) ?_))) ⟨_, rfl, rfl⟩ (Nat.le_of_ble_eq_true rfl) (by decide) dX6_drawDays_35 ?_
        refine k_state (stO_hV hO) (by omega) ht ?_
        dsimp only [Option.toList, List.cons_append, List.nil_append]
        refine zs_istore_4 (pc := 38)  (by first | exact zn_i | exact zn_r | exact zn_0) (by decide) dX6_drawDays_38 ?_
        refine zr_iload (pc := 40)  rfl dX6_drawDays_40 ?_
        refine zr_if_lt (pc := 42)  (tgt := 76) ⟨by omega, by omega⟩ (by decide) dX6_drawDays_42 (fun q42 => ?_) (fun q42 => ?_)
        · refine zs_iinc_3 (pc := 76)  (by first | exact zn_i | exact zn_r | exact zn_0) (by decide) dX6_drawDays_76 ?_
          refine zr_goto (pc := 79)  (tgt := 7) (by decide) dX6_drawDays_79 ?_
          first | exact ih (m + 1) _ _ _ _ (by omega) (by omega) (dwS_n hT (by omega)) | exact ih (m + 1) _ _ _ _ (by omega) (by omega) (dwS_s (f := fun d => s (r * 84 + d)) hmo.1 (by omega) hsr.2 hT ⟨by omega, by omega⟩)
        · refine zr_aload_n (pc := 45)  (i := 0) rfl rfl dX6_drawDays_45 ?_
          refine zr_get (pc := 46)  fl_X6_30 (by first | assumption | rfl | (repeat (first | assumption | exact zup_s | refine zup_g (by decide) ?_))) rfl dX6_drawDays_46 ?_
          refine zr_aload_n (pc := 49)  (i := 0) rfl rfl dX6_drawDays_49 ?_
          refine zr_get (pc := 50)  fl_X6_37 (by first | assumption | rfl | (repeat (first | assumption | exact zup_s | refine zup_g (by decide) ?_))) rfl dX6_drawDays_50 ?_
          refine zr_iload_n (pc := 53)  (i := 3) rfl rfl dX6_drawDays_53 ?_
          refine zr_iast (pc := 54)  (by first | assumption | rfl | (repeat (first | assumption | exact zup_s | refine zup_g (by decide) ?_))) ⟨by omega, by omega⟩ (by decide) dX6_drawDays_54 ?_
          refine zr_heap hV_22 ?_
          refine zr_aload_n (pc := 55)  (i := 0) rfl rfl dX6_drawDays_55 ?_
          refine zr_get (pc := 56)  fl_X6_34 (by first | assumption | rfl | (repeat (first | assumption | exact zup_s | refine zup_g (by decide) ?_))) rfl dX6_drawDays_56 ?_
          refine zr_aload_n (pc := 59)  (i := 0) rfl rfl dX6_drawDays_59 ?_
          refine zr_get (pc := 60)  fl_X6_37 (by first | assumption | rfl | (repeat (first | assumption | exact zup_s | refine zup_g (by decide) ?_))) rfl dX6_drawDays_60 ?_
          refine zr_iload (pc := 63)  rfl dX6_drawDays_63 ?_
          refine zr_iast (pc := 65)  (by first | assumption | rfl | (repeat (first | assumption | exact zup_s | refine zup_g (by decide) ?_))) ⟨by omega, by omega⟩ (by decide) dX6_drawDays_65 ?_
          refine zr_heap hV_23 ?_
          refine zr_aload_n (pc := 66)  (i := 0) rfl rfl dX6_drawDays_66 ?_
          refine zr_dup (pc := 67)  rfl dX6_drawDays_67 ?_
          refine zr_get (pc := 68)  fl_X6_37 (by first | assumption | rfl | (repeat (first | assumption | exact zup_s | refine zup_g (by decide) ?_))) rfl dX6_drawDays_68 ?_
          refine zr_iconst (pc := 71)  dX6_drawDays_71 ?_
          refine zr_iadd (pc := 72)  dX6_drawDays_72 ?_
          refine zr_put (pc := 73)  (oView _ _ _) (fp_X6_37 rfl) (by first | assumption | rfl | (repeat (first | assumption | exact zup_s | refine zup_g (by decide) ?_))) (Nat.le_of_ble_eq_true rfl) rfl rfl rfl dX6_drawDays_73 ?_
          refine zr_heap hV_15 ?_
          refine zs_iinc_3 (pc := 76)  (by first | exact zn_i | exact zn_r | exact zn_0) (by decide) dX6_drawDays_76 ?_
          refine zr_goto (pc := 79)  (tgt := 7) (by decide) dX6_drawDays_79 ?_
          first | exact ih (m + 1) _ _ _ _ (by omega) (by omega) (dwS_n hT (by omega)) | exact ih (m + 1) _ _ _ _ (by omega) (by omega) (dwS_s (f := fun d => s (r * 84 + d)) hmo.1 (by omega) hsr.2 hT ⟨by omega, by omega⟩)
theorem k_X6_drawDays {G : zG} {n : Nat} {h : zH} {Post : Option Value → Nat → zH → Prop} {r most ssz fnd tm : Int} {s wk mo to po wp sd sc pr sq fl db : Int → Int} {yu yl : Int} (hO : stO h tm s) (hr : 0 ≤ r ∧ r < 16) (hmo : 0 ≤ most ∧ most ≤ 14) (ht : iR tm) (k : ∀ (ssz : Int) (sd sc : Int → Int), dwS (fun d => s (r * 84 + d)) most 84 ssz sd sc → Post none n (hV h ssz fnd tm wk mo to po wp sd sc pr sq fl db yu yl)) : zMP G mX6_drawDays [.ref 15, vi r, vi most] n (hV h ssz fnd tm wk mo to po wp sd sc pr sq fl db yu yl) Post := by
  refine zMP_of (by decide) [some _, some _, some _, none, none] (Nat.le_of_ble_eq_true rfl) rfl ?_
  refine zr_aload_n (pc := 0)  (i := 0) rfl rfl dX6_drawDays_0 ?_
  refine zr_iconst (pc := 1)  dX6_drawDays_1 ?_
  refine zr_put (pc := 2)  (oView _ _ _) (fp_X6_37 rfl) (by first | assumption | rfl | (repeat (first | assumption | exact zup_s | refine zup_g (by decide) ?_))) (Nat.le_of_ble_eq_true rfl) rfl rfl rfl dX6_drawDays_2 ?_
  refine zr_heap hV_15 ?_
  refine zr_iconst (pc := 5)  dX6_drawDays_5 ?_
  refine zs_istore_n_3 (pc := 6)  (by first | exact zn_i | exact zn_r | exact zn_0) (by decide) dX6_drawDays_6 ?_
  exact l_X6_drawDays hO hr hmo ht k 84 0 0 sd sc _ (by omega) (by omega) dwS_0
theorem limZ_R (wp : Int → Int) (r : Int) : 0 ≤ limZ wp r ∧ limZ wp r ≤ 14 := by unfold limZ; split <;> omega
theorem k_X6_sampleSizeOf {G : zG} {n : Nat} {h : zH} {Post : Option Value → Nat → zH → Prop} {r ssz fnd tm : Int} {s wk mo to po wp sd sc pr sq fl db : Int → Int} {yu yl : Int} (hO : stO h tm s) (hwp : ∀ i, wp i = 0 ∨ wp i = 1) (hr : 0 ≤ r ∧ r < 16) (ht : iR tm) (k : ∀ (ssz : Int) (sd sc : Int → Int), dwS (fun d => s (r * 84 + d)) (limZ wp r) 84 ssz sd sc → Post (some (vi ssz)) n (hV h ssz fnd tm wk mo to po wp sd sc pr sq fl db yu yl)) : zMP G mX6_sampleSizeOf [.ref 15, vi r] n (hV h ssz fnd tm wk mo to po wp sd sc pr sq fl db yu yl) Post := by
  have hli := limZ_R wp r
  refine zMP_of (by decide) [some _, some _] (Nat.le_of_ble_eq_true rfl) rfl ?_
  refine zr_aload_n (pc := 0)  (i := 0) rfl rfl dX6_sampleSizeOf_0 ?_
  refine zr_iload_n (pc := 1)  (i := 1) rfl rfl dX6_sampleSizeOf_1 ?_
  refine zr_aload_n (pc := 2)  (i := 0) rfl rfl dX6_sampleSizeOf_2 ?_
  refine zr_iload_n (pc := 3)  (i := 1) rfl rfl dX6_sampleSizeOf_3 ?_
  refine zv_call1 (pc := 4)  cv_X6_sampleSizeOf_92 (by first | assumption | rfl | (repeat (first | assumption | exact zup_s | refine zup_g (by decide) ?_))) ⟨_, rfl, rfl⟩ (Nat.le_of_ble_eq_true rfl) (by decide) dX6_sampleSizeOf_4 ?_
  refine k_X6_sampleLimit rfl rfl hwp hr ?_
  dsimp only [Option.toList, List.cons_append, List.nil_append]
  refine zv_call2 (pc := 7)  cv_X6_sampleSizeOf_95 (by first | assumption | rfl | (repeat (first | assumption | exact zup_s | refine zup_g (by decide) ?_))) ⟨_, rfl, rfl⟩ (Nat.le_of_ble_eq_true rfl) (by decide) dX6_sampleSizeOf_7 ?_
  refine k_X6_drawDays hO hr hli ht (fun ssz sd sc hT => ?_)
  dsimp only [Option.toList, List.cons_append, List.nil_append]
  refine zr_aload_n (pc := 10)  (i := 0) rfl rfl dX6_sampleSizeOf_10 ?_
  refine zr_get (pc := 11)  fl_X6_37 (by first | assumption | rfl | (repeat (first | assumption | exact zup_s | refine zup_g (by decide) ?_))) rfl dX6_sampleSizeOf_11 ?_
  refine zr_ireturn (pc := 14)  rfl (by decide) (by decide) dX6_sampleSizeOf_14 ?_
  exact k _ _ _ hT
/-- what a day is worth in a slot -/
def vlZ (wk mo : Int → Int) (sl d : Int) : Int := wk (sl * 7 + d % 7) * mo (sl * 12 + d / 7)
/-- bounds of a slot -/
def tbS (sl : Int) (wk mo to po : Int → Int) : Prop := (∀ i, 0 ≤ i → i < 7 → 0 ≤ wk (sl * 7 + i) ∧ wk (sl * 7 + i) ≤ 2400) ∧ (∀ i, 0 ≤ i → i < 12 → 0 ≤ mo (sl * 12 + i) ∧ mo (sl * 12 + i) ≤ 1400) ∧ (0 ≤ to sl ∧ to sl ≤ 16800) ∧ (0 ≤ po sl ∧ po sl ≤ 4)
theorem vlZ_R {wk mo to po : Int → Int} {sl d : Int} (h : tbS sl wk mo to po) (hd : 0 ≤ d ∧ d < 84) : 0 ≤ vlZ wk mo sl d ∧ vlZ wk mo sl d ≤ 3360000 := by
  have := mulB (h.1 (d % 7) (by omega) (by omega)) (h.2.1 (d / 7) (by omega) (by omega))
  unfold vlZ
  omega
noncomputable def wgP (wk mo to po sd sc : Int → Int) (ssz sl : Int) : Int := ind (0 < po sl ∧ to sl ≠ 0) * sumZ (fun i => vlZ wk mo sl (sd i) * sc i) ssz.toNat
noncomputable def wgQ (wk mo to po sd sc : Int → Int) (ssz sl : Int) : Int := ind (0 < po sl ∧ to sl ≠ 0) * sumZ (fun i => vlZ wk mo sl (sd i) * vlZ wk mo sl (sd i)) ssz.toNat
theorem l_X6_weighSample {G : zG} {n : Nat} {h : zH} {Post : Option Value → Nat → zH → Prop} {sl ssz fnd tm : Int} {wk mo to po wp sd sc pr sq fl db : Int → Int} {yu yl : Int} (h16 : h 16 = some oTal) (hs : 0 ≤ sl ∧ sl < 5) (hb : tbS sl wk mo to po) (hz : 0 ≤ ssz ∧ ssz ≤ 14) (hd : ∀ i, 0 ≤ i → i < ssz → (0 ≤ sd i ∧ sd i < 84) ∧ (0 ≤ sc i ∧ sc i ≤ 50)) (kk : Post none n (hV h ssz fnd tm wk mo to po wp sd sc (uZ pr sl (sumZ (fun i => vlZ wk mo sl (sd i) * sc i) ssz.toNat)) (uZ sq sl (sumZ (fun i => vlZ wk mo sl (sd i) * vlZ wk mo sl (sd i)) ssz.toNat)) fl db yu yl)) : ∀ (k m : Nat) (x3 x4 : Option Value), ssz - m ≤ k → (m : Int) ≤ ssz → zAW G mX6_weighSample zTT (zF G mX6_weighSample Post) 27 [some (.ref 15), some (vi sl), some (vi m), x3, x4] [] n (hV h ssz fnd tm wk mo to po wp sd sc (uZ pr sl (sumZ (fun i => vlZ wk mo sl (sd i) * sc i) m)) (uZ sq sl (sumZ (fun i => vlZ wk mo sl (sd i) * vlZ wk mo sl (sd i)) m)) fl db yu yl) 0 0 := by
  intro k
  induction k with
  | zero =>
    intro m x3 x4 hk hm
    obtain rfl : ssz = m := by omega
    refine zr_iload_n (pc := 27)  (i := 2) rfl rfl dX6_weighSample_27 ?_
    refine zr_aload_n (pc := 28)  (i := 0) rfl rfl dX6_weighSample_28 ?_
    refine zr_get (pc := 29)  fl_X6_37 (by first | assumption | rfl | (repeat (first | assumption | exact zup_s | refine zup_g (by decide) ?_))) rfl dX6_weighSample_29 ?_
    refine zr_icmp_ge (pc := 32)  (tgt := 87) ⟨by omega, by omega⟩ ⟨by omega, by omega⟩ (by decide) dX6_weighSample_32 (fun q32 => ?_) (fun q32 => ?_)
    · refine zr_vreturn (pc := 87)  rfl (by decide) (by decide) dX6_weighSample_87 ?_
      exact kk
    · exact absurd q32 (by omega)
  | succ k ih =>
    intro m x3 x4 hk hm
    refine zr_iload_n (pc := 27)  (i := 2) rfl rfl dX6_weighSample_27 ?_
    refine zr_aload_n (pc := 28)  (i := 0) rfl rfl dX6_weighSample_28 ?_
    refine zr_get (pc := 29)  fl_X6_37 (by first | assumption | rfl | (repeat (first | assumption | exact zup_s | refine zup_g (by decide) ?_))) rfl dX6_weighSample_29 ?_
    refine zr_icmp_ge (pc := 32)  (tgt := 87) ⟨by omega, by omega⟩ ⟨by omega, by omega⟩ (by decide) dX6_weighSample_32 (fun q32 => ?_) (fun q32 => ?_)
    · refine zr_vreturn (pc := 87)  rfl (by decide) (by decide) dX6_weighSample_87 ?_
      obtain rfl : ssz = m := by omega
      exact kk
    · have hdm := hd m (by omega) (by omega)
      have hv := vlZ_R hb hdm.1
      refine zr_aload_n (pc := 35)  (i := 0) rfl rfl dX6_weighSample_35 ?_
      refine zr_get (pc := 36)  fl_X6_22 (by first | assumption | rfl | (repeat (first | assumption | exact zup_s | refine zup_g (by decide) ?_))) rfl dX6_weighSample_36 ?_
      refine zr_iload_n (pc := 39)  (i := 1) rfl rfl dX6_weighSample_39 ?_
      refine zr_aload_n (pc := 40)  (i := 0) rfl rfl dX6_weighSample_40 ?_
      refine zr_get (pc := 41)  fl_X6_30 (by first | assumption | rfl | (repeat (first | assumption | exact zup_s | refine zup_g (by decide) ?_))) rfl dX6_weighSample_41 ?_
      refine zr_iload_n (pc := 44)  (i := 2) rfl rfl dX6_weighSample_44 ?_
      refine zr_iald (pc := 45)  (by first | assumption | rfl | (repeat (first | assumption | exact zup_s | refine zup_g (by decide) ?_))) ⟨by omega, by omega⟩ (by decide) dX6_weighSample_45 ?_
      refine zv_call2 (pc := 46)  cv_X6_weighSample_88 (by first | assumption | rfl | (repeat (first | assumption | exact zup_s | refine zup_g (by decide) ?_))) ⟨_, rfl, rfl⟩ (Nat.le_of_ble_eq_true rfl) (by decide) dX6_weighSample_46 ?_
      refine k_X4_value (by assumption) rfl rfl hs hdm.1 ?_
      dsimp only [Option.toList, List.cons_append, List.nil_append]
      refine zr_eqi (show _ = vlZ wk mo sl (sd m) from rfl) ?_
      refine zr_i2l (pc := 49)  ⟨by omega, by omega⟩ dX6_weighSample_49 ?_
      refine zs_lstore_n_3 (pc := 50)  (by first | exact zn_i | exact zn_r | exact zn_0) (by decide) dX6_weighSample_50 ?_
      refine zr_aload_n (pc := 51)  (i := 0) rfl rfl dX6_weighSample_51 ?_
      refine zr_get (pc := 52)  fl_X6_41 (by first | assumption | rfl | (repeat (first | assumption | exact zup_s | refine zup_g (by decide) ?_))) rfl dX6_weighSample_52 ?_
      refine zr_iload_n (pc := 55)  (i := 1) rfl rfl dX6_weighSample_55 ?_
      first | refine zr_dup2 (pc := 56)  rfl rfl dX6_weighSample_56 ?_ | refine zr_dup2L (pc := 56)  rfl dX6_weighSample_56 ?_
      refine zr_lald (pc := 57)  (by first | assumption | rfl | (repeat (first | assumption | exact zup_s | refine zup_g (by decide) ?_))) ⟨by omega, by omega⟩ (by decide) dX6_weighSample_57 ?_
      refine zr_lload_n (pc := 58)  (i := 3) rfl rfl dX6_weighSample_58 ?_
      refine zr_aload_n (pc := 59)  (i := 0) rfl rfl dX6_weighSample_59 ?_
      refine zr_get (pc := 60)  fl_X6_34 (by first | assumption | rfl | (repeat (first | assumption | exact zup_s | refine zup_g (by decide) ?_))) rfl dX6_weighSample_60 ?_
      refine zr_iload_n (pc := 63)  (i := 2) rfl rfl dX6_weighSample_63 ?_
      refine zr_iald (pc := 64)  (by first | assumption | rfl | (repeat (first | assumption | exact zup_s | refine zup_g (by decide) ?_))) ⟨by omega, by omega⟩ (by decide) dX6_weighSample_64 ?_
      refine zr_i2l (pc := 65)  ⟨by omega, by omega⟩ dX6_weighSample_65 ?_
      refine zr_lmul (pc := 66)  dX6_weighSample_66 ?_
      refine zr_ladd (pc := 67)  dX6_weighSample_67 ?_
      refine zr_last (pc := 68)  (by first | assumption | rfl | (repeat (first | assumption | exact zup_s | refine zup_g (by decide) ?_))) ⟨by omega, by omega⟩ (by decide) dX6_weighSample_68 ?_
      refine zr_heap hV_24 ?_
      refine zr_aload_n (pc := 69)  (i := 0) rfl rfl dX6_weighSample_69 ?_
      refine zr_get (pc := 70)  fl_X6_45 (by first | assumption | rfl | (repeat (first | assumption | exact zup_s | refine zup_g (by decide) ?_))) rfl dX6_weighSample_70 ?_
      refine zr_iload_n (pc := 73)  (i := 1) rfl rfl dX6_weighSample_73 ?_
      first | refine zr_dup2 (pc := 74)  rfl rfl dX6_weighSample_74 ?_ | refine zr_dup2L (pc := 74)  rfl dX6_weighSample_74 ?_
      refine zr_lald (pc := 75)  (by first | assumption | rfl | (repeat (first | assumption | exact zup_s | refine zup_g (by decide) ?_))) ⟨by omega, by omega⟩ (by decide) dX6_weighSample_75 ?_
      refine zr_lload_n (pc := 76)  (i := 3) rfl rfl dX6_weighSample_76 ?_
      refine zr_lload_n (pc := 77)  (i := 3) rfl rfl dX6_weighSample_77 ?_
      refine zr_lmul (pc := 78)  dX6_weighSample_78 ?_
      refine zr_ladd (pc := 79)  dX6_weighSample_79 ?_
      refine zr_last (pc := 80)  (by first | assumption | rfl | (repeat (first | assumption | exact zup_s | refine zup_g (by decide) ?_))) ⟨by omega, by omega⟩ (by decide) dX6_weighSample_80 ?_
      refine zr_heap hV_25 ?_
      refine zs_iinc_2 (pc := 81)  (by first | exact zn_i | exact zn_r | exact zn_0) (by decide) dX6_weighSample_81 ?_
      refine zr_goto (pc := 84)  (tgt := 27) (by decide) dX6_weighSample_84 ?_
      refine zr_heap (show _ = hV h ssz fnd tm wk mo to po wp sd sc (uZ pr sl (sumZ (fun i => vlZ wk mo sl (sd i) * sc i) (m + 1))) (uZ sq sl (sumZ (fun i => vlZ wk mo sl (sd i) * vlZ wk mo sl (sd i)) (m + 1))) fl db yu yl from by rw [uZ_uZ, uZ_uZ, uZ_s, uZ_s]; rfl) ?_
      exact ih (m + 1) _ _ (by omega) (by omega)
theorem k_X6_weighSample {G : zG} {n : Nat} {h : zH} {Post : Option Value → Nat → zH → Prop} {sl ssz fnd tm : Int} {wk mo to po wp sd sc pr sq fl db : Int → Int} {yu yl : Int} (h16 : h 16 = some oTal) (hs : 0 ≤ sl ∧ sl < 5) (hb : tbS sl wk mo to po) (hz : 0 ≤ ssz ∧ ssz ≤ 14) (hd : ∀ i, 0 ≤ i → i < ssz → (0 ≤ sd i ∧ sd i < 84) ∧ (0 ≤ sc i ∧ sc i ≤ 50)) (k : Post none n (hV h ssz fnd tm wk mo to po wp sd sc (uZ pr sl (wgP wk mo to po sd sc ssz sl)) (uZ sq sl (wgQ wk mo to po sd sc ssz sl)) fl db yu yl)) : zMP G mX6_weighSample [.ref 15, vi sl] n (hV h ssz fnd tm wk mo to po wp sd sc pr sq fl db yu yl) Post := by
  have hb3 := hb.2.2.1
  have hb4 := hb.2.2.2
  unfold wgP wgQ at k
  refine zMP_of (by decide) [some _, some _, none, none, none] (Nat.le_of_ble_eq_true rfl) rfl ?_
  refine zr_aload_n (pc := 0)  (i := 0) rfl rfl dX6_weighSample_0 ?_
  refine zr_get (pc := 1)  fl_X6_41 (by first | assumption | rfl | (repeat (first | assumption | exact zup_s | refine zup_g (by decide) ?_))) rfl dX6_weighSample_1 ?_
  refine zr_iload_n (pc := 4)  (i := 1) rfl rfl dX6_weighSample_4 ?_
  refine zr_lconst (pc := 5)  (z := 0) (by decide) dX6_weighSample_5 ?_
  refine zr_last (pc := 6)  (by first | assumption | rfl | (repeat (first | assumption | exact zup_s | refine zup_g (by decide) ?_))) ⟨by omega, by omega⟩ (by decide) dX6_weighSample_6 ?_
  refine zr_heap hV_24 ?_
  refine zr_aload_n (pc := 7)  (i := 0) rfl rfl dX6_weighSample_7 ?_
  refine zr_get (pc := 8)  fl_X6_45 (by first | assumption | rfl | (repeat (first | assumption | exact zup_s | refine zup_g (by decide) ?_))) rfl dX6_weighSample_8 ?_
  refine zr_iload_n (pc := 11)  (i := 1) rfl rfl dX6_weighSample_11 ?_
  refine zr_lconst (pc := 12)  (z := 0) (by decide) dX6_weighSample_12 ?_
  refine zr_last (pc := 13)  (by first | assumption | rfl | (repeat (first | assumption | exact zup_s | refine zup_g (by decide) ?_))) ⟨by omega, by omega⟩ (by decide) dX6_weighSample_13 ?_
  refine zr_heap hV_25 ?_
  refine zr_aload_n (pc := 14)  (i := 0) rfl rfl dX6_weighSample_14 ?_
  refine zr_get (pc := 15)  fl_X6_22 (by first | assumption | rfl | (repeat (first | assumption | exact zup_s | refine zup_g (by decide) ?_))) rfl dX6_weighSample_15 ?_
  refine zr_iload_n (pc := 18)  (i := 1) rfl rfl dX6_weighSample_18 ?_
  refine zv_call1 (pc := 19)  cv_X6_weighSample_81 (by first | assumption | rfl | (repeat (first | assumption | exact zup_s | refine zup_g (by decide) ?_))) ⟨_, rfl, rfl⟩ (Nat.le_of_ble_eq_true rfl) (by decide) dX6_weighSample_19 ?_
  refine k_X4_isThere (by first | assumption | omega | (refine ⟨?_, ?_⟩ <;> omega) | rfl | (repeat (first | assumption | exact zup_s | refine zup_g (by decide) ?_))) (by first | assumption | omega | (refine ⟨?_, ?_⟩ <;> omega) | rfl | (repeat (first | assumption | exact zup_s | refine zup_g (by decide) ?_))) (by first | assumption | omega | (refine ⟨?_, ?_⟩ <;> omega) | rfl | (repeat (first | assumption | exact zup_s | refine zup_g (by decide) ?_))) (by first | assumption | omega | (refine ⟨?_, ?_⟩ <;> omega) | rfl | (repeat (first | assumption | exact zup_s | refine zup_g (by decide) ?_))) (by first | assumption | omega | (refine ⟨?_, ?_⟩ <;> omega) | rfl | (repeat (first | assumption | exact zup_s | refine zup_g (by decide) ?_))) (by first | assumption | omega | (refine ⟨?_, ?_⟩ <;> omega) | rfl | (repeat (first | assumption | exact zup_s | refine zup_g (by decide) ?_))) ?_
  dsimp only [Option.toList, List.cons_append, List.nil_append]
  refine zb_eq (pc := 22) (tgt := 87) (by decide) dX6_weighSample_22 (fun q22 => ?_) (fun q22 => ?_)
  · refine zr_vreturn (pc := 87)  rfl (by decide) (by decide) dX6_weighSample_87 ?_
    rw [ind_f q22, Int.zero_mul, Int.zero_mul] at k
    exact k
  · refine zr_iconst (pc := 25)  dX6_weighSample_25 ?_
    refine zs_istore_n_2 (pc := 26)  (by first | exact zn_i | exact zn_r | exact zn_0) (by decide) dX6_weighSample_26 ?_
    rw [ind_t q22, Int.one_mul, Int.one_mul] at k
    exact l_X6_weighSample h16 hs hb hz hd k 14 0 _ _ (by omega) (by omega)
