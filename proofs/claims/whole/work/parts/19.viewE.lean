theorem sgZ_R (x : Int) : -1 ≤ sgZ x ∧ sgZ x ≤ 1 := by unfold sgZ; split <;> (try split) <;> omega
/-- group o fits ahead of group g -/
def ahP (pr sq : Int → Int) (g o : Int) : Prop := o ≠ g ∧ 0 < sq o ∧ (0 < sgZ (pr o * pr o * sq g - pr g * pr g * sq o) ∨ (sgZ (pr o * pr o * sq g - pr g * pr g * sq o) = 0 ∧ o < g))
noncomputable def ahZ (pr sq : Int → Int) (g : Int) : Int := sumZ (fun o => ind (ahP pr sq g o)) 4
def psB (pr sq : Int → Int) : Prop := ∀ i, 0 ≤ i → i < 4 → (0 ≤ pr i ∧ pr i ≤ 2352000000) ∧ (0 ≤ sq i ∧ sq i ≤ 158054400000000)
theorem l_X6_fitsAhead {G : zG} {n : Nat} {h : zH} {Post : Option Value → Nat → zH → Prop} {ssz fnd tm g : Int} {pr sq : Int → Int} (h15 : h 15 = some (oView ssz fnd tm)) (h24 : h 24 = some (aJ 5 pr)) (h25 : h 25 = some (aJ 5 sq)) (hg : 0 ≤ g ∧ g < 4) (hb : psB pr sq) (hsg : 0 < sq g) (kk : Post (some (vi (ahZ pr sq g))) n h) : ∀ (k m : Nat) (ct : Int) (x4 : Option Value), 4 - m ≤ k → m ≤ 4 → ct = sumZ (fun o => ind (ahP pr sq g o)) m → zAW G mX6_fitsAhead zTT (zF G mX6_fitsAhead Post) 4 [some (.ref 15), some (vi g), some (vi ct), some (vi m), x4] [] n h 0 0 := by
  intro k
  induction k with
  | zero =>
    intro m ct x4 hk hm hT
    obtain rfl : m = 4 := by omega
    refine zr_iload_n (pc := 4)  (i := 3) rfl rfl dX6_fitsAhead_4 ?_
    refine zr_iconst (pc := 5)  dX6_fitsAhead_5 ?_
    refine zr_icmp_ge (pc := 6)  (tgt := 89) ⟨by omega, by omega⟩ ⟨by omega, by omega⟩ (by decide) dX6_fitsAhead_6 (fun q6 => ?_) (fun q6 => ?_)
    · refine zr_iload_n (pc := 89)  (i := 2) rfl rfl dX6_fitsAhead_89 ?_
      refine zr_ireturn (pc := 90)  rfl (by decide) (by decide) dX6_fitsAhead_90 ?_
      rw [hT]
      exact kk
    · exact absurd q6 (by omega)
  | succ k ih =>
    intro m ct x4 hk hm hT
    have hs1 : ahP pr sq g m → ct + 1 = sumZ (fun o => ind (ahP pr sq g o)) (m + 1) := fun q => by
      show _ = _ + ind (ahP pr sq g m); rw [ind_t q, ← hT]
    have hs0 : ¬ ahP pr sq g m → ct = sumZ (fun o => ind (ahP pr sq g o)) (m + 1) := fun q => by
      show _ = _ + ind (ahP pr sq g m); rw [ind_f q, ← hT, Int.add_zero]
    have hbg := hb g hg.1 hg.2
    have hpg := mulB hbg.1 hbg.1
    have hsr := sgZ_R (pr m * pr m * sq g - pr g * pr g * sq m)
    refine zr_iload_n (pc := 4)  (i := 3) rfl rfl dX6_fitsAhead_4 ?_
    refine zr_iconst (pc := 5)  dX6_fitsAhead_5 ?_
    refine zr_icmp_ge (pc := 6)  (tgt := 89) ⟨by omega, by omega⟩ ⟨by omega, by omega⟩ (by decide) dX6_fitsAhead_6 (fun q6 => ?_) (fun q6 => ?_)
    · refine zr_iload_n (pc := 89)  (i := 2) rfl rfl dX6_fitsAhead_89 ?_
      refine zr_ireturn (pc := 90)  rfl (by decide) (by decide) dX6_fitsAhead_90 ?_
      obtain rfl : m = 4 := by omega
      rw [hT]
      exact kk
    · refine zr_iload_n (pc := 9)  (i := 3) rfl rfl dX6_fitsAhead_9 ?_
      refine zr_iload_n (pc := 10)  (i := 1) rfl rfl dX6_fitsAhead_10 ?_
      refine zr_icmp_eq (pc := 11)  (tgt := 83) ⟨by omega, by omega⟩ ⟨by omega, by omega⟩ (by decide) dX6_fitsAhead_11 (fun q11 => ?_) (fun q11 => ?_)
      · refine zs_iinc_3 (pc := 83)  (by first | exact zn_i | exact zn_r | exact zn_0) (by decide) dX6_fitsAhead_83 ?_
        refine zr_goto (pc := 86)  (tgt := 4) (by decide) dX6_fitsAhead_86 ?_
        first | exact ih (m + 1) _ _ (by omega) (by omega) (hs0 (fun u => by obtain ⟨u1, u2, u3⟩ := u; omega)) | exact ih (m + 1) _ _ (by omega) (by omega) (hs1 ⟨by omega, by omega, by omega⟩)
      · have hbm := hb m (by omega) (by omega)
        have hpm := mulB hbm.1 hbm.1
        refine zr_aload_n (pc := 14)  (i := 0) rfl rfl dX6_fitsAhead_14 ?_
        refine zr_iload_n (pc := 15)  (i := 3) rfl rfl dX6_fitsAhead_15 ?_
        refine zv_call1 (pc := 16)  cv_X6_fitsAhead_103 (by first | assumption | rfl | (repeat (first | assumption | exact zup_s | refine zup_g (by decide) ?_))) ⟨_, rfl, rfl⟩ (Nat.le_of_ble_eq_true rfl) (by decide) dX6_fitsAhead_16 ?_
        refine k_X6_fits (by first | assumption | omega | (refine ⟨?_, ?_⟩ <;> omega) | rfl | (repeat (first | assumption | exact zup_s | refine zup_g (by decide) ?_))) (by first | assumption | omega | (refine ⟨?_, ?_⟩ <;> omega) | rfl | (repeat (first | assumption | exact zup_s | refine zup_g (by decide) ?_))) (by first | assumption | omega | (refine ⟨?_, ?_⟩ <;> omega) | rfl | (repeat (first | assumption | exact zup_s | refine zup_g (by decide) ?_))) (by first | assumption | omega | (refine ⟨?_, ?_⟩ <;> omega) | rfl | (repeat (first | assumption | exact zup_s | refine zup_g (by decide) ?_))) ?_
        dsimp only [Option.toList, List.cons_append, List.nil_append]
        refine zb_eq (pc := 19) (tgt := 83) (by decide) dX6_fitsAhead_19 (fun q19 => ?_) (fun q19 => ?_)
        · refine zs_iinc_3 (pc := 83)  (by first | exact zn_i | exact zn_r | exact zn_0) (by decide) dX6_fitsAhead_83 ?_
          refine zr_goto (pc := 86)  (tgt := 4) (by decide) dX6_fitsAhead_86 ?_
          first | exact ih (m + 1) _ _ (by omega) (by omega) (hs0 (fun u => by obtain ⟨u1, u2, u3⟩ := u; omega)) | exact ih (m + 1) _ _ (by omega) (by omega) (hs1 ⟨by omega, by omega, by omega⟩)
        · refine zr_aload_n (pc := 22)  (i := 0) rfl rfl dX6_fitsAhead_22 ?_
          refine zr_get (pc := 23)  fl_X6_41 (by first | assumption | rfl | (repeat (first | assumption | exact zup_s | refine zup_g (by decide) ?_))) rfl dX6_fitsAhead_23 ?_
          refine zr_iload_n (pc := 26)  (i := 3) rfl rfl dX6_fitsAhead_26 ?_
          refine zr_lald (pc := 27)  (by first | assumption | rfl | (repeat (first | assumption | exact zup_s | refine zup_g (by decide) ?_))) ⟨by omega, by omega⟩ (by decide) dX6_fitsAhead_27 ?_
          refine zr_aload_n (pc := 28)  (i := 0) rfl rfl dX6_fitsAhead_28 ?_
          refine zr_get (pc := 29)  fl_X6_41 (by first | assumption | rfl | (repeat (first | assumption | exact zup_s | refine zup_g (by decide) ?_))) rfl dX6_fitsAhead_29 ?_
          refine zr_iload_n (pc := 32)  (i := 3) rfl rfl dX6_fitsAhead_32 ?_
          refine zr_lald (pc := 33)  (by first | assumption | rfl | (repeat (first | assumption | exact zup_s | refine zup_g (by decide) ?_))) ⟨by omega, by omega⟩ (by decide) dX6_fitsAhead_33 ?_
          refine zr_lmul (pc := 34)  dX6_fitsAhead_34 ?_
          refine zr_aload_n (pc := 35)  (i := 0) rfl rfl dX6_fitsAhead_35 ?_
          refine zr_get (pc := 36)  fl_X6_45 (by first | assumption | rfl | (repeat (first | assumption | exact zup_s | refine zup_g (by decide) ?_))) rfl dX6_fitsAhead_36 ?_
          refine zr_iload_n (pc := 39)  (i := 3) rfl rfl dX6_fitsAhead_39 ?_
          refine zr_lald (pc := 40)  (by first | assumption | rfl | (repeat (first | assumption | exact zup_s | refine zup_g (by decide) ?_))) ⟨by omega, by omega⟩ (by decide) dX6_fitsAhead_40 ?_
          refine zr_aload_n (pc := 41)  (i := 0) rfl rfl dX6_fitsAhead_41 ?_
          refine zr_get (pc := 42)  fl_X6_41 (by first | assumption | rfl | (repeat (first | assumption | exact zup_s | refine zup_g (by decide) ?_))) rfl dX6_fitsAhead_42 ?_
          refine zr_iload_n (pc := 45)  (i := 1) rfl rfl dX6_fitsAhead_45 ?_
          refine zr_lald (pc := 46)  (by first | assumption | rfl | (repeat (first | assumption | exact zup_s | refine zup_g (by decide) ?_))) ⟨by omega, by omega⟩ (by decide) dX6_fitsAhead_46 ?_
          refine zr_aload_n (pc := 47)  (i := 0) rfl rfl dX6_fitsAhead_47 ?_
          refine zr_get (pc := 48)  fl_X6_41 (by first | assumption | rfl | (repeat (first | assumption | exact zup_s | refine zup_g (by decide) ?_))) rfl dX6_fitsAhead_48 ?_
          refine zr_iload_n (pc := 51)  (i := 1) rfl rfl dX6_fitsAhead_51 ?_
          refine zr_lald (pc := 52)  (by first | assumption | rfl | (repeat (first | assumption | exact zup_s | refine zup_g (by decide) ?_))) ⟨by omega, by omega⟩ (by decide) dX6_fitsAhead_52 ?_
          refine zr_lmul (pc := 53)  dX6_fitsAhead_53 ?_
          refine zr_aload_n (pc := 54)  (i := 0) rfl rfl dX6_fitsAhead_54 ?_
          refine zr_get (pc := 55)  fl_X6_45 (by first | assumption | rfl | (repeat (first | assumption | exact zup_s | refine zup_g (by decide) ?_))) rfl dX6_fitsAhead_55 ?_
          refine zr_iload_n (pc := 58)  (i := 1) rfl rfl dX6_fitsAhead_58 ?_
          refine zr_lald (pc := 59)  (by first | assumption | rfl | (repeat (first | assumption | exact zup_s | refine zup_g (by decide) ?_))) ⟨by omega, by omega⟩ (by decide) dX6_fitsAhead_59 ?_
          refine zc_call4 (pc := 60)  cs_X6_fitsAhead_164 (Nat.le_of_ble_eq_true rfl) (by decide) dX6_fitsAhead_60 ?_
          refine k_X2_order (by first | assumption | omega | (refine ⟨?_, ?_⟩ <;> omega) | rfl | (repeat (first | assumption | exact zup_s | refine zup_g (by decide) ?_))) (by first | assumption | omega | (refine ⟨?_, ?_⟩ <;> omega) | rfl | (repeat (first | assumption | exact zup_s | refine zup_g (by decide) ?_))) (by first | assumption | omega | (refine ⟨?_, ?_⟩ <;> omega) | rfl | (repeat (first | assumption | exact zup_s | refine zup_g (by decide) ?_))) (by first | assumption | omega | (refine ⟨?_, ?_⟩ <;> omega) | rfl | (repeat (first | assumption | exact zup_s | refine zup_g (by decide) ?_))) ?_
          dsimp only [Option.toList, List.cons_append, List.nil_append]
          refine zs_istore_4 (pc := 63)  (by first | exact zn_i | exact zn_r | exact zn_0) (by decide) dX6_fitsAhead_63 ?_
          refine zr_iload (pc := 65)  rfl dX6_fitsAhead_65 ?_
          refine zr_if_gt (pc := 67)  (tgt := 80) ⟨by omega, by omega⟩ (by decide) dX6_fitsAhead_67 (fun q67 => ?_) (fun q67 => ?_)
          · refine zs_iinc_2 (pc := 80)  (by first | exact zn_i | exact zn_r | exact zn_0) (by decide) dX6_fitsAhead_80 ?_
            refine zs_iinc_3 (pc := 83)  (by first | exact zn_i | exact zn_r | exact zn_0) (by decide) dX6_fitsAhead_83 ?_
            refine zr_goto (pc := 86)  (tgt := 4) (by decide) dX6_fitsAhead_86 ?_
            first | exact ih (m + 1) _ _ (by omega) (by omega) (hs0 (fun u => by obtain ⟨u1, u2, u3⟩ := u; omega)) | exact ih (m + 1) _ _ (by omega) (by omega) (hs1 ⟨by omega, by omega, by omega⟩)
          · refine zr_iload (pc := 70)  rfl dX6_fitsAhead_70 ?_
            refine zr_if_ne (pc := 72)  (tgt := 83) ⟨by omega, by omega⟩ (by decide) dX6_fitsAhead_72 (fun q72 => ?_) (fun q72 => ?_)
            · refine zs_iinc_3 (pc := 83)  (by first | exact zn_i | exact zn_r | exact zn_0) (by decide) dX6_fitsAhead_83 ?_
              refine zr_goto (pc := 86)  (tgt := 4) (by decide) dX6_fitsAhead_86 ?_
              first | exact ih (m + 1) _ _ (by omega) (by omega) (hs0 (fun u => by obtain ⟨u1, u2, u3⟩ := u; omega)) | exact ih (m + 1) _ _ (by omega) (by omega) (hs1 ⟨by omega, by omega, by omega⟩)
            · refine zr_iload_n (pc := 75)  (i := 3) rfl rfl dX6_fitsAhead_75 ?_
              refine zr_iload_n (pc := 76)  (i := 1) rfl rfl dX6_fitsAhead_76 ?_
              refine zr_icmp_ge (pc := 77)  (tgt := 83) ⟨by omega, by omega⟩ ⟨by omega, by omega⟩ (by decide) dX6_fitsAhead_77 (fun q77 => ?_) (fun q77 => ?_)
              · refine zs_iinc_3 (pc := 83)  (by first | exact zn_i | exact zn_r | exact zn_0) (by decide) dX6_fitsAhead_83 ?_
                refine zr_goto (pc := 86)  (tgt := 4) (by decide) dX6_fitsAhead_86 ?_
                first | exact ih (m + 1) _ _ (by omega) (by omega) (hs0 (fun u => by obtain ⟨u1, u2, u3⟩ := u; omega)) | exact ih (m + 1) _ _ (by omega) (by omega) (hs1 ⟨by omega, by omega, by omega⟩)
              · refine zs_iinc_2 (pc := 80)  (by first | exact zn_i | exact zn_r | exact zn_0) (by decide) dX6_fitsAhead_80 ?_
                refine zs_iinc_3 (pc := 83)  (by first | exact zn_i | exact zn_r | exact zn_0) (by decide) dX6_fitsAhead_83 ?_
                refine zr_goto (pc := 86)  (tgt := 4) (by decide) dX6_fitsAhead_86 ?_
                first | exact ih (m + 1) _ _ (by omega) (by omega) (hs0 (fun u => by obtain ⟨u1, u2, u3⟩ := u; omega)) | exact ih (m + 1) _ _ (by omega) (by omega) (hs1 ⟨by omega, by omega, by omega⟩)
theorem k_X6_fitsAhead {G : zG} {n : Nat} {h : zH} {Post : Option Value → Nat → zH → Prop} {ssz fnd tm g : Int} {pr sq : Int → Int} (h15 : h 15 = some (oView ssz fnd tm)) (h24 : h 24 = some (aJ 5 pr)) (h25 : h 25 = some (aJ 5 sq)) (hg : 0 ≤ g ∧ g < 4) (hb : psB pr sq) (hsg : 0 < sq g) (k : Post (some (vi (ahZ pr sq g))) n h) : zMP G mX6_fitsAhead [.ref 15, vi g] n h Post := by
  refine zMP_of (by decide) [some _, some _, none, none, none] (Nat.le_of_ble_eq_true rfl) rfl ?_
  refine zr_iconst (pc := 0)  dX6_fitsAhead_0 ?_
  refine zs_istore_n_2 (pc := 1)  (by first | exact zn_i | exact zn_r | exact zn_0) (by decide) dX6_fitsAhead_1 ?_
  refine zr_iconst (pc := 2)  dX6_fitsAhead_2 ?_
  refine zs_istore_n_3 (pc := 3)  (by first | exact zn_i | exact zn_r | exact zn_0) (by decide) dX6_fitsAhead_3 ?_
  exact l_X6_fitsAhead h15 h24 h25 hg hb hsg k 4 0 0 _ (by omega) (by omega) rfl
/-- the first of four with c, or -1 -/
noncomputable def fs4 (c : Int → Prop) : Int := by classical exact if c 0 then 0 else if c 1 then 1 else if c 2 then 2 else if c 3 then 3 else -1
theorem fs4_R (c : Int → Prop) : -1 ≤ fs4 c ∧ fs4 c < 4 := by
  unfold fs4
  split
  · omega
  · split
    · omega
    · split
      · omega
      · split <;> omega
theorem fs4_none {c : Int → Prop} (h : ∀ g, 0 ≤ g → g < 4 → ¬ c g) : fs4 c = -1 := by
  unfold fs4
  rw [if_neg (h 0 (by omega) (by omega)), if_neg (h 1 (by omega) (by omega)), if_neg (h 2 (by omega) (by omega)), if_neg (h 3 (by omega) (by omega))]
theorem fs4_at {c : Int → Prop} {m : Int} (hm : 0 ≤ m ∧ m < 4) (h : ∀ g, 0 ≤ g → g < m → ¬ c g) (hc : c m) : fs4 c = m := by
  unfold fs4
  rcases (show m = 0 ∨ m = 1 ∨ m = 2 ∨ m = 3 by omega) with rfl | rfl | rfl | rfl
  · rw [if_pos hc]
  · rw [if_neg (h 0 (by omega) (by omega)), if_pos hc]
  · rw [if_neg (h 0 (by omega) (by omega)), if_neg (h 1 (by omega) (by omega)), if_pos hc]
  · rw [if_neg (h 0 (by omega) (by omega)), if_neg (h 1 (by omega) (by omega)), if_neg (h 2 (by omega) (by omega)), if_pos hc]
theorem fs4_t {c : Int → Prop} (h : fs4 c ≠ -1) : c (fs4 c) := by
  unfold fs4 at h ⊢
  split
  · assumption
  · rename_i q0; rw [if_neg q0] at h
    split
    · assumption
    · rename_i q1; rw [if_neg q1] at h
      split
      · assumption
      · rename_i q2; rw [if_neg q2] at h
        split
        · assumption
        · rename_i q3; rw [if_neg q3] at h; exact absurd rfl h
theorem fs4_congr {c d : Int → Prop} (h : ∀ g, 0 ≤ g → g < 4 → (c g ↔ d g)) : fs4 c = fs4 d := by
  unfold fs4
  by_cases h0 : c 0
  · rw [if_pos h0, if_pos ((h 0 (by omega) (by omega)).mp h0)]
  · rw [if_neg h0, if_neg (fun q => h0 ((h 0 (by omega) (by omega)).mpr q))]
    by_cases h1 : c 1
    · rw [if_pos h1, if_pos ((h 1 (by omega) (by omega)).mp h1)]
    · rw [if_neg h1, if_neg (fun q => h1 ((h 1 (by omega) (by omega)).mpr q))]
      by_cases h2 : c 2
      · rw [if_pos h2, if_pos ((h 2 (by omega) (by omega)).mp h2)]
      · rw [if_neg h2, if_neg (fun q => h2 ((h 2 (by omega) (by omega)).mpr q))]
        by_cases h3 : c 3
        · rw [if_pos h3, if_pos ((h 3 (by omega) (by omega)).mp h3)]
        · rw [if_neg h3, if_neg (fun q => h3 ((h 3 (by omega) (by omega)).mpr q))]
/-- a road's sums with a group: count times worth, worth squared -/
noncomputable def PZ (wk mo to po f : Int → Int) (lim g : Int) : Int := ind (0 < po g ∧ to g ≠ 0) * sumD f lim (fun d => vlZ wk mo g d * f d) 84
noncomputable def QZ (wk mo to po f : Int → Int) (lim g : Int) : Int := ind (0 < po g ∧ to g ≠ 0) * sumD f lim (fun d => vlZ wk mo g d * vlZ wk mo g d) 84
/-- which group has rank k -/
noncomputable def rkZ (pr sq : Int → Int) (k : Int) : Int := fs4 (fun g => 0 < sq g ∧ ahZ pr sq g = k)
theorem ahZ_congr {pr sq pr2 sq2 : Int → Int} (h : ∀ g, 0 ≤ g → g < 4 → pr2 g = pr g ∧ sq2 g = sq g) {g : Int} (hg : 0 ≤ g ∧ g < 4) : ahZ pr2 sq2 g = ahZ pr sq g := by
  unfold ahZ
  refine sumZ_congr 4 (fun j a b => ?_)
  have h1 := h j a (by omega)
  have h2 := h g hg.1 hg.2
  unfold ahP
  rw [h1.1, h1.2, h2.1, h2.2]
theorem rkZ_congr {pr sq pr2 sq2 : Int → Int} {k : Int} (h : ∀ g, 0 ≤ g → g < 4 → pr2 g = pr g ∧ sq2 g = sq g) : rkZ pr2 sq2 k = rkZ pr sq k := by
  unfold rkZ
  refine fs4_congr (fun g a b => ?_)
  rw [(h g a b).2, ahZ_congr h ⟨a, b⟩]
theorem wgP_eq {wk mo to po sd sc f : Int → Int} {lim ssz g : Int} (h : dwS f lim 84 ssz sd sc) : wgP wk mo to po sd sc ssz g = PZ wk mo to po f lim g := by
  unfold wgP PZ
  rw [h.2.1 (fun d c => vlZ wk mo g d * c)]
theorem wgQ_eq {wk mo to po sd sc f : Int → Int} {lim ssz g : Int} (h : dwS f lim 84 ssz sd sc) : wgQ wk mo to po sd sc ssz g = QZ wk mo to po f lim g := by
  unfold wgQ QZ
  rw [h.2.1 (fun d c => vlZ wk mo g d * vlZ wk mo g d)]
theorem wg_R {wk mo to po sd sc : Int → Int} {ssz g : Int} (hb : tbS g wk mo to po) (hz : 0 ≤ ssz ∧ ssz ≤ 14) (hd : ∀ i, 0 ≤ i → i < ssz → (0 ≤ sd i ∧ sd i < 84) ∧ (0 ≤ sc i ∧ sc i ≤ 50)) : (0 ≤ wgP wk mo to po sd sc ssz g ∧ wgP wk mo to po sd sc ssz g ≤ 2352000000) ∧ (0 ≤ wgQ wk mo to po sd sc ssz g ∧ wgQ wk mo to po sd sc ssz g ≤ 158054400000000) := by
  have h1 := sumZ_R (f := fun i => vlZ wk mo g (sd i) * sc i) (B := 168000000) ssz.toNat (fun j a b => by
    have h9 := hd j a (by omega)
    have := mulB (vlZ_R hb h9.1) h9.2
    omega)
  have h2 := sumZ_R (f := fun i => vlZ wk mo g (sd i) * vlZ wk mo g (sd i)) (B := 11289600000000) ssz.toNat (fun j a b => by
    have h9 := hd j a (by omega)
    have := mulB (vlZ_R hb h9.1) (vlZ_R hb h9.1)
    omega)
  unfold wgP wgQ
  rcases ind_R (0 < po g ∧ to g ≠ 0) with e | e
  · rw [e]; omega
  · rw [e]; omega
theorem l_X6_groupAtRank2 {G : zG} {n : Nat} {h : zH} {Post : Option Value → Nat → zH → Prop} {r kk ssz fnd tm : Int} {pr sq : Int → Int} (h15 : h 15 = some (oView ssz fnd tm)) (h24 : h 24 = some (aJ 5 pr)) (h25 : h 25 = some (aJ 5 sq)) (hb : psB pr sq) (hkk : iR kk) (hp : Post (some (vi (rkZ pr sq kk))) n h) : ∀ (k : Nat) (m : Int), 4 - m ≤ k → 0 ≤ m → m ≤ 4 → (∀ g, 0 ≤ g → g < m → ¬ (0 < sq g ∧ ahZ pr sq g = kk)) → zAW G mX6_groupAtRank zTT (zF G mX6_groupAtRank Post) 30 [some (.ref 15), some (vi r), some (vi kk), some (vi m)] [] n h 0 0 := by
  intro k
  induction k with
  | zero =>
    intro m hk h0 hm hT
    obtain rfl : m = 4 := by omega
    unfold rkZ at hp
    rw [fs4_none hT] at hp
    refine zr_iload_n (pc := 30)  (i := 3) rfl rfl dX6_groupAtRank_30 ?_
    refine zr_iconst (pc := 31)  dX6_groupAtRank_31 ?_
    refine zr_icmp_ge (pc := 32)  (tgt := 60) ⟨by omega, by omega⟩ ⟨by omega, by omega⟩ (by decide) dX6_groupAtRank_32 (fun q32 => ?_) (fun q32 => ?_)
    · refine zr_iconst (pc := 60)  dX6_groupAtRank_60 ?_
      refine zr_ireturn (pc := 61)  rfl (by decide) (by decide) dX6_groupAtRank_61 ?_
      exact hp
    · exact absurd q32 (by omega)
  | succ k ih =>
    intro m hk h0 hm hT
    have hah : 0 ≤ ahZ pr sq m ∧ ahZ pr sq m ≤ 4 := by
      have := sumZ_R (f := fun o => ind (ahP pr sq m o)) (B := 1) 4 (fun j _ _ => by have := ind_R (ahP pr sq m j); omega)
      unfold ahZ; omega
    refine zr_iload_n (pc := 30)  (i := 3) rfl rfl dX6_groupAtRank_30 ?_
    refine zr_iconst (pc := 31)  dX6_groupAtRank_31 ?_
    refine zr_icmp_ge (pc := 32)  (tgt := 60) ⟨by omega, by omega⟩ ⟨by omega, by omega⟩ (by decide) dX6_groupAtRank_32 (fun q32 => ?_) (fun q32 => ?_)
    · refine zr_iconst (pc := 60)  dX6_groupAtRank_60 ?_
      refine zr_ireturn (pc := 61)  rfl (by decide) (by decide) dX6_groupAtRank_61 ?_
      obtain rfl : m = 4 := by omega
      unfold rkZ at hp
      rw [fs4_none hT] at hp
      exact hp
    · have hbm := hb m (by omega) (by omega)
      refine zr_aload_n (pc := 35)  (i := 0) rfl rfl dX6_groupAtRank_35 ?_
      refine zr_iload_n (pc := 36)  (i := 3) rfl rfl dX6_groupAtRank_36 ?_
      refine zv_call1 (pc := 37)  cv_X6_groupAtRank_103 (by first | assumption | rfl | (repeat (first | assumption | exact zup_s | refine zup_g (by decide) ?_))) ⟨_, rfl, rfl⟩ (Nat.le_of_ble_eq_true rfl) (by decide) dX6_groupAtRank_37 ?_
      refine k_X6_fits h15 h25 (by omega) ⟨by omega, by omega⟩ ?_
      dsimp only [Option.toList, List.cons_append, List.nil_append]
      refine zb_eq (pc := 40) (tgt := 54) (by decide) dX6_groupAtRank_40 (fun q40 => ?_) (fun q40 => ?_)
      · refine zs_iinc_3 (pc := 54)  (by first | exact zn_i | exact zn_r | exact zn_0) (by decide) dX6_groupAtRank_54 ?_
        refine zr_goto (pc := 57)  (tgt := 30) (by decide) dX6_groupAtRank_57 ?_
        exact ih (m + 1) (by omega) (by omega) (by omega) (fun g a b => by rcases Int.lt_or_le g m with q | q; exact hT g a q; (obtain rfl : g = m := by omega); omega)
      · refine zr_aload_n (pc := 43)  (i := 0) rfl rfl dX6_groupAtRank_43 ?_
        refine zr_iload_n (pc := 44)  (i := 3) rfl rfl dX6_groupAtRank_44 ?_
        refine zv_call1 (pc := 45)  cv_X6_groupAtRank_106 (by first | assumption | rfl | (repeat (first | assumption | exact zup_s | refine zup_g (by decide) ?_))) ⟨_, rfl, rfl⟩ (Nat.le_of_ble_eq_true rfl) (by decide) dX6_groupAtRank_45 ?_
        refine k_X6_fitsAhead (by first | assumption | omega | (refine ⟨?_, ?_⟩ <;> omega) | rfl | (repeat (first | assumption | exact zup_s | refine zup_g (by decide) ?_))) (by first | assumption | omega | (refine ⟨?_, ?_⟩ <;> omega) | rfl | (repeat (first | assumption | exact zup_s | refine zup_g (by decide) ?_))) (by first | assumption | omega | (refine ⟨?_, ?_⟩ <;> omega) | rfl | (repeat (first | assumption | exact zup_s | refine zup_g (by decide) ?_))) (by first | assumption | omega | (refine ⟨?_, ?_⟩ <;> omega) | rfl | (repeat (first | assumption | exact zup_s | refine zup_g (by decide) ?_))) (by first | assumption | omega | (refine ⟨?_, ?_⟩ <;> omega) | rfl | (repeat (first | assumption | exact zup_s | refine zup_g (by decide) ?_))) (by first | assumption | omega | (refine ⟨?_, ?_⟩ <;> omega) | rfl | (repeat (first | assumption | exact zup_s | refine zup_g (by decide) ?_))) ?_
        dsimp only [Option.toList, List.cons_append, List.nil_append]
        refine zr_iload_n (pc := 48)  (i := 2) rfl rfl dX6_groupAtRank_48 ?_
        refine zr_icmp_ne (pc := 49)  (tgt := 54) ⟨by omega, by omega⟩ ⟨by omega, by omega⟩ (by decide) dX6_groupAtRank_49 (fun q49 => ?_) (fun q49 => ?_)
        · refine zs_iinc_3 (pc := 54)  (by first | exact zn_i | exact zn_r | exact zn_0) (by decide) dX6_groupAtRank_54 ?_
          refine zr_goto (pc := 57)  (tgt := 30) (by decide) dX6_groupAtRank_57 ?_
          exact ih (m + 1) (by omega) (by omega) (by omega) (fun g a b => by rcases Int.lt_or_le g m with q | q; exact hT g a q; (obtain rfl : g = m := by omega); omega)
        · refine zr_iload_n (pc := 52)  (i := 3) rfl rfl dX6_groupAtRank_52 ?_
          refine zr_ireturn (pc := 53)  rfl (by decide) (by decide) dX6_groupAtRank_53 ?_
          unfold rkZ at hp
          rw [fs4_at (by omega) hT ⟨q40, by omega⟩] at hp
          exact hp
theorem l_X6_groupAtRank1 {G : zG} {n : Nat} {h : zH} {Post : Option Value → Nat → zH → Prop} {r kk ssz fnd tm : Int} {s wk mo to po wp sd sc fl db : Int → Int} {yu yl : Int} (h16 : h 16 = some oTal) (hb : ∀ g, 0 ≤ g → g < 4 → tbS g wk mo to po) (hz : 0 ≤ ssz ∧ ssz ≤ 14) (hkk : iR kk) (hT : dwS (fun d => s (r * 84 + d)) (limZ wp r) 84 ssz sd sc) (hp : ∀ pr2 sq2 : Int → Int, (∀ g, 0 ≤ g → g < 4 → pr2 g = PZ wk mo to po (fun d => s (r * 84 + d)) (limZ wp r) g ∧ sq2 g = QZ wk mo to po (fun d => s (r * 84 + d)) (limZ wp r) g) → psB pr2 sq2 → Post (some (vi (rkZ (PZ wk mo to po (fun d => s (r * 84 + d)) (limZ wp r)) (QZ wk mo to po (fun d => s (r * 84 + d)) (limZ wp r)) kk))) n (hV h ssz fnd tm wk mo to po wp sd sc pr2 sq2 fl db yu yl)) : ∀ (k : Nat) (m : Int) (pr sq : Int → Int), 4 - m ≤ k → 0 ≤ m → m ≤ 4 → (∀ g, 0 ≤ g → g < m → pr g = wgP wk mo to po sd sc ssz g ∧ sq g = wgQ wk mo to po sd sc ssz g) → zAW G mX6_groupAtRank zTT (zF G mX6_groupAtRank Post) 12 [some (.ref 15), some (vi r), some (vi kk), some (vi m)] [] n (hV h ssz fnd tm wk mo to po wp sd sc pr sq fl db yu yl) 0 0 := by
  have fin : ∀ pr sq : Int → Int, (∀ g, 0 ≤ g → g < 4 → pr g = wgP wk mo to po sd sc ssz g ∧ sq g = wgQ wk mo to po sd sc ssz g) → zAW G mX6_groupAtRank zTT (zF G mX6_groupAtRank Post) 30 [some (.ref 15), some (vi r), some (vi kk), some (vi 0)] [] n (hV h ssz fnd tm wk mo to po wp sd sc pr sq fl db yu yl) 0 0 := fun pr sq hq => by
    have e : ∀ g, 0 ≤ g → g < 4 → pr g = PZ wk mo to po (fun d => s (r * 84 + d)) (limZ wp r) g ∧ sq g = QZ wk mo to po (fun d => s (r * 84 + d)) (limZ wp r) g := fun g a b => by
      rw [(hq g a b).1, (hq g a b).2, wgP_eq hT, wgQ_eq hT]; exact ⟨rfl, rfl⟩
    have hbb : psB pr sq := fun g a b => by rw [(hq g a b).1, (hq g a b).2]; exact wg_R (hb g a b) hz hT.2.2
    refine l_X6_groupAtRank2 rfl rfl rfl hbb hkk ?_ 4 0 (by omega) (by omega) (by omega) (fun g a b => by omega)
    rw [rkZ_congr e]
    exact hp pr sq e hbb
  intro k
  induction k with
  | zero =>
    intro m pr sq hk h0 hm hq
    obtain rfl : m = 4 := by omega
    refine zr_iload_n (pc := 12)  (i := 3) rfl rfl dX6_groupAtRank_12 ?_
    refine zr_iconst (pc := 13)  dX6_groupAtRank_13 ?_
    refine zr_icmp_ge (pc := 14)  (tgt := 28) ⟨by omega, by omega⟩ ⟨by omega, by omega⟩ (by decide) dX6_groupAtRank_14 (fun q14 => ?_) (fun q14 => ?_)
    · refine zr_iconst (pc := 28)  dX6_groupAtRank_28 ?_
      refine zs_istore_n_3 (pc := 29)  (by first | exact zn_i | exact zn_r | exact zn_0) (by decide) dX6_groupAtRank_29 ?_
      exact fin _ _ hq
    · exact absurd q14 (by omega)
  | succ k ih =>
    intro m pr sq hk h0 hm hq
    refine zr_iload_n (pc := 12)  (i := 3) rfl rfl dX6_groupAtRank_12 ?_
    refine zr_iconst (pc := 13)  dX6_groupAtRank_13 ?_
    refine zr_icmp_ge (pc := 14)  (tgt := 28) ⟨by omega, by omega⟩ ⟨by omega, by omega⟩ (by decide) dX6_groupAtRank_14 (fun q14 => ?_) (fun q14 => ?_)
    · refine zr_iconst (pc := 28)  dX6_groupAtRank_28 ?_
      refine zs_istore_n_3 (pc := 29)  (by first | exact zn_i | exact zn_r | exact zn_0) (by decide) dX6_groupAtRank_29 ?_
      exact fin _ _ (fun g a b => hq g a (by omega))
    · refine zr_aload_n (pc := 17)  (i := 0) rfl rfl dX6_groupAtRank_17 ?_
      refine zr_iload_n (pc := 18)  (i := 3) rfl rfl dX6_groupAtRank_18 ?_
      refine zv_call1 (pc := 19)  cv_X6_groupAtRank_99 (by first | assumption | rfl | (repeat (first | assumption | exact zup_s | refine zup_g (by decide) ?_))) ⟨_, rfl, rfl⟩ (Nat.le_of_ble_eq_true rfl) (by decide) dX6_groupAtRank_19 ?_
      refine k_X6_weighSample h16 (by omega) (hb m (by omega) (by omega)) hz hT.2.2 ?_
      dsimp only [Option.toList, List.cons_append, List.nil_append]
      refine zs_iinc_3 (pc := 22)  (by first | exact zn_i | exact zn_r | exact zn_0) (by decide) dX6_groupAtRank_22 ?_
      refine zr_goto (pc := 25)  (tgt := 12) (by decide) dX6_groupAtRank_25 ?_
      exact ih (m + 1) _ _ (by omega) (by omega) (by omega) (fun g a b => by by_cases e : g = m; (rw [e, uZ_s, uZ_s]; exact ⟨rfl, rfl⟩); (rw [uZ_n e, uZ_n e]; exact hq g a (by omega)))
theorem k_X6_groupAtRank {G : zG} {n : Nat} {h : zH} {Post : Option Value → Nat → zH → Prop} {r kk ssz fnd tm : Int} {s wk mo to po wp sd sc pr sq fl db : Int → Int} {yu yl : Int} (h16 : h 16 = some oTal) (hO : stO h tm s) (hwp : ∀ i, wp i = 0 ∨ wp i = 1) (hb : ∀ g, 0 ≤ g → g < 4 → tbS g wk mo to po) (hr : 0 ≤ r ∧ r < 16) (hkk : iR kk) (ht : iR tm) (k : ∀ (ssz : Int) (sd sc pr2 sq2 : Int → Int), (∀ g, 0 ≤ g → g < 4 → pr2 g = PZ wk mo to po (fun d => s (r * 84 + d)) (limZ wp r) g ∧ sq2 g = QZ wk mo to po (fun d => s (r * 84 + d)) (limZ wp r) g) → psB pr2 sq2 → Post (some (vi (rkZ (PZ wk mo to po (fun d => s (r * 84 + d)) (limZ wp r)) (QZ wk mo to po (fun d => s (r * 84 + d)) (limZ wp r)) kk))) n (hV h ssz fnd tm wk mo to po wp sd sc pr2 sq2 fl db yu yl)) : zMP G mX6_groupAtRank [.ref 15, vi r, vi kk] n (hV h ssz fnd tm wk mo to po wp sd sc pr sq fl db yu yl) Post := by
  have hli := limZ_R wp r
  refine zMP_of (by decide) [some _, some _, some _, none] (Nat.le_of_ble_eq_true rfl) rfl ?_
  refine zr_aload_n (pc := 0)  (i := 0) rfl rfl dX6_groupAtRank_0 ?_
  refine zr_iload_n (pc := 1)  (i := 1) rfl rfl dX6_groupAtRank_1 ?_
  refine zr_aload_n (pc := 2)  (i := 0) rfl rfl dX6_groupAtRank_2 ?_
  refine zr_iload_n (pc := 3)  (i := 1) rfl rfl dX6_groupAtRank_3 ?_
  refine zv_call1 (pc := 4)  cv_X6_groupAtRank_92 (by first | assumption | rfl | (repeat (first | assumption | exact zup_s | refine zup_g (by decide) ?_))) ⟨_, rfl, rfl⟩ (Nat.le_of_ble_eq_true rfl) (by decide) dX6_groupAtRank_4 ?_
  refine k_X6_sampleLimit rfl rfl hwp hr ?_
  dsimp only [Option.toList, List.cons_append, List.nil_append]
  refine zv_call2 (pc := 7)  cv_X6_groupAtRank_95 (by first | assumption | rfl | (repeat (first | assumption | exact zup_s | refine zup_g (by decide) ?_))) ⟨_, rfl, rfl⟩ (Nat.le_of_ble_eq_true rfl) (by decide) dX6_groupAtRank_7 ?_
  refine k_X6_drawDays hO hr hli ht (fun ssz sd sc hT => ?_)
  dsimp only [Option.toList, List.cons_append, List.nil_append]
  refine zr_iconst (pc := 10)  dX6_groupAtRank_10 ?_
  refine zs_istore_n_3 (pc := 11)  (by first | exact zn_i | exact zn_r | exact zn_0) (by decide) dX6_groupAtRank_11 ?_
  have hcz := cnD_R (fun d => s (r * 84 + d)) hli.1 84
  rw [← hT.1] at hcz
  exact l_X6_groupAtRank1 h16 hb (by omega) hkk hT (k _ _ _) 4 0 _ _ (by omega) (by omega) (by omega) (fun g a b => by omega)
theorem k_X6_putLedYear {G : zG} {n : Nat} {h : zH} {Post : Option Value → Nat → zH → Prop} {a : Nat} {sl ssz fnd tm u l : Int} {to pr sq : Int → Int} (h15 : h 15 = some (oView ssz fnd tm)) (h16 : h 16 = some oTal) (h19 : h 19 = some (aI 5 to)) (h24 : h 24 = some (aJ 5 pr)) (h25 : h 25 = some (aJ 5 sq)) (ha : h a = some (oFrac u l)) (hs : 0 ≤ sl ∧ sl < 5) (hto : 0 ≤ to sl ∧ to sl ≤ 16800) (hpr : 0 ≤ pr sl ∧ pr sl ≤ 2352000000) (hsq : 0 < sq sl ∧ sq sl ≤ 158054400000000) (k : Post none n (zup h a (oFrac (rdU (pr sl * (to sl * to sl)) (sq sl)) (rdL (pr sl * (to sl * to sl)) (sq sl))))) : zMP G mX6_putLedYear [.ref 15, vi sl, .ref a] n h Post := by
  have h1 := mulB hto hto
  have h2 := mulB hpr h1
  refine zMP_of (by decide) [some _, some _, some _] (Nat.le_of_ble_eq_true rfl) rfl ?_
  refine zr_aload_n (pc := 0)  (i := 2) rfl rfl dX6_putLedYear_0 ?_
  refine zr_aload_n (pc := 1)  (i := 0) rfl rfl dX6_putLedYear_1 ?_
  refine zr_get (pc := 2)  fl_X6_41 (by first | assumption | rfl | (repeat (first | assumption | exact zup_s | refine zup_g (by decide) ?_))) rfl dX6_putLedYear_2 ?_
  refine zr_iload_n (pc := 5)  (i := 1) rfl rfl dX6_putLedYear_5 ?_
  refine zr_lald (pc := 6)  (by first | assumption | rfl | (repeat (first | assumption | exact zup_s | refine zup_g (by decide) ?_))) ⟨by omega, by omega⟩ (by decide) dX6_putLedYear_6 ?_
  refine zr_aload_n (pc := 7)  (i := 0) rfl rfl dX6_putLedYear_7 ?_
  refine zr_get (pc := 8)  fl_X6_22 (by first | assumption | rfl | (repeat (first | assumption | exact zup_s | refine zup_g (by decide) ?_))) rfl dX6_putLedYear_8 ?_
  refine zr_iload_n (pc := 11)  (i := 1) rfl rfl dX6_putLedYear_11 ?_
  refine zv_call1 (pc := 12)  cv_X6_putLedYear_168 (by first | assumption | rfl | (repeat (first | assumption | exact zup_s | refine zup_g (by decide) ?_))) ⟨_, rfl, rfl⟩ (Nat.le_of_ble_eq_true rfl) (by decide) dX6_putLedYear_12 ?_
  refine k_X4_valueOfYear (by first | assumption | omega | (refine ⟨?_, ?_⟩ <;> omega) | rfl | (repeat (first | assumption | exact zup_s | refine zup_g (by decide) ?_))) (by first | assumption | omega | (refine ⟨?_, ?_⟩ <;> omega) | rfl | (repeat (first | assumption | exact zup_s | refine zup_g (by decide) ?_))) (by first | assumption | omega | (refine ⟨?_, ?_⟩ <;> omega) | rfl | (repeat (first | assumption | exact zup_s | refine zup_g (by decide) ?_))) (by first | assumption | omega | (refine ⟨?_, ?_⟩ <;> omega) | rfl | (repeat (first | assumption | exact zup_s | refine zup_g (by decide) ?_))) ?_
  dsimp only [Option.toList, List.cons_append, List.nil_append]
  refine zr_lmul (pc := 15)  dX6_putLedYear_15 ?_
  refine zr_aload_n (pc := 16)  (i := 0) rfl rfl dX6_putLedYear_16 ?_
  refine zr_get (pc := 17)  fl_X6_45 (by first | assumption | rfl | (repeat (first | assumption | exact zup_s | refine zup_g (by decide) ?_))) rfl dX6_putLedYear_17 ?_
  refine zr_iload_n (pc := 20)  (i := 1) rfl rfl dX6_putLedYear_20 ?_
  refine zr_lald (pc := 21)  (by first | assumption | rfl | (repeat (first | assumption | exact zup_s | refine zup_g (by decide) ?_))) ⟨by omega, by omega⟩ (by decide) dX6_putLedYear_21 ?_
  refine zv_call2 (pc := 22)  cv_X6_putLedYear_112 (by first | assumption | rfl | (repeat (first | assumption | exact zup_s | refine zup_g (by decide) ?_))) ⟨_, rfl, rfl⟩ (Nat.le_of_ble_eq_true rfl) (by decide) dX6_putLedYear_22 ?_
  refine k_X2_put ha ⟨by omega, by omega⟩ ⟨by omega, by omega⟩ ?_
  dsimp only [Option.toList, List.cons_append, List.nil_append]
  refine zr_vreturn (pc := 25)  rfl (by decide) (by decide) dX6_putLedYear_25 ?_
  exact k
