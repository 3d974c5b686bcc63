/-! the law's own methods that take what is thrown -/
theorem xLk : Cond.classLink RL 13 xN ∈ TG := TG_of (mt3 (i := 24) rfl) rfl
theorem cv_L_worth_7 : zCV mL_worth 7 mX7_worth 3 := ⟨⟨TG_of (mt3 (i := 28) rfl) rfl, TG_of (mt1 (i := 1) rfl) rfl, ⟨by decide, by decide, by decide +kernel⟩, by decide, by decide⟩, TG_of (mt3 (i := 25) rfl) rfl, TG_of (mt3 (i := 26) rfl) rfl, TG_of (mt3 (i := 27) rfl) rfl⟩
theorem cv_L_year_15 : zCV mL_year 15 mX7_year 3 := ⟨⟨TG_of (mt3 (i := 106) rfl) rfl, TG_of (mt1 (i := 1) rfl) rfl, ⟨by decide, by decide, by decide +kernel⟩, by decide, by decide⟩, TG_of (mt3 (i := 103) rfl) rfl, TG_of (mt3 (i := 104) rfl) rfl, TG_of (mt3 (i := 105) rfl) rfl⟩
theorem cv_L_trial_19 : zCV mL_trial 19 mX7_trial 3 := ⟨⟨TG_of (mt3 (i := 123) rfl) rfl, TG_of (mt1 (i := 1) rfl) rfl, ⟨by decide, by decide, by decide +kernel⟩, by decide, by decide⟩, TG_of (mt3 (i := 120) rfl) rfl, TG_of (mt3 (i := 121) rfl) rfl, TG_of (mt3 (i := 122) rfl) rfl⟩
theorem cv_L_missing_22 : zCV mL_missing 22 mX7_missing 2 := ⟨⟨TG_of (mt3 (i := 135) rfl) rfl, TG_of (mt1 (i := 1) rfl) rfl, ⟨by decide, by decide, by decide +kernel⟩, by decide, by decide⟩, TG_of (mt3 (i := 132) rfl) rfl, TG_of (mt3 (i := 133) rfl) rfl, TG_of (mt3 (i := 134) rfl) rfl⟩
theorem cv_L_agreed_26 : zCV mL_agreed 26 mX7_agreed 3 := ⟨⟨TG_of (mt3 (i := 155) rfl) rfl, TG_of (mt1 (i := 1) rfl) rfl, ⟨by decide, by decide, by decide +kernel⟩, by decide, by decide⟩, TG_of (mt3 (i := 152) rfl) rfl, TG_of (mt3 (i := 153) rfl) rfl, TG_of (mt3 (i := 154) rfl) rfl⟩
section WRAP
variable {G : zG} {n : Nat} {h : zH} {Post : Option Value → Nat → zH → Prop}
def p8x (G : zG) (n : Nat) (M : zM) (As : List Value) (kk : Int) (ret : Int → Value) (h1 : zH) : Prop := (∃ fs, h1 38 = some (.inr (8, fs))) ∧ ∀ Post8 : Option Value → Nat → zH → Prop, (∀ h2 v ou, lwT h2 kk ou → (kk = 0 → ou 0 = v) → (ret = vi → iR v) → Post8 (some (ret v)) n h2) → zMP G M (.ref 38 :: As) n h1 Post8
theorem w_worth {x0 x1 x2 : Int} (hG : (zgl G).stackTraces = false) (hS : lwS h) (rx0 : iR x0) (rx1 : iR x1) (rx2 : iR x2) (k : ∀ h1 n1 kk, (kk = 0 ∨ kk = 1) → p8x G n1 mX8_worth [vi x0, vi x1, vi x2] kk vi h1 → Post (some (vi kk)) n1 h1) : zMH G mL_worth [(0, 12, 15, 13)] [.ref 0, vi x0, vi x1, vi x2, .ref 65] n h Post := by
  obtain ⟨th, ou, now, len, tb, rk, rs, rg, gr, num, N, bt, bc, bk, be, bn, ap, pl, hK, hM, h65⟩ := hS
  have hI := hK.2.1
  refine zMH_of (by decide) [some (.ref 0), some (vi x0), some (vi x1), some (vi x2), some (.ref 65), none] (Nat.le_of_ble_eq_true rfl) rfl ?_
  refine zr_aload (pc := 0)  rfl dL_worth_0 ?_
  refine zr_iconst (pc := 2)  dL_worth_2 ?_
  refine zr_aload_n (pc := 3)  (i := 0) rfl rfl dL_worth_3 ?_
  refine zr_iload_n (pc := 4)  (i := 1) rfl rfl dL_worth_4 ?_
  refine zr_iload_n (pc := 5)  (i := 2) rfl rfl dL_worth_5 ?_
  refine zr_iload_n (pc := 6)  (i := 3) rfl rfl dL_worth_6 ?_
  refine zr_try (pc := 7) (st := [vi 0, .ref 65]) (As := [vi x0, vi x1, vi x2]) (a := 0) (x := ⟨0, 12, 15, 13⟩) (PX := fun h' => ¬ ((((0 ≤ x0 ∧ x0 < 4) ∧ (0 ≤ x1 ∧ x1 < 84)) ∧ 0 ≤ x2) ∧ thS (SA ap bc pl bt N x2) rk gr x0 (-1)) ∧ oK h' now len tb rk rs rg gr num N bt bc bk be bn ap pl ∧ (∀ j, 37 < j → h' j = h j)) rfl (by decide) (by decide) xLk dL_worth_15 (by decide) cv_L_worth_7 rfl hK.1.1 ⟨_, rfl, rfl⟩ (Nat.le_of_ble_eq_true rfl) (by decide) dL_worth_7 (k_X7_worth hG hK rx0 rx1 rx2 (fun c t h1 hK1 f1 => ?_) (fun c h1 hK1 f1 => ⟨c, hK1, f1⟩)) (fun h1 n1 hP => ?_)
  · dsimp only [Option.toList, List.cons_append, List.nil_append]
    have e65 : h1 65 = some (aJ 1 ou) := (f1 65 (by omega)).trans h65
    have hR := vS_R (s := (SA ap bc pl bt N x2)) (rk := rk) (gr := gr) (w := -1) (g := x0) (d := x1) (fun p => (SA_R hI.2.2.2.2.2.2.2.2.2.2.1 x2 p).2) (by omega)
    refine zr_i2l (pc := 10)  ⟨by omega, by omega⟩ dL_worth_10 ?_
    refine zr_last (pc := 11)  (by first | assumption | rfl | (repeat (first | assumption | exact zup_s | refine zup_g (by decide) ?_))) ⟨by omega, by omega⟩ (by decide) dL_worth_11 ?_
    refine zr_goto (pc := 12)  (tgt := 19) (by decide) dL_worth_12 ?_
    refine zr_iconst (pc := 19)  dL_worth_19 ?_
    refine zr_ireturn (pc := 20)  rfl (by decide) (by decide) dL_worth_20 ?_
    exact k _ _ 0 (Or.inl rfl) ⟨(mK_fr hM (fun j a b => by rw [zup_n (by omega)]; exact f1 j (by omega))).o38, fun Post8 k8 => k_X8_worth (mK_fr hM (fun j a b => by rw [zup_n (by omega)]; exact f1 j (by omega))) hI rx0 rx1 rx2 (fun c2 t2 h2 hM2 f2 => k8 h2 _ _ ⟨_, _, _, _, _, _, _, _, _, _, _, _, _, _, _, _, oK_fr hK1 (fun j a => by rw [f2 j (by omega), zup_n (by omega)]), hM2, (f2 65 (by omega)).trans zup_s⟩ (fun _ => uZ_s) (fun _ => ⟨by omega, by omega⟩)) (fun c2 => absurd ⟨c, t⟩ c2)⟩
  · obtain ⟨c, hK1, f1⟩ := hP
    refine zr_iconst (pc := 17)  dL_worth_17 ?_
    refine zr_ireturn (pc := 18)  rfl (by decide) (by decide) dL_worth_18 ?_
    exact k _ _ 1 (Or.inr rfl) ⟨(mK_fr hM (fun j a b => f1 j (by omega))).o38, fun Post8 k8 => k_X8_worth (mK_fr hM (fun j a b => f1 j (by omega))) hI rx0 rx1 rx2 (fun c2 t2 => absurd ⟨c2, t2⟩ c) (fun c2 h2 hM2 f2 => k8 h2 0 ou ⟨_, _, _, _, _, _, _, _, _, _, _, _, _, _, _, _, oK_fr hK1 (fun j a => f2 j (by omega)), hM2, (f2 65 (by omega)).trans ((f1 65 (by omega)).trans h65)⟩ (fun z => absurd z (by decide)) (fun _ => ⟨by decide, by decide⟩))⟩
theorem w_year {x0 x1 x2 : Int} (hG : (zgl G).stackTraces = false) (hS : lwS h) (rx0 : iR x0) (rx1 : iR x1) (rx2 : iR x2) (k : ∀ h1 n1 kk, (kk = 0 ∨ kk = 1) → p8x G n1 mX8_year [vi x0, vi x1, vi x2] kk vl h1 → Post (some (vi kk)) n1 h1) : zMH G mL_year [(0, 11, 14, 13)] [.ref 0, vi x0, vi x1, vi x2, .ref 65] n h Post := by
  obtain ⟨th, ou, now, len, tb, rk, rs, rg, gr, num, N, bt, bc, bk, be, bn, ap, pl, hK, hM, h65⟩ := hS
  have hI := hK.2.1
  refine zMH_of (by decide) [some (.ref 0), some (vi x0), some (vi x1), some (vi x2), some (.ref 65), none] (Nat.le_of_ble_eq_true rfl) rfl ?_
  refine zr_aload (pc := 0)  rfl dL_year_0 ?_
  refine zr_iconst (pc := 2)  dL_year_2 ?_
  refine zr_aload_n (pc := 3)  (i := 0) rfl rfl dL_year_3 ?_
  refine zr_iload_n (pc := 4)  (i := 1) rfl rfl dL_year_4 ?_
  refine zr_iload_n (pc := 5)  (i := 2) rfl rfl dL_year_5 ?_
  refine zr_iload_n (pc := 6)  (i := 3) rfl rfl dL_year_6 ?_
  refine zr_try (pc := 7) (st := [vi 0, .ref 65]) (As := [vi x0, vi x1, vi x2]) (a := 0) (x := ⟨0, 11, 14, 13⟩) (PX := fun h' => ¬ (((((0 ≤ x0 ∧ x0 < 16) ∧ rk x0 = 1) ∧ 0 ≤ x1) ∧ (x2 = 0 ∨ x2 = 1)) ∧ yOS (SA ap bc pl bt N x1) rk gr x0) ∧ oK h' now len tb rk rs rg gr num N bt bc bk be bn ap pl ∧ (∀ j, 37 < j → h' j = h j)) rfl (by decide) (by decide) xLk dL_year_14 (by decide) cv_L_year_15 rfl hK.1.1 ⟨_, rfl, rfl⟩ (Nat.le_of_ble_eq_true rfl) (by decide) dL_year_7 (k_X7_year hG hK rx0 rx1 rx2 (fun c t _ h1 hK1 f1 => ?_) (fun c h1 hK1 f1 => ⟨c, hK1, f1⟩)) (fun h1 n1 hP => ?_)
  · dsimp only [Option.toList, List.cons_append, List.nil_append]
    have e65 : h1 65 = some (aJ 1 ou) := (f1 65 (by omega)).trans h65
    refine zr_last (pc := 10)  (by first | assumption | rfl | (repeat (first | assumption | exact zup_s | refine zup_g (by decide) ?_))) ⟨by omega, by omega⟩ (by decide) dL_year_10 ?_
    refine zr_goto (pc := 11)  (tgt := 18) (by decide) dL_year_11 ?_
    refine zr_iconst (pc := 18)  dL_year_18 ?_
    refine zr_ireturn (pc := 19)  rfl (by decide) (by decide) dL_year_19 ?_
    exact k _ _ 0 (Or.inl rfl) ⟨(mK_fr hM (fun j a b => by rw [zup_n (by omega)]; exact f1 j (by omega))).o38, fun Post8 k8 => k_X8_year (mK_fr hM (fun j a b => by rw [zup_n (by omega)]; exact f1 j (by omega))) hI rx0 rx1 rx2 (fun c2 t2 h2 hM2 f2 => k8 h2 _ _ ⟨_, _, _, _, _, _, _, _, _, _, _, _, _, _, _, _, oK_fr hK1 (fun j a => by rw [f2 j (by omega), zup_n (by omega)]), hM2, (f2 65 (by omega)).trans zup_s⟩ (fun _ => uZ_s) (fun e => by have := congrFun e 0; cases this)) (fun c2 => absurd ⟨c, t⟩ c2)⟩
  · obtain ⟨c, hK1, f1⟩ := hP
    refine zr_iconst (pc := 16)  dL_year_16 ?_
    refine zr_ireturn (pc := 17)  rfl (by decide) (by decide) dL_year_17 ?_
    exact k _ _ 1 (Or.inr rfl) ⟨(mK_fr hM (fun j a b => f1 j (by omega))).o38, fun Post8 k8 => k_X8_year (mK_fr hM (fun j a b => f1 j (by omega))) hI rx0 rx1 rx2 (fun c2 t2 => absurd ⟨c2, t2⟩ c) (fun c2 h2 hM2 f2 => k8 h2 0 ou ⟨_, _, _, _, _, _, _, _, _, _, _, _, _, _, _, _, oK_fr hK1 (fun j a => f2 j (by omega)), hM2, (f2 65 (by omega)).trans ((f1 65 (by omega)).trans h65)⟩ (fun z => absurd z (by decide)) (fun _ => ⟨by decide, by decide⟩))⟩
theorem w_trial {x0 x1 x2 : Int} (hG : (zgl G).stackTraces = false) (hS : lwS h) (rx0 : iR x0) (rx1 : iR x1) (rx2 : iR x2) (k : ∀ h1 n1 kk, (kk = 0 ∨ kk = 1) → p8x G n1 mX8_trial [vi x0, vi x1, vi x2] kk vl h1 → Post (some (vi kk)) n1 h1) : zMH G mL_trial [(0, 11, 14, 13)] [.ref 0, vi x0, vi x1, vi x2, .ref 65] n h Post := by
  obtain ⟨th, ou, now, len, tb, rk, rs, rg, gr, num, N, bt, bc, bk, be, bn, ap, pl, hK, hM, h65⟩ := hS
  have hI := hK.2.1
  refine zMH_of (by decide) [some (.ref 0), some (vi x0), some (vi x1), some (vi x2), some (.ref 65), none] (Nat.le_of_ble_eq_true rfl) rfl ?_
  refine zr_aload (pc := 0)  rfl dL_trial_0 ?_
  refine zr_iconst (pc := 2)  dL_trial_2 ?_
  refine zr_aload_n (pc := 3)  (i := 0) rfl rfl dL_trial_3 ?_
  refine zr_iload_n (pc := 4)  (i := 1) rfl rfl dL_trial_4 ?_
  refine zr_iload_n (pc := 5)  (i := 2) rfl rfl dL_trial_5 ?_
  refine zr_iload_n (pc := 6)  (i := 3) rfl rfl dL_trial_6 ?_
  refine zr_try (pc := 7) (st := [vi 0, .ref 65]) (As := [vi x0, vi x1, vi x2]) (a := 0) (x := ⟨0, 11, 14, 13⟩) (PX := fun h' => ¬ (((((0 ≤ x0 ∧ x0 < 16) ∧ rk x0 = 1) ∧ 0 ≤ x1) ∧ (x2 = 0 ∨ x2 = 1)) ∧ wpP (SA ap bc pl bt N x1) rk gr x0 ∧ 0 < QS (SA ap bc pl bt N x1) rk gr (dyS (SA ap bc pl bt N x1) x0) 7 x0 (gr x0)) ∧ oK h' now len tb rk rs rg gr num N bt bc bk be bn ap pl ∧ (∀ j, 37 < j → h' j = h j)) rfl (by decide) (by decide) xLk dL_trial_14 (by decide) cv_L_trial_19 rfl hK.1.1 ⟨_, rfl, rfl⟩ (Nat.le_of_ble_eq_true rfl) (by decide) dL_trial_7 (k_X7_trial hG hK rx0 rx1 rx2 (fun c t h1 hK1 f1 => ?_) (fun c h1 hK1 f1 => ⟨c, hK1, f1⟩)) (fun h1 n1 hP => ?_)
  · dsimp only [Option.toList, List.cons_append, List.nil_append]
    have e65 : h1 65 = some (aJ 1 ou) := (f1 65 (by omega)).trans h65
    refine zr_last (pc := 10)  (by first | assumption | rfl | (repeat (first | assumption | exact zup_s | refine zup_g (by decide) ?_))) ⟨by omega, by omega⟩ (by decide) dL_trial_10 ?_
    refine zr_goto (pc := 11)  (tgt := 18) (by decide) dL_trial_11 ?_
    refine zr_iconst (pc := 18)  dL_trial_18 ?_
    refine zr_ireturn (pc := 19)  rfl (by decide) (by decide) dL_trial_19 ?_
    exact k _ _ 0 (Or.inl rfl) ⟨(mK_fr hM (fun j a b => by rw [zup_n (by omega)]; exact f1 j (by omega))).o38, fun Post8 k8 => k_X8_trial (mK_fr hM (fun j a b => by rw [zup_n (by omega)]; exact f1 j (by omega))) hI rx0 rx1 rx2 (fun c2 t2 h2 hM2 f2 => k8 h2 _ _ ⟨_, _, _, _, _, _, _, _, _, _, _, _, _, _, _, _, oK_fr hK1 (fun j a => by rw [f2 j (by omega), zup_n (by omega)]), hM2, (f2 65 (by omega)).trans zup_s⟩ (fun _ => uZ_s) (fun e => by have := congrFun e 0; cases this)) (fun c2 => absurd ⟨c, t⟩ c2)⟩
  · obtain ⟨c, hK1, f1⟩ := hP
    refine zr_iconst (pc := 16)  dL_trial_16 ?_
    refine zr_ireturn (pc := 17)  rfl (by decide) (by decide) dL_trial_17 ?_
    exact k _ _ 1 (Or.inr rfl) ⟨(mK_fr hM (fun j a b => f1 j (by omega))).o38, fun Post8 k8 => k_X8_trial (mK_fr hM (fun j a b => f1 j (by omega))) hI rx0 rx1 rx2 (fun c2 t2 => absurd ⟨c2, t2⟩ c) (fun c2 h2 hM2 f2 => k8 h2 0 ou ⟨_, _, _, _, _, _, _, _, _, _, _, _, _, _, _, _, oK_fr hK1 (fun j a => f2 j (by omega)), hM2, (f2 65 (by omega)).trans ((f1 65 (by omega)).trans h65)⟩ (fun z => absurd z (by decide)) (fun _ => ⟨by decide, by decide⟩))⟩
theorem w_missing {x0 x1 : Int} (hG : (zgl G).stackTraces = false) (hS : lwS h) (rx0 : iR x0) (rx1 : iR x1) (k : ∀ h1 n1 kk, (kk = 0 ∨ kk = 1) → p8x G n1 mX8_missing [vi x0, vi x1] kk vi h1 → Post (some (vi kk)) n1 h1) : zMH G mL_missing [(0, 10, 13, 13)] [.ref 0, vi x0, vi x1, .ref 65] n h Post := by
  obtain ⟨th, ou, now, len, tb, rk, rs, rg, gr, num, N, bt, bc, bk, be, bn, ap, pl, hK, hM, h65⟩ := hS
  have hI := hK.2.1
  refine zMH_of (by decide) [some (.ref 0), some (vi x0), some (vi x1), some (.ref 65), none] (Nat.le_of_ble_eq_true rfl) rfl ?_
  refine zr_aload_n (pc := 0)  (i := 3) rfl rfl dL_missing_0 ?_
  refine zr_iconst (pc := 1)  dL_missing_1 ?_
  refine zr_aload_n (pc := 2)  (i := 0) rfl rfl dL_missing_2 ?_
  refine zr_iload_n (pc := 3)  (i := 1) rfl rfl dL_missing_3 ?_
  refine zr_iload_n (pc := 4)  (i := 2) rfl rfl dL_missing_4 ?_
  refine zr_try (pc := 5) (st := [vi 0, .ref 65]) (As := [vi x0, vi x1]) (a := 0) (x := ⟨0, 10, 13, 13⟩) (PX := fun h' => ¬ ((0 ≤ x0 ∧ x0 < 8) ∧ 0 ≤ x1) ∧ oK h' now len tb rk rs rg gr num N bt bc bk be bn ap pl ∧ (∀ j, 37 < j → h' j = h j)) rfl (by decide) (by decide) xLk dL_missing_13 (by decide) cv_L_missing_22 rfl hK.1.1 ⟨_, rfl, rfl⟩ (Nat.le_of_ble_eq_true rfl) (by decide) dL_missing_5 (k_X7_missing hG hK rx0 rx1 (fun c h1 hK1 f1 => ?_) (fun c => ⟨c, hK, fun _ _ => rfl⟩)) (fun h1 n1 hP => ?_)
  · dsimp only [Option.toList, List.cons_append, List.nil_append]
    have e65 : h1 65 = some (aJ 1 ou) := (f1 65 (by omega)).trans h65
    have hR := exZ_R (fl := flowS (SA ap bc pl bt N x1) rk gr) (rs := rs) (rg := rg) (fun i _ _ => flowS_R (fun p => (SA_R hI.2.2.2.2.2.2.2.2.2.2.1 x1 p).2)) (c := x0) 16 (by omega)
    generalize hge : exZ (flowS (SA ap bc pl bt N x1) rk gr) rs rg x0 16 = ee at *
    refine zr_i2l (pc := 8)  ⟨by omega, by omega⟩ dL_missing_8 ?_
    refine zr_last (pc := 9)  (by first | assumption | rfl | (repeat (first | assumption | exact zup_s | refine zup_g (by decide) ?_))) ⟨by omega, by omega⟩ (by decide) dL_missing_9 ?_
    refine zr_goto (pc := 10)  (tgt := 17) (by decide) dL_missing_10 ?_
    refine zr_iconst (pc := 17)  dL_missing_17 ?_
    refine zr_ireturn (pc := 18)  rfl (by decide) (by decide) dL_missing_18 ?_
    exact k _ _ 0 (Or.inl rfl) ⟨(mK_fr hM (fun j a b => by rw [zup_n (by omega)]; exact f1 j (by omega))).o38, fun Post8 k8 => k_X8_missing (mK_fr hM (fun j a b => by rw [zup_n (by omega)]; exact f1 j (by omega))) hI rx0 rx1 (fun c2 h2 hM2 f2 => by rw [hge]; exact k8 h2 _ _ ⟨_, _, _, _, _, _, _, _, _, _, _, _, _, _, _, _, oK_fr hK1 (fun j a => by rw [f2 j (by omega), zup_n (by omega)]), hM2, (f2 65 (by omega)).trans zup_s⟩ (fun _ => uZ_s) (fun _ => ⟨by omega, by omega⟩)) (fun c2 => absurd c c2)⟩
  · obtain ⟨c, hK1, f1⟩ := hP
    refine zr_iconst (pc := 15)  dL_missing_15 ?_
    refine zr_ireturn (pc := 16)  rfl (by decide) (by decide) dL_missing_16 ?_
    exact k _ _ 1 (Or.inr rfl) ⟨(mK_fr hM (fun j a b => f1 j (by omega))).o38, fun Post8 k8 => k_X8_missing (mK_fr hM (fun j a b => f1 j (by omega))) hI rx0 rx1 (fun c2 => absurd c2 c) (fun c2 h2 hM2 f2 => k8 h2 0 ou ⟨_, _, _, _, _, _, _, _, _, _, _, _, _, _, _, _, oK_fr hK1 (fun j a => f2 j (by omega)), hM2, (f2 65 (by omega)).trans ((f1 65 (by omega)).trans h65)⟩ (fun z => absurd z (by decide)) (fun _ => ⟨by decide, by decide⟩))⟩
theorem w_agreed {x0 x1 x2 : Int} (hG : (zgl G).stackTraces = false) (hS : lwS h) (rx0 : iR x0) (rx1 : iR x1) (rx2 : iR x2) (k : ∀ h1 n1 kk, (kk = 0 ∨ kk = 1) → p8x G n1 mX8_agreed [vi x0, vi x1, vi x2] kk vl h1 → Post (some (vi kk)) n1 h1) : zMH G mL_agreed [(0, 11, 14, 13)] [.ref 0, vi x0, vi x1, vi x2, .ref 65] n h Post := by
  obtain ⟨th, ou, now, len, tb, rk, rs, rg, gr, num, N, bt, bc, bk, be, bn, ap, pl, hK, hM, h65⟩ := hS
  have hI := hK.2.1
  refine zMH_of (by decide) [some (.ref 0), some (vi x0), some (vi x1), some (vi x2), some (.ref 65), none] (Nat.le_of_ble_eq_true rfl) rfl ?_
  refine zr_aload (pc := 0)  rfl dL_agreed_0 ?_
  refine zr_iconst (pc := 2)  dL_agreed_2 ?_
  refine zr_aload_n (pc := 3)  (i := 0) rfl rfl dL_agreed_3 ?_
  refine zr_iload_n (pc := 4)  (i := 1) rfl rfl dL_agreed_4 ?_
  refine zr_iload_n (pc := 5)  (i := 2) rfl rfl dL_agreed_5 ?_
  refine zr_iload_n (pc := 6)  (i := 3) rfl rfl dL_agreed_6 ?_
  refine zr_try (pc := 7) (st := [vi 0, .ref 65]) (As := [vi x0, vi x1, vi x2]) (a := 0) (x := ⟨0, 11, 14, 13⟩) (PX := fun h' => ¬ (((((0 ≤ x0 ∧ x0 < 16) ∧ rk x0 = 1) ∧ 0 ≤ x1) ∧ (x2 = 0 ∨ x2 = 1)) ∧ flowS (SA ap bc pl bt N x1) rk gr x0 ≠ -1) ∧ oK h' now len tb rk rs rg gr num N bt bc bk be bn ap pl ∧ (∀ j, 37 < j → h' j = h j)) rfl (by decide) (by decide) xLk dL_agreed_14 (by decide) cv_L_agreed_26 rfl hK.1.1 ⟨_, rfl, rfl⟩ (Nat.le_of_ble_eq_true rfl) (by decide) dL_agreed_7 (k_X7_agreed hG hK rx0 rx1 rx2 (fun c t h1 hK1 f1 => ?_) (fun c h1 hK1 f1 => ⟨c, hK1, f1⟩)) (fun h1 n1 hP => ?_)
  · dsimp only [Option.toList, List.cons_append, List.nil_append]
    have e65 : h1 65 = some (aJ 1 ou) := (f1 65 (by omega)).trans h65
    refine zr_last (pc := 10)  (by first | assumption | rfl | (repeat (first | assumption | exact zup_s | refine zup_g (by decide) ?_))) ⟨by omega, by omega⟩ (by decide) dL_agreed_10 ?_
    refine zr_goto (pc := 11)  (tgt := 18) (by decide) dL_agreed_11 ?_
    refine zr_iconst (pc := 18)  dL_agreed_18 ?_
    refine zr_ireturn (pc := 19)  rfl (by decide) (by decide) dL_agreed_19 ?_
    exact k _ _ 0 (Or.inl rfl) ⟨(mK_fr hM (fun j a b => by rw [zup_n (by omega)]; exact f1 j (by omega))).o38, fun Post8 k8 => k_X8_agreed (mK_fr hM (fun j a b => by rw [zup_n (by omega)]; exact f1 j (by omega))) hI rx0 rx1 rx2 (fun c2 t2 h2 hM2 f2 => k8 h2 _ _ ⟨_, _, _, _, _, _, _, _, _, _, _, _, _, _, _, _, oK_fr hK1 (fun j a => by rw [f2 j (by omega), zup_n (by omega)]), hM2, (f2 65 (by omega)).trans zup_s⟩ (fun _ => uZ_s) (fun e => by have := congrFun e 0; cases this)) (fun c2 => absurd ⟨c, t⟩ c2)⟩
  · obtain ⟨c, hK1, f1⟩ := hP
    refine zr_iconst (pc := 16)  dL_agreed_16 ?_
    refine zr_ireturn (pc := 17)  rfl (by decide) (by decide) dL_agreed_17 ?_
    exact k _ _ 1 (Or.inr rfl) ⟨(mK_fr hM (fun j a b => f1 j (by omega))).o38, fun Post8 k8 => k_X8_agreed (mK_fr hM (fun j a b => f1 j (by omega))) hI rx0 rx1 rx2 (fun c2 t2 => absurd ⟨c2, t2⟩ c) (fun c2 h2 hM2 f2 => k8 h2 0 ou ⟨_, _, _, _, _, _, _, _, _, _, _, _, _, _, _, _, oK_fr hK1 (fun j a => f2 j (by omega)), hM2, (f2 65 (by omega)).trans ((f1 65 (by omega)).trans h65)⟩ (fun z => absurd z (by decide)) (fun _ => ⟨by decide, by decide⟩))⟩
end WRAP
