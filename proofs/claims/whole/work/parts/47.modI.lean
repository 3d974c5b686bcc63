/-! the reference's answers, up to the fits -/
theorem sm_v {s rk gr bw bm : Int → Int} {w g d : Int} (hb : smS s rk gr g w bw bm) (hd : 0 ≤ d ∧ d < 84) : bw (d % 7) * bm (d / 7) = vS s rk gr g w d := by
  unfold vS
  rw [hb.1 _ (by omega) (by omega), hb.2 _ (by omega) (by omega)]
theorem vS_R {s rk gr : Int → Int} {w g d : Int} (hs : ∀ p, s p ≤ 50) (hd : 0 ≤ d ∧ d < 84) : 0 ≤ vS s rk gr g w d ∧ vS s rk gr g w d ≤ 3360000 := by
  have hR := S_R (rk := rk) (gr := gr) hs g w
  unfold vS
  exact mulB (hR.1 _ (by omega) (by omega)) (hR.2.1 _ (by omega) (by omega))
theorem rkZ_neg {pr sq : Int → Int} {k : Int} (hk : k < 0) : rkZ pr sq k = -1 := by
  refine fs4_none (fun g g0 g4 z => ?_)
  have h1 := sumZ_R (f := fun o => ind (ahP pr sq g o)) (B := 1) 4 (fun o _ _ => by rcases ind_R (ahP pr sq g o) with e | e <;> rw [e] <;> omega)
  have h2 := z.2
  unfold ahZ at h2
  omega
section MOD2
variable {G : zG} {n : Nat} {h : zH} {Post : Option Value → Nat → zH → Prop} {th len now num : Int} {tb rk rs rg gr bt bc bk be bn ap pl : Int → Int} {N : Nat}
theorem k_X8_whole {r t : Int} (hM : mK h th now len tb rk rs rg gr N bt bc bk ap pl) (hI : oI now len tb rk rs rg gr num N bt bc be bn ap pl) (hr : iR r) (ht : iR t) (k1 : ((0 ≤ r ∧ r < 16) ∧ rk r = 1) ∧ 0 ≤ t → ∀ h', mK h' 0 now len tb rk rs rg gr N bt bc bk ap pl → (∀ j, j < 38 ∨ 64 < j → h' j = h j) → Post (some (vb (wpP (SA ap bc pl bt N t) rk gr r))) n h') (k0 : ¬ (((0 ≤ r ∧ r < 16) ∧ rk r = 1) ∧ 0 ≤ t) → ∀ h', mK h' 0 now len tb rk rs rg gr N bt bc bk ap pl → (∀ j, j < 38 ∨ 64 < j → h' j = h j) → Post (some (vi (-1))) n h') : zMP G mX8_whole [.ref 38, vi r, vi t] n h Post := by
  obtain ⟨i1, i2, i3, i4, i5, i6, i7, i8, i9, ⟨j1, j2, j3, j4, j5⟩⟩ := hI
  have hM' := hM
  obtain ⟨⟨al, pm, pd, sq, up, lw, m38⟩, ⟨ek, ⟨m39, m40, m41, m42, m43, m44, m45, m46, m47, m48, m49⟩, hE⟩, ⟨⟨sn0, iw0, ⟨m50, m51⟩, hz⟩, ⟨bw0, bm0, m52, m53⟩, ⟨od0, fp0, fq0, m54, m55, m56⟩, ⟨fl0, db0, m57, m58⟩, -⟩, hp⟩ := hM
  have hs := SA_R (ap := ap) (pl := pl) (bt := bt) (N := N) j2 t
  have hs50 : ∀ p, SA ap bc pl bt N t p ≤ 50 := fun p => (hs p).2
  have hK1 : ∀ x : Int, mK (zup h 38 (oMod x len N now al pm pd sq up lw)) x now len tb rk rs rg gr N bt bc bk ap pl := fun x => mK_V hM' rfl (fun j hj => by rw [zup_n (by omega)]) ⟨m50, m51⟩ hz ⟨m52, m53⟩ ⟨m54, m55, m56⟩ ⟨m57, m58⟩
  refine zMP_of (by decide) [some _, some _, some _] (Nat.le_of_ble_eq_true rfl) rfl ?_
  refine zr_aload_n (pc := 0)  (i := 0) rfl rfl dX8_whole_0 ?_
  refine zr_iconst (pc := 1)  dX8_whole_1 ?_
  refine zr_put (pc := 2)  (oMod _ _ _ _ _ _ _ _ _ _) (fp_X8_91 rfl) (by first | assumption | rfl | (repeat (first | assumption | exact zup_s | refine zup_g (by decide) ?_))) (Nat.le_of_ble_eq_true rfl) rfl rfl rfl dX8_whole_2 ?_
  refine zr_aload_n (pc := 5)  (i := 0) rfl rfl dX8_whole_5 ?_
  refine zr_iload_n (pc := 6)  (i := 1) rfl rfl dX8_whole_6 ?_
  refine zv_call1 (pc := 7)  cv_X8_whole_112 (by first | assumption | rfl | (repeat (first | assumption | exact zup_s | refine zup_g (by decide) ?_))) ⟨_, rfl, rfl⟩ (Nat.le_of_ble_eq_true rfl) (by decide) dX8_whole_7 ?_
  refine k_X8_isRoad (by first | assumption | omega | (refine ⟨?_, ?_⟩ <;> omega) | rfl | (repeat (first | assumption | exact zup_s | refine zup_g (by decide) ?_))) (by first | assumption | omega | (refine ⟨?_, ?_⟩ <;> omega) | rfl | (repeat (first | assumption | exact zup_s | refine zup_g (by decide) ?_))) (by first | assumption | omega | (refine ⟨?_, ?_⟩ <;> omega) | rfl | (repeat (first | assumption | exact zup_s | refine zup_g (by decide) ?_))) (by first | assumption | omega | (refine ⟨?_, ?_⟩ <;> omega) | rfl | (repeat (first | assumption | exact zup_s | refine zup_g (by decide) ?_))) ?_
  dsimp only [Option.toList, List.cons_append, List.nil_append]
  refine zb_eq (pc := 10) (tgt := 17) (by decide) dX8_whole_10 (fun q10 => ?_) (fun q10 => ?_)
  · refine zr_iconst (pc := 17)  dX8_whole_17 ?_
    refine zr_ireturn (pc := 18)  rfl (by decide) (by decide) dX8_whole_18 ?_
    exact k0 (by omega) _ (hK1 0) (fun j hj => by (repeat rw [zup_n (by omega)]))
  · refine zr_iload_n (pc := 13)  (i := 2) rfl rfl dX8_whole_13 ?_
    refine zr_if_ge (pc := 14)  (tgt := 19) ⟨by omega, by omega⟩ (by decide) dX8_whole_14 (fun q14 => ?_) (fun q14 => ?_)
    · refine zr_aload_n (pc := 19)  (i := 0) rfl rfl dX8_whole_19 ?_
      refine zr_iload_n (pc := 20)  (i := 2) rfl rfl dX8_whole_20 ?_
      refine zv_call1 (pc := 21)  cv_X8_whole_134 (by first | assumption | rfl | (repeat (first | assumption | exact zup_s | refine zup_g (by decide) ?_))) ⟨_, rfl, rfl⟩ (Nat.le_of_ble_eq_true rfl) (by decide) dX8_whole_21 ?_
      refine k_X8_lookUp zup_s m40 m41 m44 m45 m46 m47 m48 m50 m51 hz i4 i7 j5 hp j1 j2 j3 ht (fun sn iw hl => ?_)
      dsimp only [Option.toList, List.cons_append, List.nil_append]
      have hwr := hl.2.1 r (by omega) (by omega)
      have hzr := hl.2.2 r
      refine zr_aload_n (pc := 24)  (i := 0) rfl rfl dX8_whole_24 ?_
      refine zr_get (pc := 25)  fl_X8_48 (by first | assumption | rfl | (repeat (first | assumption | exact zup_s | refine zup_g (by decide) ?_))) rfl dX8_whole_25 ?_
      refine zr_iload_n (pc := 28)  (i := 1) rfl rfl dX8_whole_28 ?_
      refine zr_zald (pc := 29)  (by first | assumption | rfl | (repeat (first | assumption | exact zup_s | refine zup_g (by decide) ?_))) ⟨by omega, by omega⟩ (by decide) dX8_whole_29 ?_
      refine zr_if_eq (pc := 30)  (tgt := 37) ⟨by omega, by omega⟩ (by decide) dX8_whole_30 (fun q30 => ?_) (fun q30 => ?_)
      · refine zr_iconst (pc := 37)  dX8_whole_37 ?_
        refine zr_ireturn (pc := 38)  rfl (by decide) (by decide) dX8_whole_38 ?_
        first | exact zb_t (hwr.mp (by omega)) (k1 (by omega) _ (mK_V hM' rfl (fun j hj => by (repeat rw [zup_n (by omega)])) ⟨rfl, rfl⟩ hl.2.2 ⟨m52, m53⟩ ⟨m54, m55, m56⟩ ⟨m57, m58⟩) (fun j hj => by (repeat rw [zup_n (by omega)]))) | exact zb_f (fun z => by have := hwr.mpr z; omega) (k1 (by omega) _ (mK_V hM' rfl (fun j hj => by (repeat rw [zup_n (by omega)])) ⟨rfl, rfl⟩ hl.2.2 ⟨m52, m53⟩ ⟨m54, m55, m56⟩ ⟨m57, m58⟩) (fun j hj => by (repeat rw [zup_n (by omega)])))
      · refine zr_iconst (pc := 33)  dX8_whole_33 ?_
        refine zr_goto (pc := 34)  (tgt := 38) (by decide) dX8_whole_34 ?_
        refine zr_ireturn (pc := 38)  rfl (by decide) (by decide) dX8_whole_38 ?_
        first | exact zb_t (hwr.mp (by omega)) (k1 (by omega) _ (mK_V hM' rfl (fun j hj => by (repeat rw [zup_n (by omega)])) ⟨rfl, rfl⟩ hl.2.2 ⟨m52, m53⟩ ⟨m54, m55, m56⟩ ⟨m57, m58⟩) (fun j hj => by (repeat rw [zup_n (by omega)]))) | exact zb_f (fun z => by have := hwr.mpr z; omega) (k1 (by omega) _ (mK_V hM' rfl (fun j hj => by (repeat rw [zup_n (by omega)])) ⟨rfl, rfl⟩ hl.2.2 ⟨m52, m53⟩ ⟨m54, m55, m56⟩ ⟨m57, m58⟩) (fun j hj => by (repeat rw [zup_n (by omega)])))
    · refine zr_iconst (pc := 17)  dX8_whole_17 ?_
      refine zr_ireturn (pc := 18)  rfl (by decide) (by decide) dX8_whole_18 ?_
      exact k0 (by omega) _ (hK1 0) (fun j hj => by (repeat rw [zup_n (by omega)]))
theorem k_X8_sample {r t : Int} (hM : mK h th now len tb rk rs rg gr N bt bc bk ap pl) (hI : oI now len tb rk rs rg gr num N bt bc be bn ap pl) (hr : iR r) (ht : iR t) (k1 : ((0 ≤ r ∧ r < 16) ∧ rk r = 1) ∧ 0 ≤ t → ∀ h', mK h' 0 now len tb rk rs rg gr N bt bc bk ap pl → (∀ j, j < 38 ∨ 64 < j → h' j = h j) → Post (some (vi (cnD (dyS (SA ap bc pl bt N t) r) (lmS (SA ap bc pl bt N t) rk gr r) 84))) n h') (k0 : ¬ (((0 ≤ r ∧ r < 16) ∧ rk r = 1) ∧ 0 ≤ t) → ∀ h', mK h' 0 now len tb rk rs rg gr N bt bc bk ap pl → (∀ j, j < 38 ∨ 64 < j → h' j = h j) → Post (some (vi (-1))) n h') : zMP G mX8_sample [.ref 38, vi r, vi t] n h Post := by
  obtain ⟨i1, i2, i3, i4, i5, i6, i7, i8, i9, ⟨j1, j2, j3, j4, j5⟩⟩ := hI
  have hM' := hM
  obtain ⟨⟨al, pm, pd, sq, up, lw, m38⟩, ⟨ek, ⟨m39, m40, m41, m42, m43, m44, m45, m46, m47, m48, m49⟩, hE⟩, ⟨⟨sn0, iw0, ⟨m50, m51⟩, hz⟩, ⟨bw0, bm0, m52, m53⟩, ⟨od0, fp0, fq0, m54, m55, m56⟩, ⟨fl0, db0, m57, m58⟩, -⟩, hp⟩ := hM
  have hs := SA_R (ap := ap) (pl := pl) (bt := bt) (N := N) j2 t
  have hs50 : ∀ p, SA ap bc pl bt N t p ≤ 50 := fun p => (hs p).2
  have hK1 : ∀ x : Int, mK (zup h 38 (oMod x len N now al pm pd sq up lw)) x now len tb rk rs rg gr N bt bc bk ap pl := fun x => mK_V hM' rfl (fun j hj => by rw [zup_n (by omega)]) ⟨m50, m51⟩ hz ⟨m52, m53⟩ ⟨m54, m55, m56⟩ ⟨m57, m58⟩
  refine zMP_of (by decide) [some _, some _, some _] (Nat.le_of_ble_eq_true rfl) rfl ?_
  refine zr_aload_n (pc := 0)  (i := 0) rfl rfl dX8_sample_0 ?_
  refine zr_iconst (pc := 1)  dX8_sample_1 ?_
  refine zr_put (pc := 2)  (oMod _ _ _ _ _ _ _ _ _ _) (fp_X8_91 rfl) (by first | assumption | rfl | (repeat (first | assumption | exact zup_s | refine zup_g (by decide) ?_))) (Nat.le_of_ble_eq_true rfl) rfl rfl rfl dX8_sample_2 ?_
  refine zr_aload_n (pc := 5)  (i := 0) rfl rfl dX8_sample_5 ?_
  refine zr_iload_n (pc := 6)  (i := 1) rfl rfl dX8_sample_6 ?_
  refine zv_call1 (pc := 7)  cv_X8_sample_112 (by first | assumption | rfl | (repeat (first | assumption | exact zup_s | refine zup_g (by decide) ?_))) ⟨_, rfl, rfl⟩ (Nat.le_of_ble_eq_true rfl) (by decide) dX8_sample_7 ?_
  refine k_X8_isRoad (by first | assumption | omega | (refine ⟨?_, ?_⟩ <;> omega) | rfl | (repeat (first | assumption | exact zup_s | refine zup_g (by decide) ?_))) (by first | assumption | omega | (refine ⟨?_, ?_⟩ <;> omega) | rfl | (repeat (first | assumption | exact zup_s | refine zup_g (by decide) ?_))) (by first | assumption | omega | (refine ⟨?_, ?_⟩ <;> omega) | rfl | (repeat (first | assumption | exact zup_s | refine zup_g (by decide) ?_))) (by first | assumption | omega | (refine ⟨?_, ?_⟩ <;> omega) | rfl | (repeat (first | assumption | exact zup_s | refine zup_g (by decide) ?_))) ?_
  dsimp only [Option.toList, List.cons_append, List.nil_append]
  refine zb_eq (pc := 10) (tgt := 17) (by decide) dX8_sample_10 (fun q10 => ?_) (fun q10 => ?_)
  · refine zr_iconst (pc := 17)  dX8_sample_17 ?_
    refine zr_ireturn (pc := 18)  rfl (by decide) (by decide) dX8_sample_18 ?_
    exact k0 (by omega) _ (hK1 0) (fun j hj => by (repeat rw [zup_n (by omega)]))
  · refine zr_iload_n (pc := 13)  (i := 2) rfl rfl dX8_sample_13 ?_
    refine zr_if_ge (pc := 14)  (tgt := 19) ⟨by omega, by omega⟩ (by decide) dX8_sample_14 (fun q14 => ?_) (fun q14 => ?_)
    · refine zr_aload_n (pc := 19)  (i := 0) rfl rfl dX8_sample_19 ?_
      refine zr_iload_n (pc := 20)  (i := 2) rfl rfl dX8_sample_20 ?_
      refine zv_call1 (pc := 21)  cv_X8_sample_134 (by first | assumption | rfl | (repeat (first | assumption | exact zup_s | refine zup_g (by decide) ?_))) ⟨_, rfl, rfl⟩ (Nat.le_of_ble_eq_true rfl) (by decide) dX8_sample_21 ?_
      refine k_X8_lookUp zup_s m40 m41 m44 m45 m46 m47 m48 m50 m51 hz i4 i7 j5 hp j1 j2 j3 ht (fun sn iw hl => ?_)
      dsimp only [Option.toList, List.cons_append, List.nil_append]
      refine zr_aload_n (pc := 24)  (i := 0) rfl rfl dX8_sample_24 ?_
      refine zr_iload_n (pc := 25)  (i := 1) rfl rfl dX8_sample_25 ?_
      refine zv_call1 (pc := 26)  cv_X8_sample_159 (by first | assumption | rfl | (repeat (first | assumption | exact zup_s | refine zup_g (by decide) ?_))) ⟨_, rfl, rfl⟩ (Nat.le_of_ble_eq_true rfl) (by decide) dX8_sample_26 ?_
      refine k_X8_sampleOf rfl rfl rfl hl hs (by omega) ?_
      dsimp only [Option.toList, List.cons_append, List.nil_append]
      refine zr_ireturn (pc := 29)  rfl (by decide) (by decide) dX8_sample_29 ?_
      exact k1 (by omega) _ (mK_V hM' rfl (fun j hj => by (repeat rw [zup_n (by omega)])) ⟨rfl, rfl⟩ hl.2.2 ⟨m52, m53⟩ ⟨m54, m55, m56⟩ ⟨m57, m58⟩) (fun j hj => by (repeat rw [zup_n (by omega)]))
    · refine zr_iconst (pc := 17)  dX8_sample_17 ?_
      refine zr_ireturn (pc := 18)  rfl (by decide) (by decide) dX8_sample_18 ?_
      exact k0 (by omega) _ (hK1 0) (fun j hj => by (repeat rw [zup_n (by omega)]))
theorem k_X8_posts {g t : Int} (hM : mK h th now len tb rk rs rg gr N bt bc bk ap pl) (hI : oI now len tb rk rs rg gr num N bt bc be bn ap pl) (hg : iR g) (ht : iR t) (k1 : (0 ≤ g ∧ g < 4) ∧ 0 ≤ t → ∀ h', mK h' 0 now len tb rk rs rg gr N bt bc bk ap pl → (∀ j, j < 38 ∨ 64 < j → h' j = h j) → (thS (SA ap bc pl bt N t) rk gr g (-1) → Post (some (vi (CS (SA ap bc pl bt N t) rk gr g (-1)))) n h') ∧ (¬ thS (SA ap bc pl bt N t) rk gr g (-1) → Post (some (vi 0)) n h')) (k0 : ¬ ((0 ≤ g ∧ g < 4) ∧ 0 ≤ t) → ∀ h', mK h' 0 now len tb rk rs rg gr N bt bc bk ap pl → (∀ j, j < 38 ∨ 64 < j → h' j = h j) → Post (some (vi (-1))) n h') : zMP G mX8_posts [.ref 38, vi g, vi t] n h Post := by
  obtain ⟨i1, i2, i3, i4, i5, i6, i7, i8, i9, ⟨j1, j2, j3, j4, j5⟩⟩ := hI
  have hM' := hM
  obtain ⟨⟨al, pm, pd, sq, up, lw, m38⟩, ⟨ek, ⟨m39, m40, m41, m42, m43, m44, m45, m46, m47, m48, m49⟩, hE⟩, ⟨⟨sn0, iw0, ⟨m50, m51⟩, hz⟩, ⟨bw0, bm0, m52, m53⟩, ⟨od0, fp0, fq0, m54, m55, m56⟩, ⟨fl0, db0, m57, m58⟩, -⟩, hp⟩ := hM
  have hs := SA_R (ap := ap) (pl := pl) (bt := bt) (N := N) j2 t
  have hs50 : ∀ p, SA ap bc pl bt N t p ≤ 50 := fun p => (hs p).2
  have hK1 : ∀ x : Int, mK (zup h 38 (oMod x len N now al pm pd sq up lw)) x now len tb rk rs rg gr N bt bc bk ap pl := fun x => mK_V hM' rfl (fun j hj => by rw [zup_n (by omega)]) ⟨m50, m51⟩ hz ⟨m52, m53⟩ ⟨m54, m55, m56⟩ ⟨m57, m58⟩
  have hw1 : iR (-1) := ⟨by decide, by decide⟩
  refine zMP_of (by decide) [some _, some _, some _] (Nat.le_of_ble_eq_true rfl) rfl ?_
  refine zr_aload_n (pc := 0)  (i := 0) rfl rfl dX8_posts_0 ?_
  refine zr_iconst (pc := 1)  dX8_posts_1 ?_
  refine zr_put (pc := 2)  (oMod _ _ _ _ _ _ _ _ _ _) (fp_X8_91 rfl) (by first | assumption | rfl | (repeat (first | assumption | exact zup_s | refine zup_g (by decide) ?_))) (Nat.le_of_ble_eq_true rfl) rfl rfl rfl dX8_posts_2 ?_
  refine zr_iload_n (pc := 5)  (i := 1) rfl rfl dX8_posts_5 ?_
  refine zc_call1 (pc := 6)  cs_X8_posts_144 (Nat.le_of_ble_eq_true rfl) (by decide) dX8_posts_6 ?_
  refine k_X8_isGroup (by first | assumption | omega | (refine ⟨?_, ?_⟩ <;> omega) | rfl | (repeat (first | assumption | exact zup_s | refine zup_g (by decide) ?_))) ?_
  dsimp only [Option.toList, List.cons_append, List.nil_append]
  refine zb_eq (pc := 9) (tgt := 16) (by decide) dX8_posts_9 (fun q9 => ?_) (fun q9 => ?_)
  · refine zr_iconst (pc := 16)  dX8_posts_16 ?_
    refine zr_ireturn (pc := 17)  rfl (by decide) (by decide) dX8_posts_17 ?_
    exact k0 (by omega) _ (hK1 0) (fun j hj => by (repeat rw [zup_n (by omega)]))
  · refine zr_iload_n (pc := 12)  (i := 2) rfl rfl dX8_posts_12 ?_
    refine zr_if_ge (pc := 13)  (tgt := 18) ⟨by omega, by omega⟩ (by decide) dX8_posts_13 (fun q13 => ?_) (fun q13 => ?_)
    · refine zr_aload_n (pc := 18)  (i := 0) rfl rfl dX8_posts_18 ?_
      refine zr_iload_n (pc := 19)  (i := 2) rfl rfl dX8_posts_19 ?_
      refine zv_call1 (pc := 20)  cv_X8_posts_134 (by first | assumption | rfl | (repeat (first | assumption | exact zup_s | refine zup_g (by decide) ?_))) ⟨_, rfl, rfl⟩ (Nat.le_of_ble_eq_true rfl) (by decide) dX8_posts_20 ?_
      refine k_X8_lookUp zup_s m40 m41 m44 m45 m46 m47 m48 m50 m51 hz i4 i7 j5 hp j1 j2 j3 ht (fun sn iw hl => ?_)
      dsimp only [Option.toList, List.cons_append, List.nil_append]
      refine zr_aload_n (pc := 23)  (i := 0) rfl rfl dX8_posts_23 ?_
      refine zr_iload_n (pc := 24)  (i := 1) rfl rfl dX8_posts_24 ?_
      refine zr_iconst (pc := 25)  dX8_posts_25 ?_
      refine zv_call2 (pc := 26)  cv_X8_posts_147 (by first | assumption | rfl | (repeat (first | assumption | exact zup_s | refine zup_g (by decide) ?_))) ⟨_, rfl, rfl⟩ (Nat.le_of_ble_eq_true rfl) (by decide) dX8_posts_26 ?_
      refine k_X8_sums (rfl) (by first | assumption | omega | (refine ⟨?_, ?_⟩ <;> omega) | rfl | (repeat (first | assumption | exact zup_s | refine zup_g (by decide) ?_))) (by first | assumption | omega | (refine ⟨?_, ?_⟩ <;> omega) | rfl | (repeat (first | assumption | exact zup_s | refine zup_g (by decide) ?_))) (by first | assumption | omega | (refine ⟨?_, ?_⟩ <;> omega) | rfl | (repeat (first | assumption | exact zup_s | refine zup_g (by decide) ?_))) (by first | assumption | omega | (refine ⟨?_, ?_⟩ <;> omega) | rfl | (repeat (first | assumption | exact zup_s | refine zup_g (by decide) ?_))) (by first | assumption | omega | (refine ⟨?_, ?_⟩ <;> omega) | rfl | (repeat (first | assumption | exact zup_s | refine zup_g (by decide) ?_))) (by first | assumption | omega | (refine ⟨?_, ?_⟩ <;> omega) | rfl | (repeat (first | assumption | exact zup_s | refine zup_g (by decide) ?_))) (by first | assumption | omega | (refine ⟨?_, ?_⟩ <;> omega) | rfl | (repeat (first | assumption | exact zup_s | refine zup_g (by decide) ?_))) (by first | assumption | omega | (refine ⟨?_, ?_⟩ <;> omega) | rfl | (repeat (first | assumption | exact zup_s | refine zup_g (by decide) ?_))) (by first | assumption | omega | (refine ⟨?_, ?_⟩ <;> omega) | rfl | (repeat (first | assumption | exact zup_s | refine zup_g (by decide) ?_))) (by first | assumption | omega | (refine ⟨?_, ?_⟩ <;> omega) | rfl | (repeat (first | assumption | exact zup_s | refine zup_g (by decide) ?_))) (fun c26 c26_1 c26_2 c26_3 => ?_) (fun c26 c26_1 c26_2 c26_3 => ?_)
      · dsimp only [Option.toList, List.cons_append, List.nil_append]
        refine zk_eq1 (pc := 29) (tgt := 39) dX8_posts_29 (by decide) ?_
        have hK2 := mK_V hM' (h' := hU (zup (zup (zup h 38 (oMod 0 len N now al pm pd sq up lw)) 50 (aI 1344 sn)) 51 (aZ 16 iw)) (oMod 0 len N now (TS (SA ap bc pl bt N t) rk gr g (-1)) (CS (SA ap bc pl bt N t) rk gr g (-1)) pd sq up lw) c26 c26_1) rfl (fun j hj => by rw [hU_fr (by omega)]; (repeat rw [zup_n (by omega)])) ⟨rfl, rfl⟩ hl.2.2 ⟨rfl, rfl⟩ ⟨m54, m55, m56⟩ ⟨m57, m58⟩
        refine zr_aload_n (pc := 32)  (i := 0) rfl rfl dX8_posts_32 ?_
        refine zr_get (pc := 33)  fl_X8_141 (by first | assumption | rfl | (repeat (first | assumption | exact zup_s | refine zup_g (by decide) ?_))) rfl dX8_posts_33 ?_
        refine zr_goto (pc := 36)  (tgt := 40) (by decide) dX8_posts_36 ?_
        refine zr_ireturn (pc := 40)  rfl (by decide) (by decide) dX8_posts_40 ?_
        first | exact (k1 (by omega) _ hK2 (fun j hj => by rw [hU_fr (by omega)]; (repeat rw [zup_n (by omega)]))).1 ((th_iff hs50).mp c26_3) | exact (k1 (by omega) _ hK2 (fun j hj => by rw [hU_fr (by omega)]; (repeat rw [zup_n (by omega)]))).2 (fun z => c26_3 ((th_iff hs50).mpr z))
      · dsimp only [Option.toList, List.cons_append, List.nil_append]
        refine zk_eq0 (pc := 29) (tgt := 39) (by decide) dX8_posts_29 ?_
        have hK2 := mK_V hM' (h' := hU (zup (zup (zup h 38 (oMod 0 len N now al pm pd sq up lw)) 50 (aI 1344 sn)) 51 (aZ 16 iw)) (oMod 0 len N now (TS (SA ap bc pl bt N t) rk gr g (-1)) (CS (SA ap bc pl bt N t) rk gr g (-1)) pd sq up lw) c26 c26_1) rfl (fun j hj => by rw [hU_fr (by omega)]; (repeat rw [zup_n (by omega)])) ⟨rfl, rfl⟩ hl.2.2 ⟨rfl, rfl⟩ ⟨m54, m55, m56⟩ ⟨m57, m58⟩
        refine zr_iconst (pc := 39)  dX8_posts_39 ?_
        refine zr_ireturn (pc := 40)  rfl (by decide) (by decide) dX8_posts_40 ?_
        first | exact (k1 (by omega) _ hK2 (fun j hj => by rw [hU_fr (by omega)]; (repeat rw [zup_n (by omega)]))).1 ((th_iff hs50).mp c26_3) | exact (k1 (by omega) _ hK2 (fun j hj => by rw [hU_fr (by omega)]; (repeat rw [zup_n (by omega)]))).2 (fun z => c26_3 ((th_iff hs50).mpr z))
    · refine zr_iconst (pc := 16)  dX8_posts_16 ?_
      refine zr_ireturn (pc := 17)  rfl (by decide) (by decide) dX8_posts_17 ?_
      exact k0 (by omega) _ (hK1 0) (fun j hj => by (repeat rw [zup_n (by omega)]))
theorem k_X8_worth {g d t : Int} (hM : mK h th now len tb rk rs rg gr N bt bc bk ap pl) (hI : oI now len tb rk rs rg gr num N bt bc be bn ap pl) (hg : iR g) (hd : iR d) (ht : iR t) (k1 : ((0 ≤ g ∧ g < 4) ∧ (0 ≤ d ∧ d < 84)) ∧ 0 ≤ t → thS (SA ap bc pl bt N t) rk gr g (-1) → ∀ h', mK h' 0 now len tb rk rs rg gr N bt bc bk ap pl → (∀ j, j < 38 ∨ 64 < j → h' j = h j) → Post (some (vi (vS (SA ap bc pl bt N t) rk gr g (-1) d))) n h') (kx : ¬ ((((0 ≤ g ∧ g < 4) ∧ (0 ≤ d ∧ d < 84)) ∧ 0 ≤ t) ∧ thS (SA ap bc pl bt N t) rk gr g (-1)) → ∀ h', mK h' 1 now len tb rk rs rg gr N bt bc bk ap pl → (∀ j, j < 38 ∨ 64 < j → h' j = h j) → Post (some (vi 0)) n h') : zMP G mX8_worth [.ref 38, vi g, vi d, vi t] n h Post := by
  obtain ⟨i1, i2, i3, i4, i5, i6, i7, i8, i9, ⟨j1, j2, j3, j4, j5⟩⟩ := hI
  have hM' := hM
  obtain ⟨⟨al, pm, pd, sq, up, lw, m38⟩, ⟨ek, ⟨m39, m40, m41, m42, m43, m44, m45, m46, m47, m48, m49⟩, hE⟩, ⟨⟨sn0, iw0, ⟨m50, m51⟩, hz⟩, ⟨bw0, bm0, m52, m53⟩, ⟨od0, fp0, fq0, m54, m55, m56⟩, ⟨fl0, db0, m57, m58⟩, -⟩, hp⟩ := hM
  have hs := SA_R (ap := ap) (pl := pl) (bt := bt) (N := N) j2 t
  have hs50 : ∀ p, SA ap bc pl bt N t p ≤ 50 := fun p => (hs p).2
  have hK1 : ∀ x : Int, mK (zup h 38 (oMod x len N now al pm pd sq up lw)) x now len tb rk rs rg gr N bt bc bk ap pl := fun x => mK_V hM' rfl (fun j hj => by rw [zup_n (by omega)]) ⟨m50, m51⟩ hz ⟨m52, m53⟩ ⟨m54, m55, m56⟩ ⟨m57, m58⟩
  have hw1 : iR (-1) := ⟨by decide, by decide⟩
  have hK2 : ∀ (x : Int) (sn iw bw bm : Int → Int), lkS (SA ap bc pl bt N t) rk gr sn iw → mK (zup (hU (zup (zup h 50 (aI 1344 sn)) 51 (aZ 16 iw)) (oMod th len N now (TS (SA ap bc pl bt N t) rk gr g (-1)) (CS (SA ap bc pl bt N t) rk gr g (-1)) pd sq up lw) bw bm) 38 (oMod x len N now (TS (SA ap bc pl bt N t) rk gr g (-1)) (CS (SA ap bc pl bt N t) rk gr g (-1)) pd sq up lw)) x now len tb rk rs rg gr N bt bc bk ap pl := fun x sn iw bw bm hl => mK_V hM' rfl (fun j hj => by rw [zup_n (by omega), hU_fr (by omega), zup_n (by omega), zup_n (by omega)]) ⟨rfl, rfl⟩ hl.2.2 ⟨rfl, rfl⟩ ⟨m54, m55, m56⟩ ⟨m57, m58⟩
  refine zMP_of (by decide) [some _, some _, some _, some _, none] (Nat.le_of_ble_eq_true rfl) rfl ?_
  refine zr_iload_n (pc := 0)  (i := 1) rfl rfl dX8_worth_0 ?_
  refine zc_call1 (pc := 1)  cs_X8_worth_144 (Nat.le_of_ble_eq_true rfl) (by decide) dX8_worth_1 ?_
  refine k_X8_isGroup (by first | assumption | omega | (refine ⟨?_, ?_⟩ <;> omega) | rfl | (repeat (first | assumption | exact zup_s | refine zup_g (by decide) ?_))) ?_
  dsimp only [Option.toList, List.cons_append, List.nil_append]
  refine zb_eq (pc := 4) (tgt := 22) (by decide) dX8_worth_4 (fun q4 => ?_) (fun q4 => ?_)
  · refine zr_iconst (pc := 22)  dX8_worth_22 ?_
    refine zs_istore_4 (pc := 23)  (by first | exact zn_i | exact zn_r | exact zn_0) (by decide) dX8_worth_23 ?_
    refine zr_iload (pc := 25)  rfl dX8_worth_25 ?_
    refine zk_eq0 (pc := 27) (tgt := 35) (by decide) dX8_worth_27 ?_
    refine zr_aload_n (pc := 35)  (i := 0) rfl rfl dX8_worth_35 ?_
    refine zr_iload (pc := 36)  rfl dX8_worth_36 ?_
    refine zk_eq0 (pc := 38) (tgt := 50) (by decide) dX8_worth_38 ?_
    refine zr_iconst (pc := 50)  dX8_worth_50 ?_
    refine zr_goto (pc := 51)  (tgt := 55) (by decide) dX8_worth_51 ?_
    refine zv_call1 (pc := 55)  cv_X8_worth_151 (by first | assumption | rfl | (repeat (first | assumption | exact zup_s | refine zup_g (by decide) ?_))) ⟨_, rfl, rfl⟩ (Nat.le_of_ble_eq_true rfl) (by decide) dX8_worth_55 ?_
    refine k_X8_throwsIf (by first | assumption | omega | (refine ⟨?_, ?_⟩ <;> omega) | rfl | (repeat (first | assumption | exact zup_s | refine zup_g (by decide) ?_))) (by first | assumption | omega | (refine ⟨?_, ?_⟩ <;> omega) | rfl | (repeat (first | assumption | exact zup_s | refine zup_g (by decide) ?_))) ?_
    dsimp only [Option.toList, List.cons_append, List.nil_append]
    refine zk_eq1 (pc := 58) (tgt := 63) dX8_worth_58 (by decide) ?_
    refine zr_iconst (pc := 61)  dX8_worth_61 ?_
    refine zr_ireturn (pc := 62)  rfl (by decide) (by decide) dX8_worth_62 ?_
    first | exact kx (fun z => by have := z.1; omega) _ (hK1 1) (fun j hj => by (repeat rw [zup_n (by omega)])) | exact kx (fun z => c44_3 ((th_iff hs50).mpr z.2)) _ (hK2 1 sn iw c44 c44_1 hl) (fun j hj => by rw [zup_n (by omega), hU_fr (by omega), zup_n (by omega), zup_n (by omega)])
  · refine zr_iload_n (pc := 7)  (i := 2) rfl rfl dX8_worth_7 ?_
    refine zc_call1 (pc := 8)  cs_X8_worth_116 (Nat.le_of_ble_eq_true rfl) (by decide) dX8_worth_8 ?_
    refine k_X8_isDay (by first | assumption | omega | (refine ⟨?_, ?_⟩ <;> omega) | rfl | (repeat (first | assumption | exact zup_s | refine zup_g (by decide) ?_))) ?_
    dsimp only [Option.toList, List.cons_append, List.nil_append]
    refine zb_eq (pc := 11) (tgt := 22) (by decide) dX8_worth_11 (fun q11 => ?_) (fun q11 => ?_)
    · refine zr_iconst (pc := 22)  dX8_worth_22 ?_
      refine zs_istore_4 (pc := 23)  (by first | exact zn_i | exact zn_r | exact zn_0) (by decide) dX8_worth_23 ?_
      refine zr_iload (pc := 25)  rfl dX8_worth_25 ?_
      refine zk_eq0 (pc := 27) (tgt := 35) (by decide) dX8_worth_27 ?_
      refine zr_aload_n (pc := 35)  (i := 0) rfl rfl dX8_worth_35 ?_
      refine zr_iload (pc := 36)  rfl dX8_worth_36 ?_
      refine zk_eq0 (pc := 38) (tgt := 50) (by decide) dX8_worth_38 ?_
      refine zr_iconst (pc := 50)  dX8_worth_50 ?_
      refine zr_goto (pc := 51)  (tgt := 55) (by decide) dX8_worth_51 ?_
      refine zv_call1 (pc := 55)  cv_X8_worth_151 (by first | assumption | rfl | (repeat (first | assumption | exact zup_s | refine zup_g (by decide) ?_))) ⟨_, rfl, rfl⟩ (Nat.le_of_ble_eq_true rfl) (by decide) dX8_worth_55 ?_
      refine k_X8_throwsIf (by first | assumption | omega | (refine ⟨?_, ?_⟩ <;> omega) | rfl | (repeat (first | assumption | exact zup_s | refine zup_g (by decide) ?_))) (by first | assumption | omega | (refine ⟨?_, ?_⟩ <;> omega) | rfl | (repeat (first | assumption | exact zup_s | refine zup_g (by decide) ?_))) ?_
      dsimp only [Option.toList, List.cons_append, List.nil_append]
      refine zk_eq1 (pc := 58) (tgt := 63) dX8_worth_58 (by decide) ?_
      refine zr_iconst (pc := 61)  dX8_worth_61 ?_
      refine zr_ireturn (pc := 62)  rfl (by decide) (by decide) dX8_worth_62 ?_
      first | exact kx (fun z => by have := z.1; omega) _ (hK1 1) (fun j hj => by (repeat rw [zup_n (by omega)])) | exact kx (fun z => c44_3 ((th_iff hs50).mpr z.2)) _ (hK2 1 sn iw c44 c44_1 hl) (fun j hj => by rw [zup_n (by omega), hU_fr (by omega), zup_n (by omega), zup_n (by omega)])
    · refine zr_iload_n (pc := 14)  (i := 3) rfl rfl dX8_worth_14 ?_
      refine zr_if_lt (pc := 15)  (tgt := 22) ⟨by omega, by omega⟩ (by decide) dX8_worth_15 (fun q15 => ?_) (fun q15 => ?_)
      · refine zr_iconst (pc := 22)  dX8_worth_22 ?_
        refine zs_istore_4 (pc := 23)  (by first | exact zn_i | exact zn_r | exact zn_0) (by decide) dX8_worth_23 ?_
        refine zr_iload (pc := 25)  rfl dX8_worth_25 ?_
        refine zk_eq0 (pc := 27) (tgt := 35) (by decide) dX8_worth_27 ?_
        refine zr_aload_n (pc := 35)  (i := 0) rfl rfl dX8_worth_35 ?_
        refine zr_iload (pc := 36)  rfl dX8_worth_36 ?_
        refine zk_eq0 (pc := 38) (tgt := 50) (by decide) dX8_worth_38 ?_
        refine zr_iconst (pc := 50)  dX8_worth_50 ?_
        refine zr_goto (pc := 51)  (tgt := 55) (by decide) dX8_worth_51 ?_
        refine zv_call1 (pc := 55)  cv_X8_worth_151 (by first | assumption | rfl | (repeat (first | assumption | exact zup_s | refine zup_g (by decide) ?_))) ⟨_, rfl, rfl⟩ (Nat.le_of_ble_eq_true rfl) (by decide) dX8_worth_55 ?_
        refine k_X8_throwsIf (by first | assumption | omega | (refine ⟨?_, ?_⟩ <;> omega) | rfl | (repeat (first | assumption | exact zup_s | refine zup_g (by decide) ?_))) (by first | assumption | omega | (refine ⟨?_, ?_⟩ <;> omega) | rfl | (repeat (first | assumption | exact zup_s | refine zup_g (by decide) ?_))) ?_
        dsimp only [Option.toList, List.cons_append, List.nil_append]
        refine zk_eq1 (pc := 58) (tgt := 63) dX8_worth_58 (by decide) ?_
        refine zr_iconst (pc := 61)  dX8_worth_61 ?_
        refine zr_ireturn (pc := 62)  rfl (by decide) (by decide) dX8_worth_62 ?_
        first | exact kx (fun z => by have := z.1; omega) _ (hK1 1) (fun j hj => by (repeat rw [zup_n (by omega)])) | exact kx (fun z => c44_3 ((th_iff hs50).mpr z.2)) _ (hK2 1 sn iw c44 c44_1 hl) (fun j hj => by rw [zup_n (by omega), hU_fr (by omega), zup_n (by omega), zup_n (by omega)])
      · refine zr_iconst (pc := 18)  dX8_worth_18 ?_
        refine zr_goto (pc := 19)  (tgt := 23) (by decide) dX8_worth_19 ?_
        refine zs_istore_4 (pc := 23)  (by first | exact zn_i | exact zn_r | exact zn_0) (by decide) dX8_worth_23 ?_
        refine zr_iload (pc := 25)  rfl dX8_worth_25 ?_
        refine zk_eq1 (pc := 27) (tgt := 35) dX8_worth_27 (by decide) ?_
        refine zr_aload_n (pc := 30)  (i := 0) rfl rfl dX8_worth_30 ?_
        refine zr_iload_n (pc := 31)  (i := 3) rfl rfl dX8_worth_31 ?_
        refine zv_call1 (pc := 32)  cv_X8_worth_134 (by first | assumption | rfl | (repeat (first | assumption | exact zup_s | refine zup_g (by decide) ?_))) ⟨_, rfl, rfl⟩ (Nat.le_of_ble_eq_true rfl) (by decide) dX8_worth_32 ?_
        refine k_X8_lookUp m38 m40 m41 m44 m45 m46 m47 m48 m50 m51 hz i4 i7 j5 hp j1 j2 j3 ht (fun sn iw hl => ?_)
        dsimp only [Option.toList, List.cons_append, List.nil_append]
        refine zr_aload_n (pc := 35)  (i := 0) rfl rfl dX8_worth_35 ?_
        refine zr_iload (pc := 36)  rfl dX8_worth_36 ?_
        refine zk_eq1 (pc := 38) (tgt := 50) dX8_worth_38 (by decide) ?_
        refine zr_aload_n (pc := 41)  (i := 0) rfl rfl dX8_worth_41 ?_
        refine zr_iload_n (pc := 42)  (i := 1) rfl rfl dX8_worth_42 ?_
        refine zr_iconst (pc := 43)  dX8_worth_43 ?_
        refine zv_call2 (pc := 44)  cv_X8_worth_147 (by first | assumption | rfl | (repeat (first | assumption | exact zup_s | refine zup_g (by decide) ?_))) ⟨_, rfl, rfl⟩ (Nat.le_of_ble_eq_true rfl) (by decide) dX8_worth_44 ?_
        refine k_X8_sums (m38) (by first | assumption | omega | (refine ⟨?_, ?_⟩ <;> omega) | rfl | (repeat (first | assumption | exact zup_s | refine zup_g (by decide) ?_))) (by first | assumption | omega | (refine ⟨?_, ?_⟩ <;> omega) | rfl | (repeat (first | assumption | exact zup_s | refine zup_g (by decide) ?_))) (by first | assumption | omega | (refine ⟨?_, ?_⟩ <;> omega) | rfl | (repeat (first | assumption | exact zup_s | refine zup_g (by decide) ?_))) (by first | assumption | omega | (refine ⟨?_, ?_⟩ <;> omega) | rfl | (repeat (first | assumption | exact zup_s | refine zup_g (by decide) ?_))) (by first | assumption | omega | (refine ⟨?_, ?_⟩ <;> omega) | rfl | (repeat (first | assumption | exact zup_s | refine zup_g (by decide) ?_))) (by first | assumption | omega | (refine ⟨?_, ?_⟩ <;> omega) | rfl | (repeat (first | assumption | exact zup_s | refine zup_g (by decide) ?_))) (by first | assumption | omega | (refine ⟨?_, ?_⟩ <;> omega) | rfl | (repeat (first | assumption | exact zup_s | refine zup_g (by decide) ?_))) (by first | assumption | omega | (refine ⟨?_, ?_⟩ <;> omega) | rfl | (repeat (first | assumption | exact zup_s | refine zup_g (by decide) ?_))) (by first | assumption | omega | (refine ⟨?_, ?_⟩ <;> omega) | rfl | (repeat (first | assumption | exact zup_s | refine zup_g (by decide) ?_))) (by first | assumption | omega | (refine ⟨?_, ?_⟩ <;> omega) | rfl | (repeat (first | assumption | exact zup_s | refine zup_g (by decide) ?_))) (fun c44 c44_1 c44_2 c44_3 => ?_) (fun c44 c44_1 c44_2 c44_3 => ?_)
        · dsimp only [Option.toList, List.cons_append, List.nil_append]
          refine zk_ne1 (pc := 47) (tgt := 54) (by decide) dX8_worth_47 ?_
          refine zr_iconst (pc := 54)  dX8_worth_54 ?_
          refine zv_call1 (pc := 55)  cv_X8_worth_151 (by first | assumption | rfl | (repeat (first | assumption | exact zup_s | refine zup_g (by decide) ?_))) ⟨_, rfl, rfl⟩ (Nat.le_of_ble_eq_true rfl) (by decide) dX8_worth_55 ?_
          refine k_X8_throwsIf (by first | assumption | omega | (refine ⟨?_, ?_⟩ <;> omega) | rfl | (repeat (first | assumption | exact zup_s | refine zup_g (by decide) ?_))) (by first | assumption | omega | (refine ⟨?_, ?_⟩ <;> omega) | rfl | (repeat (first | assumption | exact zup_s | refine zup_g (by decide) ?_))) ?_
          dsimp only [Option.toList, List.cons_append, List.nil_append]
          refine zk_eq0 (pc := 58) (tgt := 63) (by decide) dX8_worth_58 ?_
          refine zr_aload_n (pc := 63)  (i := 0) rfl rfl dX8_worth_63 ?_
          refine zr_iload_n (pc := 64)  (i := 2) rfl rfl dX8_worth_64 ?_
          refine zv_call1 (pc := 65)  cv_X8_worth_155 (by first | assumption | rfl | (repeat (first | assumption | exact zup_s | refine zup_g (by decide) ?_))) ⟨_, rfl, rfl⟩ (Nat.le_of_ble_eq_true rfl) (by decide) dX8_worth_65 ?_
          refine k_X8_worthOf (by first | assumption | omega | (refine ⟨?_, ?_⟩ <;> omega) | rfl | (repeat (first | assumption | exact zup_s | refine zup_g (by decide) ?_))) (by first | assumption | omega | (refine ⟨?_, ?_⟩ <;> omega) | rfl | (repeat (first | assumption | exact zup_s | refine zup_g (by decide) ?_))) (by first | assumption | omega | (refine ⟨?_, ?_⟩ <;> omega) | rfl | (repeat (first | assumption | exact zup_s | refine zup_g (by decide) ?_))) (by first | assumption | omega | (refine ⟨?_, ?_⟩ <;> omega) | rfl | (repeat (first | assumption | exact zup_s | refine zup_g (by decide) ?_))) ?_
          dsimp only [Option.toList, List.cons_append, List.nil_append]
          have hvR := vS_R (s := (SA ap bc pl bt N t)) (rk := rk) (gr := gr) (w := -1) (g := g) (d := d) hs50 (by omega)
          rw [sm_v c44_2 (by omega)]
          refine zr_l2i (pc := 68)  dX8_worth_68 ?_
          refine zr_ireturn (pc := 69)  rfl (by decide) (by decide) dX8_worth_69 ?_
          exact k1 (by omega) ((th_iff hs50).mp c44_3) _ (hK2 0 sn iw c44 c44_1 hl) (fun j hj => by rw [zup_n (by omega), hU_fr (by omega), zup_n (by omega), zup_n (by omega)])
        · dsimp only [Option.toList, List.cons_append, List.nil_append]
          refine zk_ne0 (pc := 47) (tgt := 54) dX8_worth_47 (by decide) ?_
          refine zr_iconst (pc := 50)  dX8_worth_50 ?_
          refine zr_goto (pc := 51)  (tgt := 55) (by decide) dX8_worth_51 ?_
          refine zv_call1 (pc := 55)  cv_X8_worth_151 (by first | assumption | rfl | (repeat (first | assumption | exact zup_s | refine zup_g (by decide) ?_))) ⟨_, rfl, rfl⟩ (Nat.le_of_ble_eq_true rfl) (by decide) dX8_worth_55 ?_
          refine k_X8_throwsIf (by first | assumption | omega | (refine ⟨?_, ?_⟩ <;> omega) | rfl | (repeat (first | assumption | exact zup_s | refine zup_g (by decide) ?_))) (by first | assumption | omega | (refine ⟨?_, ?_⟩ <;> omega) | rfl | (repeat (first | assumption | exact zup_s | refine zup_g (by decide) ?_))) ?_
          dsimp only [Option.toList, List.cons_append, List.nil_append]
          refine zk_eq1 (pc := 58) (tgt := 63) dX8_worth_58 (by decide) ?_
          refine zr_iconst (pc := 61)  dX8_worth_61 ?_
          refine zr_ireturn (pc := 62)  rfl (by decide) (by decide) dX8_worth_62 ?_
          first | exact kx (fun z => by have := z.1; omega) _ (hK1 1) (fun j hj => by (repeat rw [zup_n (by omega)])) | exact kx (fun z => c44_3 ((th_iff hs50).mpr z.2)) _ (hK2 1 sn iw c44 c44_1 hl) (fun j hj => by rw [zup_n (by omega), hU_fr (by omega), zup_n (by omega), zup_n (by omega)])
theorem k_X8_fit {r t c : Int} (hM : mK h th now len tb rk rs rg gr N bt bc bk ap pl) (hI : oI now len tb rk rs rg gr num N bt bc be bn ap pl) (hr : iR r) (hc : iR c) (ht : iR t) (k1 : ((0 ≤ r ∧ r < 16) ∧ rk r = 1) ∧ 0 ≤ t → ∀ h', mK h' 0 now len tb rk rs rg gr N bt bc bk ap pl → (∀ j, j < 38 ∨ 64 < j → h' j = h j) → Post (some (vi (fitS (SA ap bc pl bt N t) rk gr r c))) n h') (k0 : ¬ (((0 ≤ r ∧ r < 16) ∧ rk r = 1) ∧ 0 ≤ t) → ∀ h', mK h' 0 now len tb rk rs rg gr N bt bc bk ap pl → (∀ j, j < 38 ∨ 64 < j → h' j = h j) → Post (some (vi (-1))) n h') : zMP G mX8_fit [.ref 38, vi r, vi c, vi t] n h Post := by
  obtain ⟨i1, i2, i3, i4, i5, i6, i7, i8, i9, ⟨j1, j2, j3, j4, j5⟩⟩ := hI
  have hM' := hM
  obtain ⟨⟨al, pm, pd, sq, up, lw, m38⟩, ⟨ek, ⟨m39, m40, m41, m42, m43, m44, m45, m46, m47, m48, m49⟩, hE⟩, ⟨⟨sn0, iw0, ⟨m50, m51⟩, hz⟩, ⟨bw0, bm0, m52, m53⟩, ⟨od0, fp0, fq0, m54, m55, m56⟩, ⟨fl0, db0, m57, m58⟩, -⟩, hp⟩ := hM
  have hs := SA_R (ap := ap) (pl := pl) (bt := bt) (N := N) j2 t
  have hs50 : ∀ p, SA ap bc pl bt N t p ≤ 50 := fun p => (hs p).2
  have hK1 : ∀ x : Int, mK (zup h 38 (oMod x len N now al pm pd sq up lw)) x now len tb rk rs rg gr N bt bc bk ap pl := fun x => mK_V hM' rfl (fun j hj => by rw [zup_n (by omega)]) ⟨m50, m51⟩ hz ⟨m52, m53⟩ ⟨m54, m55, m56⟩ ⟨m57, m58⟩
  have hng : c < 0 → fitS (SA ap bc pl bt N t) rk gr r c = -1 := fun z => rkZ_neg z
  refine zMP_of (by decide) [some _, some _, some _, some _] (Nat.le_of_ble_eq_true rfl) rfl ?_
  refine zr_aload_n (pc := 0)  (i := 0) rfl rfl dX8_fit_0 ?_
  refine zr_iconst (pc := 1)  dX8_fit_1 ?_
  refine zr_put (pc := 2)  (oMod _ _ _ _ _ _ _ _ _ _) (fp_X8_91 rfl) (by first | assumption | rfl | (repeat (first | assumption | exact zup_s | refine zup_g (by decide) ?_))) (Nat.le_of_ble_eq_true rfl) rfl rfl rfl dX8_fit_2 ?_
  refine zr_aload_n (pc := 5)  (i := 0) rfl rfl dX8_fit_5 ?_
  refine zr_iload_n (pc := 6)  (i := 1) rfl rfl dX8_fit_6 ?_
  refine zv_call1 (pc := 7)  cv_X8_fit_112 (by first | assumption | rfl | (repeat (first | assumption | exact zup_s | refine zup_g (by decide) ?_))) ⟨_, rfl, rfl⟩ (Nat.le_of_ble_eq_true rfl) (by decide) dX8_fit_7 ?_
  refine k_X8_isRoad (by first | assumption | omega | (refine ⟨?_, ?_⟩ <;> omega) | rfl | (repeat (first | assumption | exact zup_s | refine zup_g (by decide) ?_))) (by first | assumption | omega | (refine ⟨?_, ?_⟩ <;> omega) | rfl | (repeat (first | assumption | exact zup_s | refine zup_g (by decide) ?_))) (by first | assumption | omega | (refine ⟨?_, ?_⟩ <;> omega) | rfl | (repeat (first | assumption | exact zup_s | refine zup_g (by decide) ?_))) (by first | assumption | omega | (refine ⟨?_, ?_⟩ <;> omega) | rfl | (repeat (first | assumption | exact zup_s | refine zup_g (by decide) ?_))) ?_
  dsimp only [Option.toList, List.cons_append, List.nil_append]
  refine zb_eq (pc := 10) (tgt := 21) (by decide) dX8_fit_10 (fun q10 => ?_) (fun q10 => ?_)
  · refine zr_iconst (pc := 21)  dX8_fit_21 ?_
    refine zr_ireturn (pc := 22)  rfl (by decide) (by decide) dX8_fit_22 ?_
    first | exact k0 (by omega) _ (hK1 0) (fun j hj => by (repeat rw [zup_n (by omega)])) | (have k2 := k1 (by omega) _ (hK1 0) (fun j hj => by (repeat rw [zup_n (by omega)])); rw [hng (by omega)] at k2; exact k2)
  · refine zr_iload_n (pc := 13)  (i := 3) rfl rfl dX8_fit_13 ?_
    refine zr_if_lt (pc := 14)  (tgt := 21) ⟨by omega, by omega⟩ (by decide) dX8_fit_14 (fun q14 => ?_) (fun q14 => ?_)
    · refine zr_iconst (pc := 21)  dX8_fit_21 ?_
      refine zr_ireturn (pc := 22)  rfl (by decide) (by decide) dX8_fit_22 ?_
      first | exact k0 (by omega) _ (hK1 0) (fun j hj => by (repeat rw [zup_n (by omega)])) | (have k2 := k1 (by omega) _ (hK1 0) (fun j hj => by (repeat rw [zup_n (by omega)])); rw [hng (by omega)] at k2; exact k2)
    · refine zr_iload_n (pc := 17)  (i := 2) rfl rfl dX8_fit_17 ?_
      refine zr_if_ge (pc := 18)  (tgt := 23) ⟨by omega, by omega⟩ (by decide) dX8_fit_18 (fun q18 => ?_) (fun q18 => ?_)
      · refine zr_aload_n (pc := 23)  (i := 0) rfl rfl dX8_fit_23 ?_
        refine zr_iload_n (pc := 24)  (i := 3) rfl rfl dX8_fit_24 ?_
        refine zv_call1 (pc := 25)  cv_X8_fit_134 (by first | assumption | rfl | (repeat (first | assumption | exact zup_s | refine zup_g (by decide) ?_))) ⟨_, rfl, rfl⟩ (Nat.le_of_ble_eq_true rfl) (by decide) dX8_fit_25 ?_
        refine k_X8_lookUp zup_s m40 m41 m44 m45 m46 m47 m48 m50 m51 hz i4 i7 j5 hp j1 j2 j3 ht (fun sn iw hl => ?_)
        dsimp only [Option.toList, List.cons_append, List.nil_append]
        refine zr_iload_n (pc := 28)  (i := 2) rfl rfl dX8_fit_28 ?_
        refine zr_aload_n (pc := 29)  (i := 0) rfl rfl dX8_fit_29 ?_
        refine zr_iload_n (pc := 30)  (i := 1) rfl rfl dX8_fit_30 ?_
        refine zv_call1 (pc := 31)  cv_X8_fit_175 (by first | assumption | rfl | (repeat (first | assumption | exact zup_s | refine zup_g (by decide) ?_))) ⟨_, rfl, rfl⟩ (Nat.le_of_ble_eq_true rfl) (by decide) dX8_fit_31 ?_
        refine k_X8_fitAll rfl m44 rfl rfl ⟨m52, m53⟩ ⟨m54, m55, m56⟩ hl hs i7 (by omega) (fun h' od fp fq bw bm al2 pm2 pd2 sq2 nn f1 f38 fW fF fJ _ => ?_)
        have f54 := fF.1
        have hod := od_rk fJ
        have hoc := fJ.2.1 c
        have hn4 := fJ.1
        clear fJ
        have hK2 := mK_V hM' f38 (fun j hj => by rw [f1 j (by omega)]; (repeat rw [zup_n (by omega)])) ⟨(f1 50 (by omega)).trans rfl, (f1 51 (by omega)).trans rfl⟩ hl.2.2 fW fF ⟨(f1 57 (by omega)).trans m57, (f1 58 (by omega)).trans m58⟩
        have hfr : (∀ j, j < 38 ∨ 64 < j → h' j = h j) := fun j hj => by rw [f1 j (by omega)]; (repeat rw [zup_n (by omega)])
        dsimp only [Option.toList, List.cons_append, List.nil_append]
        refine zr_icmp_ge (pc := 34)  (tgt := 46) ⟨by omega, by omega⟩ ⟨by omega, by omega⟩ (by decide) dX8_fit_34 (fun q34 => ?_) (fun q34 => ?_)
        · refine zr_iconst (pc := 46)  dX8_fit_46 ?_
          refine zr_ireturn (pc := 47)  rfl (by decide) (by decide) dX8_fit_47 ?_
          first | (have k2 := k1 (by omega) _ hK2 hfr; rw [show fitS (SA ap bc pl bt N t) rk gr r c = -1 from hod.2 c (by omega)] at k2; exact k2) | (have k2 := k1 (by omega) _ hK2 hfr; rw [show fitS (SA ap bc pl bt N t) rk gr r c = od c from hod.1 c (by omega) (by omega)] at k2; exact k2)
        · refine zr_aload_n (pc := 37)  (i := 0) rfl rfl dX8_fit_37 ?_
          refine zr_get (pc := 38)  fl_X8_58 (by first | assumption | rfl | (repeat (first | assumption | exact zup_s | refine zup_g (by decide) ?_))) rfl dX8_fit_38 ?_
          refine zr_iload_n (pc := 41)  (i := 2) rfl rfl dX8_fit_41 ?_
          refine zr_iald (pc := 42)  (by first | assumption | rfl | (repeat (first | assumption | exact zup_s | refine zup_g (by decide) ?_))) ⟨by omega, by omega⟩ (by decide) dX8_fit_42 ?_
          refine zr_goto (pc := 43)  (tgt := 47) (by decide) dX8_fit_43 ?_
          refine zr_ireturn (pc := 47)  rfl (by decide) (by decide) dX8_fit_47 ?_
          first | (have k2 := k1 (by omega) _ hK2 hfr; rw [show fitS (SA ap bc pl bt N t) rk gr r c = -1 from hod.2 c (by omega)] at k2; exact k2) | (have k2 := k1 (by omega) _ hK2 hfr; rw [show fitS (SA ap bc pl bt N t) rk gr r c = od c from hod.1 c (by omega) (by omega)] at k2; exact k2)
      · refine zr_iconst (pc := 21)  dX8_fit_21 ?_
        refine zr_ireturn (pc := 22)  rfl (by decide) (by decide) dX8_fit_22 ?_
        first | exact k0 (by omega) _ (hK1 0) (fun j hj => by (repeat rw [zup_n (by omega)])) | (have k2 := k1 (by omega) _ (hK1 0) (fun j hj => by (repeat rw [zup_n (by omega)])); rw [hng (by omega)] at k2; exact k2)
end MOD2
