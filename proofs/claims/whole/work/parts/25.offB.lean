section OFF
variable {G : zG} {n : Nat} {h : zH} {Post : Option Value → Nat → zH → Prop} {now len num : Int} {tb rk rs rg gr bt bc bk be bn ap pl : Int → Int} {N : Nat}
theorem k_X7_whole {r t : Int} (hK : oK h now len tb rk rs rg gr num N bt bc bk be bn ap pl) (hr : iR r) (ht : iR t) (k1 : ((0 ≤ r ∧ r < 16) ∧ rk r = 1) ∧ 0 ≤ t → ∀ h', oK h' now len tb rk rs rg gr num N bt bc bk be bn ap pl → (∀ j, 37 < j → h' j = h j) → Post (some (vb (wpP (SA ap bc pl bt N t) rk gr r))) n h') (k0 : ¬ (((0 ≤ r ∧ r < 16) ∧ rk r = 1) ∧ 0 ≤ t) → Post (some (vi (-1))) n h) : zMP G mX7_whole [.ref 0, vi r, vi t] n h Post := by
  have hK' := hK
  obtain ⟨⟨g0, g1, g2, g3, g4, g5, g6, g7, g8, g9, g10, g11, g12, g13, g14⟩, ⟨-, -, -, i4, -⟩, ⟨-, ssz0, fnd0, tm0, wk0, mo0, to0, po0, wp0, sd0, sc0, pr0, sq0, fl0, db0, yu0, yl0, ⟨g15, -⟩, -⟩, -⟩ := hK'
  refine zMP_of (by decide) [some _, some _, some _] (Nat.le_of_ble_eq_true rfl) rfl ?_
  refine zr_aload_n (pc := 0)  (i := 0) rfl rfl dX7_whole_0 ?_
  refine zr_iload_n (pc := 1)  (i := 1) rfl rfl dX7_whole_1 ?_
  refine zr_iload_n (pc := 2)  (i := 2) rfl rfl dX7_whole_2 ?_
  refine zv_call2 (pc := 3)  cv_X7_whole_94 (by first | assumption | rfl | (repeat (first | assumption | exact zup_s | refine zup_g (by decide) ?_))) ⟨_, rfl, rfl⟩ (Nat.le_of_ble_eq_true rfl) (by decide) dX7_whole_3 ?_
  refine k_X7_isAskable (by first | assumption | omega | (refine ⟨?_, ?_⟩ <;> omega) | rfl | (repeat (first | assumption | exact zup_s | refine zup_g (by decide) ?_))) (by first | assumption | omega | (refine ⟨?_, ?_⟩ <;> omega) | rfl | (repeat (first | assumption | exact zup_s | refine zup_g (by decide) ?_))) (by first | assumption | omega | (refine ⟨?_, ?_⟩ <;> omega) | rfl | (repeat (first | assumption | exact zup_s | refine zup_g (by decide) ?_))) ?_
  dsimp only [Option.toList, List.cons_append, List.nil_append]
  refine zb_ne (pc := 6) (tgt := 11) (by decide) dX7_whole_6 (fun q6 => ?_) (fun q6 => ?_)
  · refine zr_aload_n (pc := 11)  (i := 0) rfl rfl dX7_whole_11 ?_
    refine zr_get (pc := 12)  fl_X7_35 (by first | assumption | rfl | (repeat (first | assumption | exact zup_s | refine zup_g (by decide) ?_))) rfl dX7_whole_12 ?_
    refine zr_iload_n (pc := 15)  (i := 2) rfl rfl dX7_whole_15 ?_
    refine zv_call1 (pc := 16)  cv_X7_whole_104 (by first | assumption | rfl | (repeat (first | assumption | exact zup_s | refine zup_g (by decide) ?_))) ⟨_, rfl, rfl⟩ (Nat.le_of_ble_eq_true rfl) (by decide) dX7_whole_16 ?_
    refine k_look hK ht (by omega) (fun ssz fnd wk mo to po wp sd sc pr sq fl db yu yl hv hf hfl => ?_)
    have hfin := k1 (by omega) _ (hK.view (ssz := ssz) (fnd := fnd) (tm := t) (wk := wk) (mo := mo) (to := to) (po := po) (wp := wp) (sd := sd) (sc := sc) (pr := pr) (sq := sq) (fl := fl) (db := db) (yu := yu) (yl := yl) (vwI.mk' ht hv hf hfl)) (fun j hj => hV_hi (by omega))
    have hwi := hv.1.2 r (by omega) (by omega)
    dsimp only [Option.toList, List.cons_append, List.nil_append]
    refine zr_aload_n (pc := 19)  (i := 0) rfl rfl dX7_whole_19 ?_
    refine zr_get (pc := 20)  fl_X7_35 (by first | assumption | rfl | (repeat (first | assumption | exact zup_s | refine zup_g (by decide) ?_))) rfl dX7_whole_20 ?_
    refine zr_iload_n (pc := 23)  (i := 1) rfl rfl dX7_whole_23 ?_
    refine zv_call1 (pc := 24)  cv_X7_whole_107 (by first | assumption | rfl | (repeat (first | assumption | exact zup_s | refine zup_g (by decide) ?_))) ⟨_, rfl, rfl⟩ (Nat.le_of_ble_eq_true rfl) (by decide) dX7_whole_24 ?_
    refine k_X6_isWholePost rfl rfl hv.1.1 (by omega) ?_
    rw [propext hwi]
    dsimp only [Option.toList, List.cons_append, List.nil_append]
    refine zb_eq (pc := 27) (tgt := 34) (by decide) dX7_whole_27 (fun q27 => ?_) (fun q27 => ?_)
    · refine zr_iconst (pc := 34)  dX7_whole_34 ?_
      refine zr_ireturn (pc := 35)  rfl (by decide) (by decide) dX7_whole_35 ?_
      first | exact zb_t q27 hfin | exact zb_f q27 hfin
    · refine zr_iconst (pc := 30)  dX7_whole_30 ?_
      refine zr_goto (pc := 31)  (tgt := 35) (by decide) dX7_whole_31 ?_
      refine zr_ireturn (pc := 35)  rfl (by decide) (by decide) dX7_whole_35 ?_
      first | exact zb_t q27 hfin | exact zb_f q27 hfin
  · refine zr_iconst (pc := 9)  dX7_whole_9 ?_
    refine zr_ireturn (pc := 10)  rfl (by decide) (by decide) dX7_whole_10 ?_
    exact k0 (by omega)
theorem k_X7_posts {g t : Int} (hK : oK h now len tb rk rs rg gr num N bt bc bk be bn ap pl) (hg : iR g) (ht : iR t) (k1 : (0 ≤ g ∧ g < 4) ∧ 0 ≤ t → ∀ h', oK h' now len tb rk rs rg gr num N bt bc bk be bn ap pl → (∀ j, 37 < j → h' j = h j) → (thS (SA ap bc pl bt N t) rk gr g (-1) → Post (some (vi (CS (SA ap bc pl bt N t) rk gr g (-1)))) n h') ∧ (¬ thS (SA ap bc pl bt N t) rk gr g (-1) → Post (some (vi 0)) n h')) (k0 : ¬ ((0 ≤ g ∧ g < 4) ∧ 0 ≤ t) → Post (some (vi (-1))) n h) : zMP G mX7_posts [.ref 0, vi g, vi t] n h Post := by
  have hK' := hK
  obtain ⟨⟨g0, g1, g2, g3, g4, g5, g6, g7, g8, g9, g10, g11, g12, g13, g14⟩, ⟨-, -, -, i4, -⟩, ⟨g16, ssz0, fnd0, tm0, wk0, mo0, to0, po0, wp0, sd0, sc0, pr0, sq0, fl0, db0, yu0, yl0, ⟨g15, -⟩, -⟩, -⟩ := hK'
  have hs50 : ∀ p, SA ap bc pl bt N t p ≤ 50 := fun p => (stO_R (hK.stO (t := t)) p).2
  refine zMP_of (by decide) [some _, some _, some _] (Nat.le_of_ble_eq_true rfl) rfl ?_
  refine zr_iload_n (pc := 0)  (i := 1) rfl rfl dX7_posts_0 ?_
  refine zr_iconst (pc := 1)  dX7_posts_1 ?_
  refine zc_call2 (pc := 2)  cs_X7_posts_69 (Nat.le_of_ble_eq_true rfl) (by decide) dX7_posts_2 ?_
  refine k_X7_isBelow (by first | assumption | omega | (refine ⟨?_, ?_⟩ <;> omega) | rfl | (repeat (first | assumption | exact zup_s | refine zup_g (by decide) ?_))) (by first | assumption | omega | (refine ⟨?_, ?_⟩ <;> omega) | rfl | (repeat (first | assumption | exact zup_s | refine zup_g (by decide) ?_))) ?_
  dsimp only [Option.toList, List.cons_append, List.nil_append]
  refine zb_eq (pc := 5) (tgt := 12) (by decide) dX7_posts_5 (fun q5 => ?_) (fun q5 => ?_)
  · refine zr_iconst (pc := 12)  dX7_posts_12 ?_
    refine zr_ireturn (pc := 13)  rfl (by decide) (by decide) dX7_posts_13 ?_
    exact k0 (by omega)
  · refine zr_iload_n (pc := 8)  (i := 2) rfl rfl dX7_posts_8 ?_
    refine zr_if_ge (pc := 9)  (tgt := 14) ⟨by omega, by omega⟩ (by decide) dX7_posts_9 (fun q9 => ?_) (fun q9 => ?_)
    · refine zr_aload_n (pc := 14)  (i := 0) rfl rfl dX7_posts_14 ?_
      refine zr_get (pc := 15)  fl_X7_35 (by first | assumption | rfl | (repeat (first | assumption | exact zup_s | refine zup_g (by decide) ?_))) rfl dX7_posts_15 ?_
      refine zr_iload_n (pc := 18)  (i := 2) rfl rfl dX7_posts_18 ?_
      refine zv_call1 (pc := 19)  cv_X7_posts_104 (by first | assumption | rfl | (repeat (first | assumption | exact zup_s | refine zup_g (by decide) ?_))) ⟨_, rfl, rfl⟩ (Nat.le_of_ble_eq_true rfl) (by decide) dX7_posts_19 ?_
      refine k_look hK ht (by omega) (fun ssz fnd wk mo to po wp sd sc pr sq fl db yu yl hv hf hfl => ?_)
      have hfin := k1 (by omega) _ (hK.view (ssz := ssz) (fnd := fnd) (tm := t) (wk := wk) (mo := mo) (to := to) (po := po) (wp := wp) (sd := sd) (sc := sc) (pr := pr) (sq := sq) (fl := fl) (db := db) (yu := yu) (yl := yl) (vwI.mk' ht hv hf hfl)) (fun j hj => hV_hi (by omega))
      have hsl := slS_S hv.1 (hv.2 g (by omega) (by omega))
      have htb := vwS_tb hs50 hv g (by omega) (by omega)
      have htb3 := htb.2.2.1
      have htb4 := htb.2.2.2
      dsimp only [Option.toList, List.cons_append, List.nil_append]
      refine zr_aload_n (pc := 22)  (i := 0) rfl rfl dX7_posts_22 ?_
      refine zr_get (pc := 23)  fl_X7_35 (by first | assumption | rfl | (repeat (first | assumption | exact zup_s | refine zup_g (by decide) ?_))) rfl dX7_posts_23 ?_
      refine zr_iload_n (pc := 26)  (i := 1) rfl rfl dX7_posts_26 ?_
      refine zv_call1 (pc := 27)  cv_X7_posts_110 (by first | assumption | rfl | (repeat (first | assumption | exact zup_s | refine zup_g (by decide) ?_))) ⟨_, rfl, rfl⟩ (Nat.le_of_ble_eq_true rfl) (by decide) dX7_posts_27 ?_
      refine k_X6_isThere rfl (by assumption) rfl rfl (by omega) ⟨by omega, by omega⟩ ⟨by omega, by omega⟩ ?_
      rw [hsl.2.2.1, hsl.2.2.2]
      dsimp only [Option.toList, List.cons_append, List.nil_append]
      refine zb_eq (pc := 30) (tgt := 44) (by decide) dX7_posts_30 (fun q30 => ?_) (fun q30 => ?_)
      · refine zr_iconst (pc := 44)  dX7_posts_44 ?_
        refine zr_ireturn (pc := 45)  rfl (by decide) (by decide) dX7_posts_45 ?_
        first | exact hfin.1 q30 | exact hfin.2 q30
      · refine zr_aload_n (pc := 33)  (i := 0) rfl rfl dX7_posts_33 ?_
        refine zr_get (pc := 34)  fl_X7_35 (by first | assumption | rfl | (repeat (first | assumption | exact zup_s | refine zup_g (by decide) ?_))) rfl dX7_posts_34 ?_
        refine zr_iload_n (pc := 37)  (i := 1) rfl rfl dX7_posts_37 ?_
        refine zv_call1 (pc := 38)  cv_X7_posts_113 (by first | assumption | rfl | (repeat (first | assumption | exact zup_s | refine zup_g (by decide) ?_))) ⟨_, rfl, rfl⟩ (Nat.le_of_ble_eq_true rfl) (by decide) dX7_posts_38 ?_
        refine k_X6_postsOf rfl (by assumption) rfl (by omega) ?_
        rw [hsl.2.2.2]
        dsimp only [Option.toList, List.cons_append, List.nil_append]
        refine zr_goto (pc := 41)  (tgt := 45) (by decide) dX7_posts_41 ?_
        refine zr_ireturn (pc := 45)  rfl (by decide) (by decide) dX7_posts_45 ?_
        first | exact hfin.1 q30 | exact hfin.2 q30
    · refine zr_iconst (pc := 12)  dX7_posts_12 ?_
      refine zr_ireturn (pc := 13)  rfl (by decide) (by decide) dX7_posts_13 ?_
      exact k0 (by omega)
theorem k_X7_sample {r t : Int} (hK : oK h now len tb rk rs rg gr num N bt bc bk be bn ap pl) (hr : iR r) (ht : iR t) (k1 : ((0 ≤ r ∧ r < 16) ∧ rk r = 1) ∧ 0 ≤ t → ∀ h', oK h' now len tb rk rs rg gr num N bt bc bk be bn ap pl → (∀ j, 37 < j → h' j = h j) → Post (some (vi (cnD (dyS (SA ap bc pl bt N t) r) (lmS (SA ap bc pl bt N t) rk gr r) 84))) n h') (k0 : ¬ (((0 ≤ r ∧ r < 16) ∧ rk r = 1) ∧ 0 ≤ t) → Post (some (vi (-1))) n h) : zMP G mX7_sample [.ref 0, vi r, vi t] n h Post := by
  have hK' := hK
  obtain ⟨⟨g0, g1, g2, g3, g4, g5, g6, g7, g8, g9, g10, g11, g12, g13, g14⟩, ⟨-, -, -, i4, -⟩, ⟨g16, ssz0, fnd0, tm0, wk0, mo0, to0, po0, wp0, sd0, sc0, pr0, sq0, fl0, db0, yu0, yl0, ⟨g15, -⟩, -⟩, -⟩ := hK'
  refine zMP_of (by decide) [some _, some _, some _] (Nat.le_of_ble_eq_true rfl) rfl ?_
  refine zr_aload_n (pc := 0)  (i := 0) rfl rfl dX7_sample_0 ?_
  refine zr_iload_n (pc := 1)  (i := 1) rfl rfl dX7_sample_1 ?_
  refine zr_iload_n (pc := 2)  (i := 2) rfl rfl dX7_sample_2 ?_
  refine zv_call2 (pc := 3)  cv_X7_sample_94 (by first | assumption | rfl | (repeat (first | assumption | exact zup_s | refine zup_g (by decide) ?_))) ⟨_, rfl, rfl⟩ (Nat.le_of_ble_eq_true rfl) (by decide) dX7_sample_3 ?_
  refine k_X7_isAskable (by first | assumption | omega | (refine ⟨?_, ?_⟩ <;> omega) | rfl | (repeat (first | assumption | exact zup_s | refine zup_g (by decide) ?_))) (by first | assumption | omega | (refine ⟨?_, ?_⟩ <;> omega) | rfl | (repeat (first | assumption | exact zup_s | refine zup_g (by decide) ?_))) (by first | assumption | omega | (refine ⟨?_, ?_⟩ <;> omega) | rfl | (repeat (first | assumption | exact zup_s | refine zup_g (by decide) ?_))) ?_
  dsimp only [Option.toList, List.cons_append, List.nil_append]
  refine zb_ne (pc := 6) (tgt := 11) (by decide) dX7_sample_6 (fun q6 => ?_) (fun q6 => ?_)
  · refine zr_aload_n (pc := 11)  (i := 0) rfl rfl dX7_sample_11 ?_
    refine zr_get (pc := 12)  fl_X7_35 (by first | assumption | rfl | (repeat (first | assumption | exact zup_s | refine zup_g (by decide) ?_))) rfl dX7_sample_12 ?_
    refine zr_iload_n (pc := 15)  (i := 2) rfl rfl dX7_sample_15 ?_
    refine zv_call1 (pc := 16)  cv_X7_sample_104 (by first | assumption | rfl | (repeat (first | assumption | exact zup_s | refine zup_g (by decide) ?_))) ⟨_, rfl, rfl⟩ (Nat.le_of_ble_eq_true rfl) (by decide) dX7_sample_16 ?_
    refine k_look hK ht (by omega) (fun ssz fnd wk mo to po wp sd sc pr sq fl db yu yl hv hf hfl => ?_)
    dsimp only [Option.toList, List.cons_append, List.nil_append]
    refine zr_aload_n (pc := 19)  (i := 0) rfl rfl dX7_sample_19 ?_
    refine zr_get (pc := 20)  fl_X7_35 (by first | assumption | rfl | (repeat (first | assumption | exact zup_s | refine zup_g (by decide) ?_))) rfl dX7_sample_20 ?_
    refine zr_iload_n (pc := 23)  (i := 1) rfl rfl dX7_sample_23 ?_
    refine zv_call1 (pc := 24)  cv_X7_sample_129 (by first | assumption | rfl | (repeat (first | assumption | exact zup_s | refine zup_g (by decide) ?_))) ⟨_, rfl, rfl⟩ (Nat.le_of_ble_eq_true rfl) (by decide) dX7_sample_24 ?_
    refine k_X6_sampleSizeOf (hK.stO (t := t)) hv.1.1 (by omega) ht (fun ssz sd sc hD => ?_)
    have hfin := k1 (by omega) _ (hK.view (ssz := ssz) (fnd := fnd) (tm := t) (wk := wk) (mo := mo) (to := to) (po := po) (wp := wp) (sd := sd) (sc := sc) (pr := pr) (sq := sq) (fl := fl) (db := db) (yu := yu) (yl := yl) (vwI.mk' ht hv hf hfl)) (fun j hj => hV_hi (by omega))
    dsimp only [Option.toList, List.cons_append, List.nil_append]
    refine zr_ireturn (pc := 27)  rfl (by decide) (by decide) dX7_sample_27 ?_
    rw [hD.1, lmS_of hv.1 (by omega)] at hfin ⊢
    exact hfin
  · refine zr_iconst (pc := 9)  dX7_sample_9 ?_
    refine zr_ireturn (pc := 10)  rfl (by decide) (by decide) dX7_sample_10 ?_
    exact k0 (by omega)
theorem k_X7_fit {r t c : Int} (hK : oK h now len tb rk rs rg gr num N bt bc bk be bn ap pl) (hr : iR r) (hc : iR c) (ht : iR t) (k1 : ((0 ≤ r ∧ r < 16) ∧ rk r = 1) ∧ 0 ≤ t → ∀ h', oK h' now len tb rk rs rg gr num N bt bc bk be bn ap pl → (∀ j, 37 < j → h' j = h j) → Post (some (vi (fitS (SA ap bc pl bt N t) rk gr r c))) n h') (k0 : ¬ (((0 ≤ r ∧ r < 16) ∧ rk r = 1) ∧ 0 ≤ t) → Post (some (vi (-1))) n h) : zMP G mX7_fit [.ref 0, vi r, vi c, vi t] n h Post := by
  have hK' := hK
  obtain ⟨⟨g0, g1, g2, g3, g4, g5, g6, g7, g8, g9, g10, g11, g12, g13, g14⟩, ⟨-, -, -, i4, -⟩, ⟨g16, ssz0, fnd0, tm0, wk0, mo0, to0, po0, wp0, sd0, sc0, pr0, sq0, fl0, db0, yu0, yl0, ⟨g15, -⟩, -⟩, -⟩ := hK'
  have hs50 : ∀ p, SA ap bc pl bt N t p ≤ 50 := fun p => (stO_R (hK.stO (t := t)) p).2
  refine zMP_of (by decide) [some _, some _, some _, some _] (Nat.le_of_ble_eq_true rfl) rfl ?_
  refine zr_aload_n (pc := 0)  (i := 0) rfl rfl dX7_fit_0 ?_
  refine zr_iload_n (pc := 1)  (i := 1) rfl rfl dX7_fit_1 ?_
  refine zr_iload_n (pc := 2)  (i := 3) rfl rfl dX7_fit_2 ?_
  refine zv_call2 (pc := 3)  cv_X7_fit_94 (by first | assumption | rfl | (repeat (first | assumption | exact zup_s | refine zup_g (by decide) ?_))) ⟨_, rfl, rfl⟩ (Nat.le_of_ble_eq_true rfl) (by decide) dX7_fit_3 ?_
  refine k_X7_isAskable (by first | assumption | omega | (refine ⟨?_, ?_⟩ <;> omega) | rfl | (repeat (first | assumption | exact zup_s | refine zup_g (by decide) ?_))) (by first | assumption | omega | (refine ⟨?_, ?_⟩ <;> omega) | rfl | (repeat (first | assumption | exact zup_s | refine zup_g (by decide) ?_))) (by first | assumption | omega | (refine ⟨?_, ?_⟩ <;> omega) | rfl | (repeat (first | assumption | exact zup_s | refine zup_g (by decide) ?_))) ?_
  dsimp only [Option.toList, List.cons_append, List.nil_append]
  refine zb_ne (pc := 6) (tgt := 11) (by decide) dX7_fit_6 (fun q6 => ?_) (fun q6 => ?_)
  · refine zr_aload_n (pc := 11)  (i := 0) rfl rfl dX7_fit_11 ?_
    refine zr_get (pc := 12)  fl_X7_35 (by first | assumption | rfl | (repeat (first | assumption | exact zup_s | refine zup_g (by decide) ?_))) rfl dX7_fit_12 ?_
    refine zr_iload_n (pc := 15)  (i := 3) rfl rfl dX7_fit_15 ?_
    refine zv_call1 (pc := 16)  cv_X7_fit_104 (by first | assumption | rfl | (repeat (first | assumption | exact zup_s | refine zup_g (by decide) ?_))) ⟨_, rfl, rfl⟩ (Nat.le_of_ble_eq_true rfl) (by decide) dX7_fit_16 ?_
    refine k_look hK ht (by omega) (fun ssz fnd wk mo to po wp sd sc pr sq fl db yu yl hv hf hfl => ?_)
    dsimp only [Option.toList, List.cons_append, List.nil_append]
    refine zr_aload_n (pc := 19)  (i := 0) rfl rfl dX7_fit_19 ?_
    refine zr_get (pc := 20)  fl_X7_35 (by first | assumption | rfl | (repeat (first | assumption | exact zup_s | refine zup_g (by decide) ?_))) rfl dX7_fit_20 ?_
    refine zr_iload_n (pc := 23)  (i := 1) rfl rfl dX7_fit_23 ?_
    refine zr_iload_n (pc := 24)  (i := 2) rfl rfl dX7_fit_24 ?_
    refine zv_call2 (pc := 25)  cv_X7_fit_132 (by first | assumption | rfl | (repeat (first | assumption | exact zup_s | refine zup_g (by decide) ?_))) ⟨_, rfl, rfl⟩ (Nat.le_of_ble_eq_true rfl) (by decide) dX7_fit_25 ?_
    refine k_X6_groupAtRank g16 (hK.stO (t := t)) hv.1.1 (vwS_tb hs50 hv) (by omega) hc ht (fun ssz sd sc pr sq _ _ => ?_)
    have hfin := k1 (by omega) _ (hK.view (ssz := ssz) (fnd := fnd) (tm := t) (wk := wk) (mo := mo) (to := to) (po := po) (wp := wp) (sd := sd) (sc := sc) (pr := pr) (sq := sq) (fl := fl) (db := db) (yu := yu) (yl := yl) (vwI.mk' ht hv hf hfl)) (fun j hj => hV_hi (by omega))
    rw [fit_of hv (by omega)]
    dsimp only [Option.toList, List.cons_append, List.nil_append]
    refine zr_ireturn (pc := 28)  rfl (by decide) (by decide) dX7_fit_28 ?_
    exact hfin
  · refine zr_iconst (pc := 9)  dX7_fit_9 ?_
    refine zr_ireturn (pc := 10)  rfl (by decide) (by decide) dX7_fit_10 ?_
    exact k0 (by omega)
theorem k_X7_flow {r t : Int} (hK : oK h now len tb rk rs rg gr num N bt bc bk be bn ap pl) (hr : iR r) (ht : iR t) (k1 : ((0 ≤ r ∧ r < 16) ∧ rk r = 1) ∧ 0 ≤ t → ∀ h', oK h' now len tb rk rs rg gr num N bt bc bk be bn ap pl → (∀ j, 37 < j → h' j = h j) → Post (some (vi (flowS (SA ap bc pl bt N t) rk gr r))) n h') (k0 : ¬ (((0 ≤ r ∧ r < 16) ∧ rk r = 1) ∧ 0 ≤ t) → Post (some (vi (-1))) n h) : zMP G mX7_flow [.ref 0, vi r, vi t] n h Post := by
  have hK' := hK
  obtain ⟨⟨g0, g1, g2, g3, g4, g5, g6, g7, g8, g9, g10, g11, g12, g13, g14⟩, ⟨-, -, -, i4, -⟩, ⟨g16, ssz0, fnd0, tm0, wk0, mo0, to0, po0, wp0, sd0, sc0, pr0, sq0, fl0, db0, yu0, yl0, ⟨g15, -⟩, -⟩, ⟨-, -, u0, l0, g37⟩⟩ := hK'
  refine zMP_of (by decide) [some _, some _, some _] (Nat.le_of_ble_eq_true rfl) rfl ?_
  refine zr_aload_n (pc := 0)  (i := 0) rfl rfl dX7_flow_0 ?_
  refine zr_iload_n (pc := 1)  (i := 1) rfl rfl dX7_flow_1 ?_
  refine zr_iload_n (pc := 2)  (i := 2) rfl rfl dX7_flow_2 ?_
  refine zv_call2 (pc := 3)  cv_X7_flow_94 (by first | assumption | rfl | (repeat (first | assumption | exact zup_s | refine zup_g (by decide) ?_))) ⟨_, rfl, rfl⟩ (Nat.le_of_ble_eq_true rfl) (by decide) dX7_flow_3 ?_
  refine k_X7_isAskable (by first | assumption | omega | (refine ⟨?_, ?_⟩ <;> omega) | rfl | (repeat (first | assumption | exact zup_s | refine zup_g (by decide) ?_))) (by first | assumption | omega | (refine ⟨?_, ?_⟩ <;> omega) | rfl | (repeat (first | assumption | exact zup_s | refine zup_g (by decide) ?_))) (by first | assumption | omega | (refine ⟨?_, ?_⟩ <;> omega) | rfl | (repeat (first | assumption | exact zup_s | refine zup_g (by decide) ?_))) ?_
  dsimp only [Option.toList, List.cons_append, List.nil_append]
  refine zb_ne (pc := 6) (tgt := 11) (by decide) dX7_flow_6 (fun q6 => ?_) (fun q6 => ?_)
  · refine zr_aload_n (pc := 11)  (i := 0) rfl rfl dX7_flow_11 ?_
    refine zr_get (pc := 12)  fl_X7_35 (by first | assumption | rfl | (repeat (first | assumption | exact zup_s | refine zup_g (by decide) ?_))) rfl dX7_flow_12 ?_
    refine zr_iload_n (pc := 15)  (i := 2) rfl rfl dX7_flow_15 ?_
    refine zv_call1 (pc := 16)  cv_X7_flow_104 (by first | assumption | rfl | (repeat (first | assumption | exact zup_s | refine zup_g (by decide) ?_))) ⟨_, rfl, rfl⟩ (Nat.le_of_ble_eq_true rfl) (by decide) dX7_flow_16 ?_
    refine k_look hK ht (by omega) (fun ssz fnd wk mo to po wp sd sc pr sq fl db yu yl hv hf hfl => ?_)
    dsimp only [Option.toList, List.cons_append, List.nil_append]
    refine zr_aload_n (pc := 19)  (i := 0) rfl rfl dX7_flow_19 ?_
    refine zr_get (pc := 20)  fl_X7_35 (by first | assumption | rfl | (repeat (first | assumption | exact zup_s | refine zup_g (by decide) ?_))) rfl dX7_flow_20 ?_
    refine zv_call0 (pc := 23)  cv_X7_flow_155 (by first | assumption | rfl | (repeat (first | assumption | exact zup_s | refine zup_g (by decide) ?_))) ⟨_, rfl, rfl⟩ (Nat.le_of_ble_eq_true rfl) (by decide) dX7_flow_23 ?_
    refine k_X6_findFlows g37 g3 g4 g16 (hK.stO (t := t)) i4 hv ht hf hfl (fun ssz sd sc pr sq fl db yu yl hfl => ?_)
    have hfin := k1 (by omega) _ (hK.view (ssz := ssz) (fnd := 1) (tm := t) (wk := wk) (mo := mo) (to := to) (po := po) (wp := wp) (sd := sd) (sc := sc) (pr := pr) (sq := sq) (fl := fl) (db := db) (yu := yu) (yl := yl) (vwI.mk' ht hv (Or.inr rfl) (fun _ => hfl))) (fun j hj => hV_hi (by omega))
    have hfr := (hfl r (by omega) (by omega)).1.trans (fl_of hv (by omega)).1
    dsimp only [Option.toList, List.cons_append, List.nil_append]
    refine zr_aload_n (pc := 26)  (i := 0) rfl rfl dX7_flow_26 ?_
    refine zr_get (pc := 27)  fl_X7_35 (by first | assumption | rfl | (repeat (first | assumption | exact zup_s | refine zup_g (by decide) ?_))) rfl dX7_flow_27 ?_
    refine zr_iload_n (pc := 30)  (i := 1) rfl rfl dX7_flow_30 ?_
    refine zv_call1 (pc := 31)  cv_X7_flow_158 (by first | assumption | rfl | (repeat (first | assumption | exact zup_s | refine zup_g (by decide) ?_))) ⟨_, rfl, rfl⟩ (Nat.le_of_ble_eq_true rfl) (by decide) dX7_flow_31 ?_
    refine k_X6_flowOf rfl rfl (by omega) ?_
    rw [hfr]
    dsimp only [Option.toList, List.cons_append, List.nil_append]
    refine zr_ireturn (pc := 34)  rfl (by decide) (by decide) dX7_flow_34 ?_
    exact hfin
  · refine zr_iconst (pc := 9)  dX7_flow_9 ?_
    refine zr_ireturn (pc := 10)  rfl (by decide) (by decide) dX7_flow_10 ?_
    exact k0 (by omega)
end OFF
