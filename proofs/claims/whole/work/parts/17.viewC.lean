/-! the view as of a time -/
/-- a whole post -/
def wpP (s rk gr : Int → Int) (r : Int) : Prop := (((0 ≤ r ∧ r < 16) ∧ rk r = 1) ∧ gr r ≠ -1) ∧ ∀ d, 0 ≤ d → d < 84 → 0 ≤ s (r * 84 + d)
def wpS (s rk gr : Int → Int) (m : Nat) (wp : Int → Int) : Prop := (∀ i, wp i = 0 ∨ wp i = 1) ∧ ∀ r : Int, 0 ≤ r → r < m → (wp r = 1 ↔ wpP s rk gr r)
/-- a slot holds what group g's posts but one have counted -/
def slS (wp gr s : Int → Int) (g w sl : Int) (wk mo to po : Int → Int) : Prop := (∀ i, 0 ≤ i → i < 7 → wk (sl * 7 + i) = sumP (qG wp gr g w) (fun r => wsum (fun d => s (r * 84 + d)) i 84) 16) ∧ (∀ i, 0 ≤ i → i < 12 → mo (sl * 12 + i) = sumP (qG wp gr g w) (fun r => msum (fun d => s (r * 84 + d)) i 84) 16) ∧ to sl = sumP (qG wp gr g w) (fun r => sumZ (fun d => s (r * 84 + d)) 84) 16 ∧ po sl = cntP (qG wp gr g w) 16
theorem slS_of {wp gr s wk mo to po wk2 mo2 to2 po2 : Int → Int} {g w sl : Int} (h : tgS (qG wp gr g w) s sl 16 wk mo to po wk2 mo2 to2 po2) : slS wp gr s g w sl wk2 mo2 to2 po2 := ⟨h.1, h.2.2.1, h.2.2.2.2.1, h.2.2.2.2.2.2.1⟩
theorem slS_keep {wp gr s wk mo to po wk2 mo2 to2 po2 : Int → Int} {sl g2 w2 sl2 : Int} {q : Int → Prop} (h : slS wp gr s g2 w2 sl2 wk mo to po) (hT : tgS q s sl 16 wk mo to po wk2 mo2 to2 po2) (hne : sl2 ≠ sl) : slS wp gr s g2 w2 sl2 wk2 mo2 to2 po2 := by
  obtain ⟨h1, h2, h3, h4⟩ := h
  obtain ⟨-, t2, -, t4, -, t6, -, t8⟩ := hT
  exact ⟨fun i a b => by rw [t2 _ (by omega)]; exact h1 i a b, fun i a b => by rw [t4 _ (by omega)]; exact h2 i a b, by rw [t6 _ hne]; exact h3, by rw [t8 _ hne]; exact h4⟩
/-- the view is right -/
def vwS (s rk gr wp wk mo to po : Int → Int) : Prop := wpS s rk gr 16 wp ∧ ∀ g, 0 ≤ g → g < 4 → slS wp gr s g (-1) g wk mo to po
theorem l_X6_lookAt2 {G : zG} {n : Nat} {h : zH} {Post : Option Value → Nat → zH → Prop} {num ssz tm : Int} {s rk gr wp sd sc pr sq fl db : Int → Int} {yu yl : Int} (h3 : h 3 = some (oRoads num)) (h7 : h 7 = some (aI 16 gr)) (h16 : h 16 = some oTal) (hO : stO h tm s) (hgr : ∀ i, -1 ≤ gr i ∧ gr i < 4) (ht : iR tm) (hwp : wpS s rk gr 16 wp) (kk : ∀ wk2 mo2 to2 po2 : Int → Int, vwS s rk gr wp wk2 mo2 to2 po2 → Post none n (hV h ssz 0 tm wk2 mo2 to2 po2 wp sd sc pr sq fl db yu yl)) : ∀ (k : Nat) (m : Int) (wk2 mo2 to2 po2 : Int → Int), 4 - m ≤ k → 0 ≤ m → m ≤ 4 → (∀ g, 0 ≤ g → g < m → slS wp gr s g (-1) g wk2 mo2 to2 po2) → zAW G mX6_lookAt zTT (zF G mX6_lookAt Post) 65 [some (.ref 15), some (vi tm), some (vi m)] [] n (hV h ssz 0 tm wk2 mo2 to2 po2 wp sd sc pr sq fl db yu yl) 0 0 := by
  intro k
  induction k with
  | zero =>
    intro m wk2 mo2 to2 po2 hk h0 hm hT
    obtain rfl : m = 4 := by omega
    refine zr_iload_n (pc := 65)  (i := 2) rfl rfl dX6_lookAt_65 ?_
    refine zr_iconst (pc := 66)  dX6_lookAt_66 ?_
    refine zr_icmp_ge (pc := 67)  (tgt := 83) ⟨by omega, by omega⟩ ⟨by omega, by omega⟩ (by decide) dX6_lookAt_67 (fun q67 => ?_) (fun q67 => ?_)
    · refine zr_vreturn (pc := 83)  rfl (by decide) (by decide) dX6_lookAt_83 ?_
      exact kk _ _ _ _ ⟨hwp, hT⟩
    · exact absurd q67 (by omega)
  | succ k ih =>
    intro m wk2 mo2 to2 po2 hk h0 hm hT
    refine zr_iload_n (pc := 65)  (i := 2) rfl rfl dX6_lookAt_65 ?_
    refine zr_iconst (pc := 66)  dX6_lookAt_66 ?_
    refine zr_icmp_ge (pc := 67)  (tgt := 83) ⟨by omega, by omega⟩ ⟨by omega, by omega⟩ (by decide) dX6_lookAt_67 (fun q67 => ?_) (fun q67 => ?_)
    · refine zr_vreturn (pc := 83)  rfl (by decide) (by decide) dX6_lookAt_83 ?_
      obtain rfl : m = 4 := by omega
      exact kk _ _ _ _ ⟨hwp, hT⟩
    · refine zr_aload_n (pc := 70)  (i := 0) rfl rfl dX6_lookAt_70 ?_
      refine zr_iload_n (pc := 71)  (i := 2) rfl rfl dX6_lookAt_71 ?_
      refine zr_iload_n (pc := 72)  (i := 2) rfl rfl dX6_lookAt_72 ?_
      refine zr_iconst (pc := 73)  dX6_lookAt_73 ?_
      refine zv_call3 (pc := 74)  cv_X6_lookAt_77 (by first | assumption | rfl | (repeat (first | assumption | exact zup_s | refine zup_g (by decide) ?_))) ⟨_, rfl, rfl⟩ (Nat.le_of_ble_eq_true rfl) (by decide) dX6_lookAt_74 ?_
      refine k_X6_tallyGroup h3 h7 h16 hO (by omega) (by omega) (by omega) hwp.1 hgr ht (fun wk3 mo3 to3 po3 hT3 => ?_)
      dsimp only [Option.toList, List.cons_append, List.nil_append]
      refine zs_iinc_2 (pc := 77)  (by first | exact zn_i | exact zn_r | exact zn_0) (by decide) dX6_lookAt_77 ?_
      refine zr_goto (pc := 80)  (tgt := 65) (by decide) dX6_lookAt_80 ?_
      exact ih (m + 1) _ _ _ _ (by omega) (by omega) (by omega) (fun g a b => by rcases Int.lt_or_le g m with q | q; exact slS_keep (hT g a q) hT3 (by omega); (obtain rfl : g = m := by omega); exact slS_of hT3)
theorem l_X6_lookAt1 {G : zG} {n : Nat} {h : zH} {Post : Option Value → Nat → zH → Prop} {num ssz tm : Int} {s rk gr wk mo to po sd sc pr sq fl db : Int → Int} {yu yl : Int} (h3 : h 3 = some (oRoads num)) (h4 : h 4 = some (aZ 16 rk)) (h7 : h 7 = some (aI 16 gr)) (h16 : h 16 = some oTal) (hO : stO h tm s) (hrk : ∀ i, rk i = 0 ∨ rk i = 1) (hgr : ∀ i, -1 ≤ gr i ∧ gr i < 4) (ht : iR tm) (kk : ∀ wp2 wk2 mo2 to2 po2 : Int → Int, vwS s rk gr wp2 wk2 mo2 to2 po2 → Post none n (hV h ssz 0 tm wk2 mo2 to2 po2 wp2 sd sc pr sq fl db yu yl)) : ∀ (k m : Nat) (wp2 : Int → Int), 16 - m ≤ k → m ≤ 16 → wpS s rk gr m wp2 → zAW G mX6_lookAt zTT (zF G mX6_lookAt Post) 21 [some (.ref 15), some (vi tm), some (vi m)] [] n (hV h ssz 0 tm wk mo to po wp2 sd sc pr sq fl db yu yl) 0 0 := by
  intro k
  induction k with
  | zero =>
    intro m wp2 hk hm hT
    obtain rfl : m = 16 := by omega
    refine zr_iload_n (pc := 21)  (i := 2) rfl rfl dX6_lookAt_21 ?_
    refine zr_bipush (pc := 22)  (by decide) dX6_lookAt_22 ?_
    refine zr_icmp_ge (pc := 24)  (tgt := 63) ⟨by omega, by omega⟩ ⟨by omega, by omega⟩ (by decide) dX6_lookAt_24 (fun q24 => ?_) (fun q24 => ?_)
    · refine zr_iconst (pc := 63)  dX6_lookAt_63 ?_
      refine zs_istore_n_2 (pc := 64)  (by first | exact zn_i | exact zn_r | exact zn_0) (by decide) dX6_lookAt_64 ?_
      exact l_X6_lookAt2 h3 h7 h16 hO hgr ht hT (fun _ _ _ _ v => kk _ _ _ _ _ v) 4 0 _ _ _ _ (by omega) (by omega) (by omega) (fun g a b => by omega)
    · exact absurd q24 (by omega)
  | succ k ih =>
    intro m wp2 hk hm hT
    have hgm := hgr m
    have hrm := hrk m
    have step : ∀ v : Int, v = 0 ∨ v = 1 → (v = 1 ↔ wpP s rk gr m) → wpS s rk gr (m + 1) (uZ wp2 m v) := fun v hv hp => by
      refine ⟨fun i => ?_, fun r a b => ?_⟩
      · by_cases e : i = m
        · rw [e, uZ_s]; exact hv
        · rw [uZ_n e]; exact hT.1 i
      · by_cases e : r = m
        · rw [e, uZ_s]; exact hp
        · rw [uZ_n e]; exact hT.2 r a (by omega)
    refine zr_iload_n (pc := 21)  (i := 2) rfl rfl dX6_lookAt_21 ?_
    refine zr_bipush (pc := 22)  (by decide) dX6_lookAt_22 ?_
    refine zr_icmp_ge (pc := 24)  (tgt := 63) ⟨by omega, by omega⟩ ⟨by omega, by omega⟩ (by decide) dX6_lookAt_24 (fun q24 => ?_) (fun q24 => ?_)
    · obtain rfl : m = 16 := by omega
      refine zr_iconst (pc := 63)  dX6_lookAt_63 ?_
      refine zs_istore_n_2 (pc := 64)  (by first | exact zn_i | exact zn_r | exact zn_0) (by decide) dX6_lookAt_64 ?_
      exact l_X6_lookAt2 h3 h7 h16 hO hgr ht hT (fun _ _ _ _ v => kk _ _ _ _ _ v) 4 0 _ _ _ _ (by omega) (by omega) (by omega) (fun g a b => by omega)
    · refine zr_aload_n (pc := 27)  (i := 0) rfl rfl dX6_lookAt_27 ?_
      refine zr_get (pc := 28)  fl_X6_26 (by first | assumption | rfl | (repeat (first | assumption | exact zup_s | refine zup_g (by decide) ?_))) rfl dX6_lookAt_28 ?_
      refine zr_iload_n (pc := 31)  (i := 2) rfl rfl dX6_lookAt_31 ?_
      refine zr_aload_n (pc := 32)  (i := 0) rfl rfl dX6_lookAt_32 ?_
      refine zr_get (pc := 33)  fl_X6_9 (by first | assumption | rfl | (repeat (first | assumption | exact zup_s | refine zup_g (by decide) ?_))) rfl dX6_lookAt_33 ?_
      refine zr_iload_n (pc := 36)  (i := 2) rfl rfl dX6_lookAt_36 ?_
      refine zv_call1 (pc := 37)  cv_X6_lookAt_68 (by first | assumption | rfl | (repeat (first | assumption | exact zup_s | refine zup_g (by decide) ?_))) ⟨_, rfl, rfl⟩ (Nat.le_of_ble_eq_true rfl) (by decide) dX6_lookAt_37 ?_
      refine k_X3_isPost (by first | assumption | omega | (refine ⟨?_, ?_⟩ <;> omega) | rfl | (repeat (first | assumption | exact zup_s | refine zup_g (by decide) ?_))) (by first | assumption | omega | (refine ⟨?_, ?_⟩ <;> omega) | rfl | (repeat (first | assumption | exact zup_s | refine zup_g (by decide) ?_))) (by first | assumption | omega | (refine ⟨?_, ?_⟩ <;> omega) | rfl | (repeat (first | assumption | exact zup_s | refine zup_g (by decide) ?_))) (by first | assumption | omega | (refine ⟨?_, ?_⟩ <;> omega) | rfl | (repeat (first | assumption | exact zup_s | refine zup_g (by decide) ?_))) (by first | assumption | omega | (refine ⟨?_, ?_⟩ <;> omega) | rfl | (repeat (first | assumption | exact zup_s | refine zup_g (by decide) ?_))) (by first | assumption | omega | (refine ⟨?_, ?_⟩ <;> omega) | rfl | (repeat (first | assumption | exact zup_s | refine zup_g (by decide) ?_))) ?_
      dsimp only [Option.toList, List.cons_append, List.nil_append]
      refine zb_eq (pc := 40) (tgt := 55) (by decide) dX6_lookAt_40 (fun q40 => ?_) (fun q40 => ?_)
      · refine zr_iconst (pc := 55)  dX6_lookAt_55 ?_
        refine zr_zast (pc := 56)  (by first | assumption | rfl | (repeat (first | assumption | exact zup_s | refine zup_g (by decide) ?_))) ⟨by omega, by omega⟩ (by decide) (by omega) dX6_lookAt_56 ?_
        refine zr_heap hV_21 ?_
        refine zs_iinc_2 (pc := 57)  (by first | exact zn_i | exact zn_r | exact zn_0) (by decide) dX6_lookAt_57 ?_
        refine zr_goto (pc := 60)  (tgt := 21) (by decide) dX6_lookAt_60 ?_
        first | exact ih (m + 1) _ (by omega) (by omega) (step 1 (Or.inr rfl) ⟨fun _ => ⟨q40, q48⟩, fun _ => rfl⟩) | exact ih (m + 1) _ (by omega) (by omega) (step 0 (Or.inl rfl) ⟨fun u => absurd u (by decide), fun u => absurd u.2 q48⟩) | exact ih (m + 1) _ (by omega) (by omega) (step 0 (Or.inl rfl) ⟨fun u => absurd u (by decide), fun u => absurd u.1 q40⟩)
      · refine zr_aload_n (pc := 43)  (i := 0) rfl rfl dX6_lookAt_43 ?_
        refine zr_iload_n (pc := 44)  (i := 2) rfl rfl dX6_lookAt_44 ?_
        refine zv_call1 (pc := 45)  cv_X6_lookAt_74 (by first | assumption | rfl | (repeat (first | assumption | exact zup_s | refine zup_g (by decide) ?_))) ⟨_, rfl, rfl⟩ (Nat.le_of_ble_eq_true rfl) (by decide) dX6_lookAt_45 ?_
        refine k_X6_isSeenAllTheYear rfl (stO_hV hO) (by omega) ht ?_
        dsimp only [Option.toList, List.cons_append, List.nil_append]
        refine zb_eq (pc := 48) (tgt := 55) (by decide) dX6_lookAt_48 (fun q48 => ?_) (fun q48 => ?_)
        · refine zr_iconst (pc := 55)  dX6_lookAt_55 ?_
          refine zr_zast (pc := 56)  (by first | assumption | rfl | (repeat (first | assumption | exact zup_s | refine zup_g (by decide) ?_))) ⟨by omega, by omega⟩ (by decide) (by omega) dX6_lookAt_56 ?_
          refine zr_heap hV_21 ?_
          refine zs_iinc_2 (pc := 57)  (by first | exact zn_i | exact zn_r | exact zn_0) (by decide) dX6_lookAt_57 ?_
          refine zr_goto (pc := 60)  (tgt := 21) (by decide) dX6_lookAt_60 ?_
          first | exact ih (m + 1) _ (by omega) (by omega) (step 1 (Or.inr rfl) ⟨fun _ => ⟨q40, q48⟩, fun _ => rfl⟩) | exact ih (m + 1) _ (by omega) (by omega) (step 0 (Or.inl rfl) ⟨fun u => absurd u (by decide), fun u => absurd u.2 q48⟩) | exact ih (m + 1) _ (by omega) (by omega) (step 0 (Or.inl rfl) ⟨fun u => absurd u (by decide), fun u => absurd u.1 q40⟩)
        · refine zr_iconst (pc := 51)  dX6_lookAt_51 ?_
          refine zr_goto (pc := 52)  (tgt := 56) (by decide) dX6_lookAt_52 ?_
          refine zr_zast (pc := 56)  (by first | assumption | rfl | (repeat (first | assumption | exact zup_s | refine zup_g (by decide) ?_))) ⟨by omega, by omega⟩ (by decide) (by omega) dX6_lookAt_56 ?_
          refine zr_heap hV_21 ?_
          refine zs_iinc_2 (pc := 57)  (by first | exact zn_i | exact zn_r | exact zn_0) (by decide) dX6_lookAt_57 ?_
          refine zr_goto (pc := 60)  (tgt := 21) (by decide) dX6_lookAt_60 ?_
          first | exact ih (m + 1) _ (by omega) (by omega) (step 1 (Or.inr rfl) ⟨fun _ => ⟨q40, q48⟩, fun _ => rfl⟩) | exact ih (m + 1) _ (by omega) (by omega) (step 0 (Or.inl rfl) ⟨fun u => absurd u (by decide), fun u => absurd u.2 q48⟩) | exact ih (m + 1) _ (by omega) (by omega) (step 0 (Or.inl rfl) ⟨fun u => absurd u (by decide), fun u => absurd u.1 q40⟩)
theorem k_X6_lookAt {G : zG} {n : Nat} {h : zH} {Post : Option Value → Nat → zH → Prop} {num ssz fnd tm t : Int} {s rk gr wk mo to po wp sd sc pr sq fl db : Int → Int} {yu yl : Int} (h3 : h 3 = some (oRoads num)) (h4 : h 4 = some (aZ 16 rk)) (h7 : h 7 = some (aI 16 gr)) (h16 : h 16 = some oTal) (hO : stO h t s) (hrk : ∀ i, rk i = 0 ∨ rk i = 1) (hgr : ∀ i, -1 ≤ gr i ∧ gr i < 4) (htm : iR tm) (ht : iR t) (hwp : ∀ i, wp i = 0 ∨ wp i = 1) (hv : t = tm → vwS s rk gr wp wk mo to po) (kS : t = tm → Post none n (hV h ssz fnd tm wk mo to po wp sd sc pr sq fl db yu yl)) (kN : t ≠ tm → ∀ wp2 wk2 mo2 to2 po2 : Int → Int, vwS s rk gr wp2 wk2 mo2 to2 po2 → Post none n (hV h ssz 0 t wk2 mo2 to2 po2 wp2 sd sc pr sq fl db yu yl)) : zMP G mX6_lookAt [.ref 15, vi t] n (hV h ssz fnd tm wk mo to po wp sd sc pr sq fl db yu yl) Post := by
  refine zMP_of (by decide) [some _, some _, none] (Nat.le_of_ble_eq_true rfl) rfl ?_
  refine zr_iload_n (pc := 0)  (i := 1) rfl rfl dX6_lookAt_0 ?_
  refine zr_aload_n (pc := 1)  (i := 0) rfl rfl dX6_lookAt_1 ?_
  refine zr_get (pc := 2)  fl_X6_65 (by first | assumption | rfl | (repeat (first | assumption | exact zup_s | refine zup_g (by decide) ?_))) rfl dX6_lookAt_2 ?_
  refine zr_icmp_ne (pc := 5)  (tgt := 9) ⟨by omega, by omega⟩ ⟨by omega, by omega⟩ (by decide) dX6_lookAt_5 (fun q5 => ?_) (fun q5 => ?_)
  · refine zr_aload_n (pc := 9)  (i := 0) rfl rfl dX6_lookAt_9 ?_
    refine zr_iload_n (pc := 10)  (i := 1) rfl rfl dX6_lookAt_10 ?_
    refine zr_put (pc := 11)  (oView _ _ _) (fp_X6_65 rfl) (by first | assumption | rfl | (repeat (first | assumption | exact zup_s | refine zup_g (by decide) ?_))) (Nat.le_of_ble_eq_true rfl) rfl rfl rfl dX6_lookAt_11 ?_
    refine zr_heap hV_15 ?_
    refine zr_aload_n (pc := 14)  (i := 0) rfl rfl dX6_lookAt_14 ?_
    refine zr_iconst (pc := 15)  dX6_lookAt_15 ?_
    refine zr_put (pc := 16)  (oView _ _ _) (fp_X6_61 rfl) (by first | assumption | rfl | (repeat (first | assumption | exact zup_s | refine zup_g (by decide) ?_))) (Nat.le_of_ble_eq_true rfl) rfl rfl rfl dX6_lookAt_16 ?_
    refine zr_heap hV_15 ?_
    refine zr_iconst (pc := 19)  dX6_lookAt_19 ?_
    refine zs_istore_n_2 (pc := 20)  (by first | exact zn_i | exact zn_r | exact zn_0) (by decide) dX6_lookAt_20 ?_
    exact l_X6_lookAt1 h3 h4 h7 h16 hO hrk hgr ht (kN (by omega)) 16 0 _ (by omega) (by omega) ⟨hwp, fun r a b => by omega⟩
  · refine zr_vreturn (pc := 8)  rfl (by decide) (by decide) dX6_lookAt_8 ?_
    exact kS (by omega)
