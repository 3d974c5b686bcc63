/-! RoadOffice: what its cells hold -/
def SA (ap bc pl bt : Int → Int) (N : Nat) (t : Int) : Int → Int := fun p => stZ ap bc pl bt N p t
def cA (h : zH) (now len : Int) (tb rk rs rg gr : Int → Int) (num : Int) (N : Nat) (bt bc bk be bn ap : Int → Int) : Prop := h 0 = some (oOff now) ∧ h 1 = some (oTape len) ∧ h 2 = some (aI 200 tb) ∧ h 3 = some (oRoads num) ∧ h 4 = some (aZ 16 rk) ∧ h 5 = some (aI 16 rs) ∧ h 6 = some (aI 16 rg) ∧ h 7 = some (aI 16 gr) ∧ h 8 = some (oBooks N) ∧ h 9 = some (aI 600 bt) ∧ h 10 = some (aI 600 bc) ∧ h 11 = some (aI 1800 bk) ∧ h 12 = some (aI 600 be) ∧ h 13 = some (aI 1344 bn) ∧ h 14 = some (aZ 1344 ap)
def oI (now len : Int) (tb rk rs rg gr : Int → Int) (num : Int) (N : Nat) (bt bc be bn ap pl : Int → Int) : Prop := (0 ≤ now ∧ now ≤ 99) ∧ (0 ≤ len ∧ len ≤ 200) ∧ (∀ i, 0 ≤ tb i ∧ tb i ≤ 255) ∧ (∀ i, rk i = 0 ∨ rk i = 1) ∧ (∀ i, 0 ≤ rs i ∧ rs i < 8) ∧ (∀ i, 0 ≤ rg i ∧ rg i < 8) ∧ (∀ i, -1 ≤ gr i ∧ gr i < 4) ∧ (∀ i, rk i = 1 → rs i ≠ rg i) ∧ num = sumZ rk 16 ∧ bkI N bt bc be bn ap pl
/-- the view tells nothing, or what holds as of its time -/
def vwI (S : Int → Int → Int) (rk gr : Int → Int) (fnd tm : Int) (wk mo to po wp fl db : Int → Int) : Prop := iR tm ∧ (fnd = 0 ∨ fnd = 1) ∧ (∀ i, wp i = 0 ∨ wp i = 1) ∧ (tm ≠ -1 → vwS (S tm) rk gr wp wk mo to po ∧ (fnd = 1 → flS rk wp wk mo to po (S tm) 16 fl db))
def cV (h : zH) (rk gr : Int → Int) (S : Int → Int → Int) : Prop := h 16 = some oTal ∧ ∃ (ssz fnd tm : Int) (wk mo to po wp sd sc pr sq fl db : Int → Int) (yu yl : Int), (h 15 = some (oView ssz fnd tm) ∧ h 17 = some (aI 35 wk) ∧ h 18 = some (aI 60 mo) ∧ h 19 = some (aI 5 to) ∧ h 20 = some (aI 5 po) ∧ h 21 = some (aZ 16 wp) ∧ h 22 = some (aI 14 sd) ∧ h 23 = some (aI 14 sc) ∧ h 24 = some (aJ 5 pr) ∧ h 25 = some (aJ 5 sq) ∧ h 26 = some (aI 16 fl) ∧ h 27 = some (aI 16 db) ∧ h 28 = some (oFrac yu yl)) ∧ vwI S rk gr fnd tm wk mo to po wp fl db
def cX (h : zH) : Prop := h 30 = some oTb ∧ (∃ (dv : Int) (T : Int → Int → Int) (ex pu : Int → Int), h 29 = some (oBal dv) ∧ h 31 = some (aJ 8 (T 0)) ∧ h 32 = some (aJ 8 (T 1)) ∧ h 33 = some (aJ 8 (T 2)) ∧ h 34 = some (aJ 8 (T 3)) ∧ h 35 = some (aJ 4 ex) ∧ h 36 = some (aJ 8 pu)) ∧ ∃ u l, h 37 = some (oFrac u l)
/-- the office's cells, and what holds of them -/
def oK (h : zH) (now len : Int) (tb rk rs rg gr : Int → Int) (num : Int) (N : Nat) (bt bc bk be bn ap pl : Int → Int) : Prop := cA h now len tb rk rs rg gr num N bt bc bk be bn ap ∧ oI now len tb rk rs rg gr num N bt bc be bn ap pl ∧ cV h rk gr (SA ap bc pl bt N) ∧ cX h
theorem SA_ne {ap bc pl bt : Int → Int} {N : Nat} {t p : Int} (h : 0 ≤ SA ap bc pl bt N t p) : holdZ pl bt N p t ≠ -1 := fun q => by
  have h : 0 ≤ stZ ap bc pl bt N p t := h
  unfold stZ at h
  rw [if_pos q] at h
  split at h <;> omega
section OFF
variable {G : zG} {n : Nat} {h : zH} {Post : Option Value → Nat → zH → Prop} {now len num : Int} {tb rk rs rg gr bt bc bk be bn ap pl : Int → Int} {N : Nat}
theorem oK.stO {t : Int} (hK : oK h now len tb rk rs rg gr num N bt bc bk be bn ap pl) : stO h t (SA ap bc pl bt N t) := by
  obtain ⟨⟨-, -, -, -, -, -, -, -, g8, g9, g10, -, g12, g13, g14⟩, hI, -, -⟩ := hK
  exact ⟨N, bt, bc, be, bn, ap, pl, ⟨g8, g9, g10, g12, g13, g14⟩, hI.2.2.2.2.2.2.2.2.2, rfl⟩
theorem hV_hi {ssz fnd tm : Int} {wk mo to po wp sd sc pr sq fl db : Int → Int} {yu yl : Int} {j : Nat} (hj : 28 < j) : hV h ssz fnd tm wk mo to po wp sd sc pr sq fl db yu yl j = h j := by
  unfold hV
  rw [zup_n (by omega), zup_n (by omega), zup_n (by omega), zup_n (by omega), zup_n (by omega), zup_n (by omega), zup_n (by omega), zup_n (by omega), zup_n (by omega), zup_n (by omega), zup_n (by omega), zup_n (by omega), zup_n (by omega)]
theorem oK.view {ssz fnd tm : Int} {wk mo to po wp sd sc pr sq fl db : Int → Int} {yu yl : Int} (hK : oK h now len tb rk rs rg gr num N bt bc bk be bn ap pl) (hv : vwI (SA ap bc pl bt N) rk gr fnd tm wk mo to po wp fl db) : oK (hV h ssz fnd tm wk mo to po wp sd sc pr sq fl db yu yl) now len tb rk rs rg gr num N bt bc bk be bn ap pl := by
  obtain ⟨⟨g0, g1, g2, g3, g4, g5, g6, g7, g8, g9, g10, g11, g12, g13, g14⟩, hI, ⟨g16, -⟩, ⟨g30, ⟨dv, T, ex, pu, b1, b2, b3, b4, b5, b6, b7⟩, u, l, g37⟩⟩ := hK
  exact ⟨⟨g0, g1, g2, g3, g4, g5, g6, g7, g8, g9, g10, g11, g12, g13, g14⟩, hI, ⟨g16, ssz, fnd, tm, wk, mo, to, po, wp, sd, sc, pr, sq, fl, db, yu, yl, ⟨rfl, rfl, rfl, rfl, rfl, rfl, rfl, rfl, rfl, rfl, rfl, rfl, rfl⟩, hv⟩, ⟨g30, ⟨dv, T, ex, pu, b1, b2, b3, b4, b5, b6, b7⟩, u, l, g37⟩⟩
theorem oK.frac {u l : Int} (hK : oK h now len tb rk rs rg gr num N bt bc bk be bn ap pl) : oK (zup h 37 (oFrac u l)) now len tb rk rs rg gr num N bt bc bk be bn ap pl := by
  obtain ⟨⟨g0, g1, g2, g3, g4, g5, g6, g7, g8, g9, g10, g11, g12, g13, g14⟩, hI, ⟨g16, ssz, fnd, tm, wk, mo, to, po, wp, sd, sc, pr, sq, fl, db, yu, yl, ⟨v1, v2, v3, v4, v5, v6, v7, v8, v9, v10, v11, v12, v13⟩, hv⟩, ⟨g30, ⟨dv, T, ex, pu, b1, b2, b3, b4, b5, b6, b7⟩, -⟩⟩ := hK
  exact ⟨⟨g0, g1, g2, g3, g4, g5, g6, g7, g8, g9, g10, g11, g12, g13, g14⟩, hI, ⟨g16, ssz, fnd, tm, wk, mo, to, po, wp, sd, sc, pr, sq, fl, db, yu, yl, ⟨v1, v2, v3, v4, v5, v6, v7, v8, v9, v10, v11, v12, v13⟩, hv⟩, ⟨g30, ⟨dv, T, ex, pu, b1, b2, b3, b4, b5, b6, b7⟩, u, l, rfl⟩⟩
theorem oK.bal {dv : Int} {T : Int → Int → Int} {ex pu : Int → Int} (hK : oK h now len tb rk rs rg gr num N bt bc bk be bn ap pl) : oK (hB h dv T ex pu) now len tb rk rs rg gr num N bt bc bk be bn ap pl := by
  obtain ⟨⟨g0, g1, g2, g3, g4, g5, g6, g7, g8, g9, g10, g11, g12, g13, g14⟩, hI, ⟨g16, ssz, fnd, tm, wk, mo, to, po, wp, sd, sc, pr, sq, fl, db, yu, yl, ⟨v1, v2, v3, v4, v5, v6, v7, v8, v9, v10, v11, v12, v13⟩, hv⟩, ⟨g30, -, u, l, g37⟩⟩ := hK
  exact ⟨⟨g0, g1, g2, g3, g4, g5, g6, g7, g8, g9, g10, g11, g12, g13, g14⟩, hI, ⟨g16, ssz, fnd, tm, wk, mo, to, po, wp, sd, sc, pr, sq, fl, db, yu, yl, ⟨v1, v2, v3, v4, v5, v6, v7, v8, v9, v10, v11, v12, v13⟩, hv⟩, ⟨g30, ⟨dv, T, ex, pu, rfl, rfl, rfl, rfl, rfl, rfl, rfl⟩, u, l, g37⟩⟩
/-- look at t -/
theorem k_look {t : Int} (hK : oK h now len tb rk rs rg gr num N bt bc bk be bn ap pl) (ht : iR t) (ht0 : 0 ≤ t) (k : ∀ (ssz fnd : Int) (wk mo to po wp sd sc pr sq fl db : Int → Int) (yu yl : Int), vwS (SA ap bc pl bt N t) rk gr wp wk mo to po → (fnd = 0 ∨ fnd = 1) → (fnd = 1 → flS rk wp wk mo to po (SA ap bc pl bt N t) 16 fl db) → Post none n (hV h ssz fnd t wk mo to po wp sd sc pr sq fl db yu yl)) : zMP G mX6_lookAt [.ref 15, vi t] n h Post := by
  have hO := hK.stO (t := t)
  obtain ⟨⟨g0, g1, g2, g3, g4, g5, g6, g7, g8, g9, g10, g11, g12, g13, g14⟩, ⟨-, -, -, i4, -, -, i7, -⟩, ⟨g16, ssz, fnd, tm, wk, mo, to, po, wp, sd, sc, pr, sq, fl, db, yu, yl, ⟨v1, v2, v3, v4, v5, v6, v7, v8, v9, v10, v11, v12, v13⟩, ⟨w1, w2, w3, w4⟩⟩, -⟩ := hK
  have e := hV_self v1 v2 v3 v4 v5 v6 v7 v8 v9 v10 v11 v12 v13
  rw [← e]
  refine k_X6_lookAt g3 g4 g7 g16 hO i4 i7 w1 ht w3 (fun q => by rw [q]; exact (w4 (by omega)).1) (fun q => ?_) (fun q wp2 wk2 mo2 to2 po2 hv => ?_)
  · have w5 := w4 (by omega)
    rw [← q] at w5 ⊢
    exact k _ _ _ _ _ _ _ _ _ _ _ _ _ _ _ w5.1 w2 w5.2
  · exact k _ _ _ _ _ _ _ _ _ _ _ _ _ _ _ hv (Or.inl rfl) (fun z => absurd z (by decide))
theorem vwI.mk' {S : Int → Int → Int} {fnd t : Int} {wk mo to po wp fl db : Int → Int} (ht : iR t) (hv : vwS (S t) rk gr wp wk mo to po) (h1 : fnd = 0 ∨ fnd = 1) (h2 : fnd = 1 → flS rk wp wk mo to po (S t) 16 fl db) : vwI S rk gr fnd t wk mo to po wp fl db := ⟨ht, h1, hv.1.1, fun _ => ⟨hv, h2⟩⟩
theorem k_X7_isAskable {r t : Int} (hK : oK h now len tb rk rs rg gr num N bt bc bk be bn ap pl) (hr : iR r) (ht : iR t) (k : Post (some (vb (((0 ≤ r ∧ r < 16) ∧ rk r = 1) ∧ 0 ≤ t))) n h) : zMP G mX7_isAskable [.ref 0, vi r, vi t] n h Post := by
  obtain ⟨⟨g0, g1, g2, g3, g4, g5, g6, g7, g8, g9, g10, g11, g12, g13, g14⟩, ⟨-, -, -, i4, -⟩, -, -⟩ := hK
  refine zMP_of (by decide) [some _, some _, some _] (Nat.le_of_ble_eq_true rfl) rfl ?_
  refine zr_aload_n (pc := 0)  (i := 0) rfl rfl dX7_isAskable_0 ?_
  refine zr_get (pc := 1)  fl_X7_19 (by first | assumption | rfl | (repeat (first | assumption | exact zup_s | refine zup_g (by decide) ?_))) rfl dX7_isAskable_1 ?_
  refine zr_iload_n (pc := 4)  (i := 1) rfl rfl dX7_isAskable_4 ?_
  refine zv_call1 (pc := 5)  cv_X7_isAskable_73 (by first | assumption | rfl | (repeat (first | assumption | exact zup_s | refine zup_g (by decide) ?_))) ⟨_, rfl, rfl⟩ (Nat.le_of_ble_eq_true rfl) (by decide) dX7_isAskable_5 ?_
  refine k_X3_has (by first | assumption | omega | (refine ⟨?_, ?_⟩ <;> omega) | rfl | (repeat (first | assumption | exact zup_s | refine zup_g (by decide) ?_))) (by first | assumption | omega | (refine ⟨?_, ?_⟩ <;> omega) | rfl | (repeat (first | assumption | exact zup_s | refine zup_g (by decide) ?_))) (by first | assumption | omega | (refine ⟨?_, ?_⟩ <;> omega) | rfl | (repeat (first | assumption | exact zup_s | refine zup_g (by decide) ?_))) (by first | assumption | omega | (refine ⟨?_, ?_⟩ <;> omega) | rfl | (repeat (first | assumption | exact zup_s | refine zup_g (by decide) ?_))) ?_
  dsimp only [Option.toList, List.cons_append, List.nil_append]
  refine zb_eq (pc := 8) (tgt := 19) (by decide) dX7_isAskable_8 (fun q8 => ?_) (fun q8 => ?_)
  · refine zr_iconst (pc := 19)  dX7_isAskable_19 ?_
    refine zr_zreturn (pc := 20)  rfl (by omega) (by decide) (by decide) dX7_isAskable_20 ?_
    first | exact zb_t (by omega) k | exact zb_f (by omega) k
  · refine zr_iload_n (pc := 11)  (i := 2) rfl rfl dX7_isAskable_11 ?_
    refine zr_if_lt (pc := 12)  (tgt := 19) ⟨by omega, by omega⟩ (by decide) dX7_isAskable_12 (fun q12 => ?_) (fun q12 => ?_)
    · refine zr_iconst (pc := 19)  dX7_isAskable_19 ?_
      refine zr_zreturn (pc := 20)  rfl (by omega) (by decide) (by decide) dX7_isAskable_20 ?_
      first | exact zb_t (by omega) k | exact zb_f (by omega) k
    · refine zr_iconst (pc := 15)  dX7_isAskable_15 ?_
      refine zr_goto (pc := 16)  (tgt := 20) (by decide) dX7_isAskable_16 ?_
      refine zr_zreturn (pc := 20)  rfl (by omega) (by decide) (by decide) dX7_isAskable_20 ?_
      first | exact zb_t (by omega) k | exact zb_f (by omega) k
theorem k_X7_seen {r d t : Int} (hK : oK h now len tb rk rs rg gr num N bt bc bk be bn ap pl) (hr : iR r) (hd : iR d) (ht : iR t) (k1 : (((0 ≤ r ∧ r < 16) ∧ rk r = 1) ∧ 0 ≤ t) ∧ (0 ≤ d ∧ d < 84) → Post (some (vi (SA ap bc pl bt N t (r * 84 + d)))) n h) (k0 : ¬ ((((0 ≤ r ∧ r < 16) ∧ rk r = 1) ∧ 0 ≤ t) ∧ (0 ≤ d ∧ d < 84)) → Post (some (vi (-4))) n h) : zMP G mX7_seen [.ref 0, vi r, vi d, vi t] n h Post := by
  have hO := hK.stO (t := t)
  have hK' := hK
  obtain ⟨⟨g0, g1, g2, g3, g4, g5, g6, g7, g8, g9, g10, g11, g12, g13, g14⟩, ⟨-, -, -, i4, -⟩, -, -⟩ := hK'
  refine zMP_of (by decide) [some _, some _, some _, some _] (Nat.le_of_ble_eq_true rfl) rfl ?_
  refine zr_aload_n (pc := 0)  (i := 0) rfl rfl dX7_seen_0 ?_
  refine zr_iload_n (pc := 1)  (i := 1) rfl rfl dX7_seen_1 ?_
  refine zr_iload_n (pc := 2)  (i := 3) rfl rfl dX7_seen_2 ?_
  refine zv_call2 (pc := 3)  cv_X7_seen_94 (by first | assumption | rfl | (repeat (first | assumption | exact zup_s | refine zup_g (by decide) ?_))) ⟨_, rfl, rfl⟩ (Nat.le_of_ble_eq_true rfl) (by decide) dX7_seen_3 ?_
  refine k_X7_isAskable (by first | assumption | omega | (refine ⟨?_, ?_⟩ <;> omega) | rfl | (repeat (first | assumption | exact zup_s | refine zup_g (by decide) ?_))) (by first | assumption | omega | (refine ⟨?_, ?_⟩ <;> omega) | rfl | (repeat (first | assumption | exact zup_s | refine zup_g (by decide) ?_))) (by first | assumption | omega | (refine ⟨?_, ?_⟩ <;> omega) | rfl | (repeat (first | assumption | exact zup_s | refine zup_g (by decide) ?_))) ?_
  dsimp only [Option.toList, List.cons_append, List.nil_append]
  refine zb_eq (pc := 6) (tgt := 18) (by decide) dX7_seen_6 (fun q6 => ?_) (fun q6 => ?_)
  · refine zr_bipush (pc := 18)  (by decide) dX7_seen_18 ?_
    refine zr_ireturn (pc := 20)  rfl (by decide) (by decide) dX7_seen_20 ?_
    exact k0 (by omega)
  · refine zr_iload_n (pc := 9)  (i := 2) rfl rfl dX7_seen_9 ?_
    refine zr_bipush (pc := 10)  (by decide) dX7_seen_10 ?_
    refine zc_call2 (pc := 12)  cs_X7_seen_69 (Nat.le_of_ble_eq_true rfl) (by decide) dX7_seen_12 ?_
    refine k_X7_isBelow (by first | assumption | omega | (refine ⟨?_, ?_⟩ <;> omega) | rfl | (repeat (first | assumption | exact zup_s | refine zup_g (by decide) ?_))) (by first | assumption | omega | (refine ⟨?_, ?_⟩ <;> omega) | rfl | (repeat (first | assumption | exact zup_s | refine zup_g (by decide) ?_))) ?_
    dsimp only [Option.toList, List.cons_append, List.nil_append]
    refine zb_ne (pc := 15) (tgt := 21) (by decide) dX7_seen_15 (fun q15 => ?_) (fun q15 => ?_)
    · refine zr_aload_n (pc := 21)  (i := 0) rfl rfl dX7_seen_21 ?_
      refine zr_get (pc := 22)  fl_X7_26 (by first | assumption | rfl | (repeat (first | assumption | exact zup_s | refine zup_g (by decide) ?_))) rfl dX7_seen_22 ?_
      refine zr_iload_n (pc := 25)  (i := 1) rfl rfl dX7_seen_25 ?_
      refine zr_bipush (pc := 26)  (by decide) dX7_seen_26 ?_
      refine zr_imul (pc := 28)  dX7_seen_28 ?_
      refine zr_iload_n (pc := 29)  (i := 2) rfl rfl dX7_seen_29 ?_
      refine zr_iadd (pc := 30)  dX7_seen_30 ?_
      refine zr_iload_n (pc := 31)  (i := 3) rfl rfl dX7_seen_31 ?_
      refine zv_call2 (pc := 32)  cv_X7_seen_97 (by first | assumption | rfl | (repeat (first | assumption | exact zup_s | refine zup_g (by decide) ?_))) ⟨_, rfl, rfl⟩ (Nat.le_of_ble_eq_true rfl) (by decide) dX7_seen_32 ?_
      refine k_state hO (by omega) ht ?_
      dsimp only [Option.toList, List.cons_append, List.nil_append]
      refine zr_ireturn (pc := 35)  rfl (by decide) (by decide) dX7_seen_35 ?_
      exact k1 (by omega)
    · refine zr_bipush (pc := 18)  (by decide) dX7_seen_18 ?_
      refine zr_ireturn (pc := 20)  rfl (by decide) (by decide) dX7_seen_20 ?_
      exact k0 (by omega)
theorem k_X7_kind {r d t c : Int} (hK : oK h now len tb rk rs rg gr num N bt bc bk be bn ap pl) (hr : iR r) (hd : iR d) (ht : iR t) (hc : iR c) (k1 : ((((0 ≤ r ∧ r < 16) ∧ rk r = 1) ∧ 0 ≤ t) ∧ (0 ≤ d ∧ d < 84)) ∧ (0 ≤ c ∧ c < 3) → 0 ≤ SA ap bc pl bt N t (r * 84 + d) → Post (some (vi (bk (holdZ pl bt N (r * 84 + d) t * 3 + c)))) n h) (k2 : ((((0 ≤ r ∧ r < 16) ∧ rk r = 1) ∧ 0 ≤ t) ∧ (0 ≤ d ∧ d < 84)) ∧ (0 ≤ c ∧ c < 3) → ¬ 0 ≤ SA ap bc pl bt N t (r * 84 + d) → Post (some (vi (-1))) n h) (k0 : ¬ (((((0 ≤ r ∧ r < 16) ∧ rk r = 1) ∧ 0 ≤ t) ∧ (0 ≤ d ∧ d < 84)) ∧ (0 ≤ c ∧ c < 3)) → Post (some (vi (-1))) n h) : zMP G mX7_kind [.ref 0, vi r, vi d, vi t, vi c] n h Post := by
  have hO := hK.stO (t := t)
  have hsr := stO_R hO (r * 84 + d)
  have hK' := hK
  obtain ⟨⟨g0, g1, g2, g3, g4, g5, g6, g7, g8, g9, g10, g11, g12, g13, g14⟩, ⟨-, -, -, i4, -, -, -, -, -, i10⟩, -, -⟩ := hK'
  refine zMP_of (by decide) [some _, some _, some _, some _, some _, none] (Nat.le_of_ble_eq_true rfl) rfl ?_
  refine zr_aload_n (pc := 0)  (i := 0) rfl rfl dX7_kind_0 ?_
  refine zr_iload_n (pc := 1)  (i := 1) rfl rfl dX7_kind_1 ?_
  refine zr_iload_n (pc := 2)  (i := 3) rfl rfl dX7_kind_2 ?_
  refine zv_call2 (pc := 3)  cv_X7_kind_94 (by first | assumption | rfl | (repeat (first | assumption | exact zup_s | refine zup_g (by decide) ?_))) ⟨_, rfl, rfl⟩ (Nat.le_of_ble_eq_true rfl) (by decide) dX7_kind_3 ?_
  refine k_X7_isAskable (by first | assumption | omega | (refine ⟨?_, ?_⟩ <;> omega) | rfl | (repeat (first | assumption | exact zup_s | refine zup_g (by decide) ?_))) (by first | assumption | omega | (refine ⟨?_, ?_⟩ <;> omega) | rfl | (repeat (first | assumption | exact zup_s | refine zup_g (by decide) ?_))) (by first | assumption | omega | (refine ⟨?_, ?_⟩ <;> omega) | rfl | (repeat (first | assumption | exact zup_s | refine zup_g (by decide) ?_))) ?_
  dsimp only [Option.toList, List.cons_append, List.nil_append]
  refine zb_eq (pc := 6) (tgt := 27) (by decide) dX7_kind_6 (fun q6 => ?_) (fun q6 => ?_)
  · refine zr_iconst (pc := 27)  dX7_kind_27 ?_
    refine zr_ireturn (pc := 28)  rfl (by decide) (by decide) dX7_kind_28 ?_
    exact k0 (by omega)
  · refine zr_iload_n (pc := 9)  (i := 2) rfl rfl dX7_kind_9 ?_
    refine zr_bipush (pc := 10)  (by decide) dX7_kind_10 ?_
    refine zc_call2 (pc := 12)  cs_X7_kind_69 (Nat.le_of_ble_eq_true rfl) (by decide) dX7_kind_12 ?_
    refine k_X7_isBelow (by first | assumption | omega | (refine ⟨?_, ?_⟩ <;> omega) | rfl | (repeat (first | assumption | exact zup_s | refine zup_g (by decide) ?_))) (by first | assumption | omega | (refine ⟨?_, ?_⟩ <;> omega) | rfl | (repeat (first | assumption | exact zup_s | refine zup_g (by decide) ?_))) ?_
    dsimp only [Option.toList, List.cons_append, List.nil_append]
    refine zb_eq (pc := 15) (tgt := 27) (by decide) dX7_kind_15 (fun q15 => ?_) (fun q15 => ?_)
    · refine zr_iconst (pc := 27)  dX7_kind_27 ?_
      refine zr_ireturn (pc := 28)  rfl (by decide) (by decide) dX7_kind_28 ?_
      exact k0 (by omega)
    · refine zr_iload (pc := 18)  rfl dX7_kind_18 ?_
      refine zr_iconst (pc := 20)  dX7_kind_20 ?_
      refine zc_call2 (pc := 21)  cs_X7_kind_69 (Nat.le_of_ble_eq_true rfl) (by decide) dX7_kind_21 ?_
      refine k_X7_isBelow (by first | assumption | omega | (refine ⟨?_, ?_⟩ <;> omega) | rfl | (repeat (first | assumption | exact zup_s | refine zup_g (by decide) ?_))) (by first | assumption | omega | (refine ⟨?_, ?_⟩ <;> omega) | rfl | (repeat (first | assumption | exact zup_s | refine zup_g (by decide) ?_))) ?_
      dsimp only [Option.toList, List.cons_append, List.nil_append]
      refine zb_ne (pc := 24) (tgt := 29) (by decide) dX7_kind_24 (fun q24 => ?_) (fun q24 => ?_)
      · refine zr_iload_n (pc := 29)  (i := 1) rfl rfl dX7_kind_29 ?_
        refine zr_bipush (pc := 30)  (by decide) dX7_kind_30 ?_
        refine zr_imul (pc := 32)  dX7_kind_32 ?_
        refine zr_iload_n (pc := 33)  (i := 2) rfl rfl dX7_kind_33 ?_
        refine zr_iadd (pc := 34)  dX7_kind_34 ?_
        refine zs_istore_5 (pc := 35)  (by first | exact zn_i | exact zn_r | exact zn_0) (by decide) dX7_kind_35 ?_
        refine zr_aload_n (pc := 37)  (i := 0) rfl rfl dX7_kind_37 ?_
        refine zr_get (pc := 38)  fl_X7_26 (by first | assumption | rfl | (repeat (first | assumption | exact zup_s | refine zup_g (by decide) ?_))) rfl dX7_kind_38 ?_
        refine zr_iload (pc := 41)  rfl dX7_kind_41 ?_
        refine zr_iload_n (pc := 43)  (i := 3) rfl rfl dX7_kind_43 ?_
        refine zv_call2 (pc := 44)  cv_X7_kind_97 (by first | assumption | rfl | (repeat (first | assumption | exact zup_s | refine zup_g (by decide) ?_))) ⟨_, rfl, rfl⟩ (Nat.le_of_ble_eq_true rfl) (by decide) dX7_kind_44 ?_
        refine k_state hO (by omega) ht ?_
        dsimp only [Option.toList, List.cons_append, List.nil_append]
        refine zr_if_ge (pc := 47)  (tgt := 54) ⟨by omega, by omega⟩ (by decide) dX7_kind_47 (fun q47 => ?_) (fun q47 => ?_)
        · refine zr_aload_n (pc := 54)  (i := 0) rfl rfl dX7_kind_54 ?_
          refine zr_get (pc := 55)  fl_X7_26 (by first | assumption | rfl | (repeat (first | assumption | exact zup_s | refine zup_g (by decide) ?_))) rfl dX7_kind_55 ?_
          refine zr_iload (pc := 58)  rfl dX7_kind_58 ?_
          refine zr_iload_n (pc := 60)  (i := 3) rfl rfl dX7_kind_60 ?_
          refine zr_iload (pc := 61)  rfl dX7_kind_61 ?_
          refine zv_call3 (pc := 63)  cv_X7_kind_100 (by first | assumption | rfl | (repeat (first | assumption | exact zup_s | refine zup_g (by decide) ?_))) ⟨_, rfl, rfl⟩ (Nat.le_of_ble_eq_true rfl) (by decide) dX7_kind_63 ?_
          refine k_X1_ofKind g8 g9 g11 g12 g13 i10.1 i10.2.2.2.1 i10.2.2.2.2 (by omega) ht (by omega) ?_
          have hne := SA_ne q47
          rw [if_neg hne]
          dsimp only [Option.toList, List.cons_append, List.nil_append]
          refine zr_ireturn (pc := 66)  rfl (by decide) (by decide) dX7_kind_66 ?_
          first | exact k2 (by omega) (by omega) | exact k1 (by omega) (by omega)
        · refine zr_iconst (pc := 50)  dX7_kind_50 ?_
          refine zr_goto (pc := 51)  (tgt := 66) (by decide) dX7_kind_51 ?_
          refine zr_ireturn (pc := 66)  rfl (by decide) (by decide) dX7_kind_66 ?_
          first | exact k2 (by omega) (by omega) | exact k1 (by omega) (by omega)
      · refine zr_iconst (pc := 27)  dX7_kind_27 ?_
        refine zr_ireturn (pc := 28)  rfl (by decide) (by decide) dX7_kind_28 ?_
        exact k0 (by omega)
end OFF
