/-! sums and counts -/
noncomputable def ind (P : Prop) : Int := by classical exact if P then 1 else 0
theorem ind_t {P : Prop} (h : P) : ind P = 1 := by unfold ind; exact if_pos h
theorem ind_f {P : Prop} (h : ¬ P) : ind P = 0 := by unfold ind; exact if_neg h
theorem ind_R (P : Prop) : ind P = 0 ∨ ind P = 1 := by
  by_cases h : P
  · exact Or.inr (ind_t h)
  · exact Or.inl (ind_f h)
theorem ind_iff {P Q : Prop} (h : P ↔ Q) : ind P = ind Q := by rw [propext h]
def sumZ (f : Int → Int) : Nat → Int
  | 0 => 0
  | k + 1 => sumZ f k + f k
theorem sumZ_congr {f g : Int → Int} : ∀ k : Nat, (∀ j : Int, 0 ≤ j → j < k → f j = g j) → sumZ f k = sumZ g k
  | 0, _ => rfl
  | k + 1, h => by
    show sumZ f k + f k = sumZ g k + g k
    rw [sumZ_congr k (fun j a b => h j a (by omega)), h k (by omega) (by omega)]
theorem sumZ_R {f : Int → Int} {B : Int} : ∀ k : Nat, (∀ j : Int, 0 ≤ j → j < k → 0 ≤ f j ∧ f j ≤ B) → 0 ≤ sumZ f k ∧ sumZ f k ≤ k * B
  | 0, _ => by simp [sumZ]
  | k + 1, h => by
    have h1 := sumZ_R k (fun j a b => h j a (by omega))
    have h2 := h k (by omega) (by omega)
    have e : ((k + 1 : Nat) : Int) * B = (k : Int) * B + B := by rw [Int.natCast_add, Int.add_mul]; simp
    rw [e]
    show 0 ≤ sumZ f k + f k ∧ sumZ f k + f k ≤ _
    omega
theorem mulB {a b A B : Int} (ha : 0 ≤ a ∧ a ≤ A) (hb : 0 ≤ b ∧ b ≤ B) : 0 ≤ a * b ∧ a * b ≤ A * B :=
  ⟨Int.mul_nonneg ha.1 hb.1, Int.mul_le_mul ha.2 hb.2 hb.1 (by omega)⟩
theorem uZ_uZ {g : Int → Int} {i v w : Int} : uZ (uZ g i v) i w = uZ g i w := by
  funext j
  unfold uZ
  by_cases e : j = i
  · rw [if_pos e, if_pos e]
  · simp only [if_neg e]
theorem uZ_self {g : Int → Int} {i v : Int} (h : g i = v) : uZ g i v = g := by
  funext j
  unfold uZ
  by_cases e : j = i
  · rw [if_pos e, e, h]
  · rw [if_neg e]
/-- days of one weekday, of one month -/
def wsum (f : Int → Int) (i : Int) (k : Nat) : Int := sumZ (fun d => if d % 7 = i then f d else 0) k
def msum (f : Int → Int) (i : Int) (k : Nat) : Int := sumZ (fun d => if d / 7 = i then f d else 0) k
/-- the first four of those with q -/
noncomputable def cntP (q : Int → Prop) : Nat → Int
  | 0 => 0
  | k + 1 => cntP q k + ind (q k ∧ cntP q k < 4)
theorem cntP_R (q : Int → Prop) : ∀ k : Nat, 0 ≤ cntP q k ∧ cntP q k ≤ 4 ∧ cntP q k ≤ k
  | 0 => by simp [cntP]
  | k + 1 => by
    have h := cntP_R q k
    show 0 ≤ cntP q k + ind (q k ∧ cntP q k < 4) ∧ cntP q k + ind (q k ∧ cntP q k < 4) ≤ 4 ∧ _ ≤ _
    by_cases e : q k ∧ cntP q k < 4
    · have := e.2
      rw [show cntP q (k + 1) = cntP q k + ind (q k ∧ cntP q k < 4) from rfl, ind_t e]; omega
    · rw [show cntP q (k + 1) = cntP q k + ind (q k ∧ cntP q k < 4) from rfl, ind_f e]; omega
noncomputable def sumP (q : Int → Prop) (F : Int → Int) : Nat → Int
  | 0 => 0
  | k + 1 => sumP q F k + ind (q k ∧ cntP q k < 4) * F k
theorem sumP_R {q : Int → Prop} {F : Int → Int} {B : Int} (hB : 0 ≤ B) : ∀ k : Nat, (∀ j : Int, 0 ≤ j → j < k → q j → 0 ≤ F j ∧ F j ≤ B) → 0 ≤ sumP q F k ∧ sumP q F k ≤ cntP q k * B
  | 0, _ => by simp [sumP, cntP]
  | k + 1, h => by
    have h1 := sumP_R hB k (fun j a b => h j a (by omega))
    by_cases e : q k ∧ cntP q k < 4
    · have h2 := h k (by omega) (by omega) e.1
      rw [show sumP q F (k + 1) = sumP q F k + ind (q k ∧ cntP q k < 4) * F k from rfl, show cntP q (k + 1) = cntP q k + ind (q k ∧ cntP q k < 4) from rfl, ind_t e, Int.one_mul, Int.add_mul, Int.one_mul]
      omega
    · rw [show sumP q F (k + 1) = sumP q F k + ind (q k ∧ cntP q k < 4) * F k from rfl, show cntP q (k + 1) = cntP q k + ind (q k ∧ cntP q k < 4) from rfl, ind_f e, Int.zero_mul, Int.add_zero, Int.add_zero]
      exact h1
/-- the first so many days that were seen -/
noncomputable def cnD (f : Int → Int) (most : Int) : Nat → Int
  | 0 => 0
  | k + 1 => cnD f most k + ind (cnD f most k < most ∧ 0 ≤ f k)
noncomputable def sumD (f : Int → Int) (most : Int) (F : Int → Int) : Nat → Int
  | 0 => 0
  | k + 1 => sumD f most F k + ind (cnD f most k < most ∧ 0 ≤ f k) * F k
theorem cnD_R (f : Int → Int) {most : Int} (hm : 0 ≤ most) : ∀ k : Nat, 0 ≤ cnD f most k ∧ cnD f most k ≤ most ∧ cnD f most k ≤ k
  | 0 => by simp [cnD]; exact hm
  | k + 1 => by
    have h := cnD_R f hm k
    by_cases e : cnD f most k < most ∧ 0 ≤ f k
    · have := e.1
      rw [show cnD f most (k + 1) = cnD f most k + ind (cnD f most k < most ∧ 0 ≤ f k) from rfl, ind_t e]; omega
    · rw [show cnD f most (k + 1) = cnD f most k + ind (cnD f most k < most ∧ 0 ≤ f k) from rfl, ind_f e]; omega
theorem cnD_stop {f : Int → Int} {most : Int} {k : Nat} (h : most ≤ cnD f most k) : ∀ m : Nat, k ≤ m → cnD f most m = cnD f most k ∧ ∀ F, sumD f most F m = sumD f most F k := by
  intro m hm
  induction m with
  | zero => 
    obtain rfl : k = 0 := by omega
    exact ⟨rfl, fun _ => rfl⟩
  | succ m ih =>
    by_cases e : k = m + 1
    · rw [e]; exact ⟨rfl, fun _ => rfl⟩
    · obtain ⟨i1, i2⟩ := ih (by omega)
      have e2 : ¬ (cnD f most m < most ∧ 0 ≤ f m) := fun q => by rw [i1] at q; omega
      refine ⟨?_, fun F => ?_⟩
      · rw [show cnD f most (m + 1) = cnD f most m + ind (cnD f most m < most ∧ 0 ≤ f m) from rfl, ind_f e2, i1]; omega
      · rw [show sumD f most F (m + 1) = sumD f most F m + ind (cnD f most m < most ∧ 0 ≤ f m) * F m from rfl, ind_f e2, i2 F]; omega
/-! the state of all places as of a time, as the class's books tell it -/
def bkH (h : zH) (N : Nat) (bt bc be bn ap : Int → Int) : Prop := h 8 = some (oBooks N) ∧ h 9 = some (aI 600 bt) ∧ h 10 = some (aI 600 bc) ∧ h 12 = some (aI 600 be) ∧ h 13 = some (aI 1344 bn) ∧ h 14 = some (aZ 1344 ap)
def bkI (N : Nat) (bt bc be bn ap pl : Int → Int) : Prop := (∀ i, 0 ≤ bt i ∧ bt i ≤ 99) ∧ (∀ i, -1 ≤ bc i ∧ bc i ≤ 50) ∧ (∀ i, ap i = 0 ∨ ap i = 1) ∧ chZ bn be pl N ∧ N ≤ 600
def stO (h : zH) (t : Int) (s : Int → Int) : Prop := ∃ (N : Nat) (bt bc be bn ap pl : Int → Int), bkH h N bt bc be bn ap ∧ bkI N bt bc be bn ap pl ∧ s = fun p => stZ ap bc pl bt N p t
theorem stO_R {h : zH} {t : Int} {s : Int → Int} (hO : stO h t s) (p : Int) : -3 ≤ s p ∧ s p ≤ 50 := by
  obtain ⟨N, bt, bc, be, bn, ap, pl, -, hI, rfl⟩ := hO
  have := hI.2.1 (holdZ pl bt N p t)
  show -3 ≤ stZ ap bc pl bt N p t ∧ stZ ap bc pl bt N p t ≤ 50
  unfold stZ
  split
  · omega
  · split <;> omega
theorem stO_up {h : zH} {t : Int} {s : Int → Int} {k : Nat} {e : va_E} (hk : k < 8 ∨ k = 11 ∨ 14 < k) (hO : stO h t s) : stO (zup h k e) t s := by
  obtain ⟨N, bt, bc, be, bn, ap, pl, ⟨g1, g2, g3, g4, g5, g6⟩, hI, rfl⟩ := hO
  exact ⟨N, bt, bc, be, bn, ap, pl, ⟨zup_g (by omega) g1, zup_g (by omega) g2, zup_g (by omega) g3, zup_g (by omega) g4, zup_g (by omega) g5, zup_g (by omega) g6⟩, hI, rfl⟩
theorem k_state {G : zG} {n : Nat} {h : zH} {Post : Option Value → Nat → zH → Prop} {p t : Int} {s : Int → Int} (hO : stO h t s) (hp : 0 ≤ p ∧ p < 1344) (ht : iR t) (k : Post (some (vi (s p))) n h) : zMP G mX1_state [.ref 8, vi p, vi t] n h Post := by
  obtain ⟨N, bt, bc, be, bn, ap, pl, ⟨g1, g2, g3, g4, g5, g6⟩, ⟨i1, i2, i3, i4, i5⟩, rfl⟩ := hO
  exact k_X1_state g1 g2 g3 g4 g5 g6 i1 i3 i4 i5 hp ht k
/-! the view's cells -/
def hV (h : zH) (ssz : Int) (fnd : Int) (tm : Int) (wk : Int → Int) (mo : Int → Int) (to : Int → Int) (po : Int → Int) (wp : Int → Int) (sd : Int → Int) (sc : Int → Int) (pr : Int → Int) (sq : Int → Int) (fl : Int → Int) (db : Int → Int) (yu : Int) (yl : Int) : zH := zup (zup (zup (zup (zup (zup (zup (zup (zup (zup (zup (zup (zup h 15 (oView ssz fnd tm)) 17 (aI 35 wk)) 18 (aI 60 mo)) 19 (aI 5 to)) 20 (aI 5 po)) 21 (aZ 16 wp)) 22 (aI 14 sd)) 23 (aI 14 sc)) 24 (aJ 5 pr)) 25 (aJ 5 sq)) 26 (aI 16 fl)) 27 (aI 16 db)) 28 (oFrac yu yl)
theorem hV_15 {h : zH} {ssz : Int} {fnd : Int} {tm : Int} {wk : Int → Int} {mo : Int → Int} {to : Int → Int} {po : Int → Int} {wp : Int → Int} {sd : Int → Int} {sc : Int → Int} {pr : Int → Int} {sq : Int → Int} {fl : Int → Int} {db : Int → Int} {yu : Int} {yl : Int} {ssz2 : Int} {fnd2 : Int} {tm2 : Int} : zup (hV h ssz fnd tm wk mo to po wp sd sc pr sq fl db yu yl) 15 (oView ssz2 fnd2 tm2) = hV h ssz2 fnd2 tm2 wk mo to po wp sd sc pr sq fl db yu yl := by
  funext j
  by_cases hj : j = 15
  · subst hj; rfl
  · rw [zup_n hj]
    simp only [hV, zup, if_neg hj]
theorem hV_17 {h : zH} {ssz : Int} {fnd : Int} {tm : Int} {wk : Int → Int} {mo : Int → Int} {to : Int → Int} {po : Int → Int} {wp : Int → Int} {sd : Int → Int} {sc : Int → Int} {pr : Int → Int} {sq : Int → Int} {fl : Int → Int} {db : Int → Int} {yu : Int} {yl : Int} {wk2 : Int → Int} : zup (hV h ssz fnd tm wk mo to po wp sd sc pr sq fl db yu yl) 17 (aI 35 wk2) = hV h ssz fnd tm wk2 mo to po wp sd sc pr sq fl db yu yl := by
  funext j
  by_cases hj : j = 17
  · subst hj; rfl
  · rw [zup_n hj]
    simp only [hV, zup, if_neg hj]
theorem hV_18 {h : zH} {ssz : Int} {fnd : Int} {tm : Int} {wk : Int → Int} {mo : Int → Int} {to : Int → Int} {po : Int → Int} {wp : Int → Int} {sd : Int → Int} {sc : Int → Int} {pr : Int → Int} {sq : Int → Int} {fl : Int → Int} {db : Int → Int} {yu : Int} {yl : Int} {mo2 : Int → Int} : zup (hV h ssz fnd tm wk mo to po wp sd sc pr sq fl db yu yl) 18 (aI 60 mo2) = hV h ssz fnd tm wk mo2 to po wp sd sc pr sq fl db yu yl := by
  funext j
  by_cases hj : j = 18
  · subst hj; rfl
  · rw [zup_n hj]
    simp only [hV, zup, if_neg hj]
theorem hV_19 {h : zH} {ssz : Int} {fnd : Int} {tm : Int} {wk : Int → Int} {mo : Int → Int} {to : Int → Int} {po : Int → Int} {wp : Int → Int} {sd : Int → Int} {sc : Int → Int} {pr : Int → Int} {sq : Int → Int} {fl : Int → Int} {db : Int → Int} {yu : Int} {yl : Int} {to2 : Int → Int} : zup (hV h ssz fnd tm wk mo to po wp sd sc pr sq fl db yu yl) 19 (aI 5 to2) = hV h ssz fnd tm wk mo to2 po wp sd sc pr sq fl db yu yl := by
  funext j
  by_cases hj : j = 19
  · subst hj; rfl
  · rw [zup_n hj]
    simp only [hV, zup, if_neg hj]
theorem hV_20 {h : zH} {ssz : Int} {fnd : Int} {tm : Int} {wk : Int → Int} {mo : Int → Int} {to : Int → Int} {po : Int → Int} {wp : Int → Int} {sd : Int → Int} {sc : Int → Int} {pr : Int → Int} {sq : Int → Int} {fl : Int → Int} {db : Int → Int} {yu : Int} {yl : Int} {po2 : Int → Int} : zup (hV h ssz fnd tm wk mo to po wp sd sc pr sq fl db yu yl) 20 (aI 5 po2) = hV h ssz fnd tm wk mo to po2 wp sd sc pr sq fl db yu yl := by
  funext j
  by_cases hj : j = 20
  · subst hj; rfl
  · rw [zup_n hj]
    simp only [hV, zup, if_neg hj]
theorem hV_21 {h : zH} {ssz : Int} {fnd : Int} {tm : Int} {wk : Int → Int} {mo : Int → Int} {to : Int → Int} {po : Int → Int} {wp : Int → Int} {sd : Int → Int} {sc : Int → Int} {pr : Int → Int} {sq : Int → Int} {fl : Int → Int} {db : Int → Int} {yu : Int} {yl : Int} {wp2 : Int → Int} : zup (hV h ssz fnd tm wk mo to po wp sd sc pr sq fl db yu yl) 21 (aZ 16 wp2) = hV h ssz fnd tm wk mo to po wp2 sd sc pr sq fl db yu yl := by
  funext j
  by_cases hj : j = 21
  · subst hj; rfl
  · rw [zup_n hj]
    simp only [hV, zup, if_neg hj]
theorem hV_22 {h : zH} {ssz : Int} {fnd : Int} {tm : Int} {wk : Int → Int} {mo : Int → Int} {to : Int → Int} {po : Int → Int} {wp : Int → Int} {sd : Int → Int} {sc : Int → Int} {pr : Int → Int} {sq : Int → Int} {fl : Int → Int} {db : Int → Int} {yu : Int} {yl : Int} {sd2 : Int → Int} : zup (hV h ssz fnd tm wk mo to po wp sd sc pr sq fl db yu yl) 22 (aI 14 sd2) = hV h ssz fnd tm wk mo to po wp sd2 sc pr sq fl db yu yl := by
  funext j
  by_cases hj : j = 22
  · subst hj; rfl
  · rw [zup_n hj]
    simp only [hV, zup, if_neg hj]
theorem hV_23 {h : zH} {ssz : Int} {fnd : Int} {tm : Int} {wk : Int → Int} {mo : Int → Int} {to : Int → Int} {po : Int → Int} {wp : Int → Int} {sd : Int → Int} {sc : Int → Int} {pr : Int → Int} {sq : Int → Int} {fl : Int → Int} {db : Int → Int} {yu : Int} {yl : Int} {sc2 : Int → Int} : zup (hV h ssz fnd tm wk mo to po wp sd sc pr sq fl db yu yl) 23 (aI 14 sc2) = hV h ssz fnd tm wk mo to po wp sd sc2 pr sq fl db yu yl := by
  funext j
  by_cases hj : j = 23
  · subst hj; rfl
  · rw [zup_n hj]
    simp only [hV, zup, if_neg hj]
theorem hV_24 {h : zH} {ssz : Int} {fnd : Int} {tm : Int} {wk : Int → Int} {mo : Int → Int} {to : Int → Int} {po : Int → Int} {wp : Int → Int} {sd : Int → Int} {sc : Int → Int} {pr : Int → Int} {sq : Int → Int} {fl : Int → Int} {db : Int → Int} {yu : Int} {yl : Int} {pr2 : Int → Int} : zup (hV h ssz fnd tm wk mo to po wp sd sc pr sq fl db yu yl) 24 (aJ 5 pr2) = hV h ssz fnd tm wk mo to po wp sd sc pr2 sq fl db yu yl := by
  funext j
  by_cases hj : j = 24
  · subst hj; rfl
  · rw [zup_n hj]
    simp only [hV, zup, if_neg hj]
theorem hV_25 {h : zH} {ssz : Int} {fnd : Int} {tm : Int} {wk : Int → Int} {mo : Int → Int} {to : Int → Int} {po : Int → Int} {wp : Int → Int} {sd : Int → Int} {sc : Int → Int} {pr : Int → Int} {sq : Int → Int} {fl : Int → Int} {db : Int → Int} {yu : Int} {yl : Int} {sq2 : Int → Int} : zup (hV h ssz fnd tm wk mo to po wp sd sc pr sq fl db yu yl) 25 (aJ 5 sq2) = hV h ssz fnd tm wk mo to po wp sd sc pr sq2 fl db yu yl := by
  funext j
  by_cases hj : j = 25
  · subst hj; rfl
  · rw [zup_n hj]
    simp only [hV, zup, if_neg hj]
theorem hV_26 {h : zH} {ssz : Int} {fnd : Int} {tm : Int} {wk : Int → Int} {mo : Int → Int} {to : Int → Int} {po : Int → Int} {wp : Int → Int} {sd : Int → Int} {sc : Int → Int} {pr : Int → Int} {sq : Int → Int} {fl : Int → Int} {db : Int → Int} {yu : Int} {yl : Int} {fl2 : Int → Int} : zup (hV h ssz fnd tm wk mo to po wp sd sc pr sq fl db yu yl) 26 (aI 16 fl2) = hV h ssz fnd tm wk mo to po wp sd sc pr sq fl2 db yu yl := by
  funext j
  by_cases hj : j = 26
  · subst hj; rfl
  · rw [zup_n hj]
    simp only [hV, zup, if_neg hj]
theorem hV_27 {h : zH} {ssz : Int} {fnd : Int} {tm : Int} {wk : Int → Int} {mo : Int → Int} {to : Int → Int} {po : Int → Int} {wp : Int → Int} {sd : Int → Int} {sc : Int → Int} {pr : Int → Int} {sq : Int → Int} {fl : Int → Int} {db : Int → Int} {yu : Int} {yl : Int} {db2 : Int → Int} : zup (hV h ssz fnd tm wk mo to po wp sd sc pr sq fl db yu yl) 27 (aI 16 db2) = hV h ssz fnd tm wk mo to po wp sd sc pr sq fl db2 yu yl := by
  funext j
  by_cases hj : j = 27
  · subst hj; rfl
  · rw [zup_n hj]
    simp only [hV, zup, if_neg hj]
theorem hV_28 {h : zH} {ssz : Int} {fnd : Int} {tm : Int} {wk : Int → Int} {mo : Int → Int} {to : Int → Int} {po : Int → Int} {wp : Int → Int} {sd : Int → Int} {sc : Int → Int} {pr : Int → Int} {sq : Int → Int} {fl : Int → Int} {db : Int → Int} {yu : Int} {yl : Int} {yu2 : Int} {yl2 : Int} : zup (hV h ssz fnd tm wk mo to po wp sd sc pr sq fl db yu yl) 28 (oFrac yu2 yl2) = hV h ssz fnd tm wk mo to po wp sd sc pr sq fl db yu2 yl2 := by
  funext j
  by_cases hj : j = 28
  · subst hj; rfl
  · rw [zup_n hj]
    simp only [hV, zup, if_neg hj]
theorem hV_out {h : zH} {ssz : Int} {fnd : Int} {tm : Int} {wk : Int → Int} {mo : Int → Int} {to : Int → Int} {po : Int → Int} {wp : Int → Int} {sd : Int → Int} {sc : Int → Int} {pr : Int → Int} {sq : Int → Int} {fl : Int → Int} {db : Int → Int} {yu : Int} {yl : Int} {a : Nat} {e : va_E} (ha : a < 15 ∨ a = 16 ∨ 28 < a) : zup (hV h ssz fnd tm wk mo to po wp sd sc pr sq fl db yu yl) a e = hV (zup h a e) ssz fnd tm wk mo to po wp sd sc pr sq fl db yu yl := by
  funext j
  by_cases hj : j = a
  · subst hj
    rw [zup_s]
    simp only [hV, zup]
    rw [if_neg (show ¬ j = 28 by omega), if_neg (show ¬ j = 27 by omega), if_neg (show ¬ j = 26 by omega), if_neg (show ¬ j = 25 by omega), if_neg (show ¬ j = 24 by omega), if_neg (show ¬ j = 23 by omega), if_neg (show ¬ j = 22 by omega), if_neg (show ¬ j = 21 by omega), if_neg (show ¬ j = 20 by omega), if_neg (show ¬ j = 19 by omega), if_neg (show ¬ j = 18 by omega), if_neg (show ¬ j = 17 by omega), if_neg (show ¬ j = 15 by omega), if_pos trivial]
  · rw [zup_n hj]
    simp only [hV, zup, if_neg hj]
theorem hV_self {h : zH} {ssz : Int} {fnd : Int} {tm : Int} {wk : Int → Int} {mo : Int → Int} {to : Int → Int} {po : Int → Int} {wp : Int → Int} {sd : Int → Int} {sc : Int → Int} {pr : Int → Int} {sq : Int → Int} {fl : Int → Int} {db : Int → Int} {yu : Int} {yl : Int} (g15 : h 15 = some (oView ssz fnd tm)) (g17 : h 17 = some (aI 35 wk)) (g18 : h 18 = some (aI 60 mo)) (g19 : h 19 = some (aI 5 to)) (g20 : h 20 = some (aI 5 po)) (g21 : h 21 = some (aZ 16 wp)) (g22 : h 22 = some (aI 14 sd)) (g23 : h 23 = some (aI 14 sc)) (g24 : h 24 = some (aJ 5 pr)) (g25 : h 25 = some (aJ 5 sq)) (g26 : h 26 = some (aI 16 fl)) (g27 : h 27 = some (aI 16 db)) (g28 : h 28 = some (oFrac yu yl)) : hV h ssz fnd tm wk mo to po wp sd sc pr sq fl db yu yl = h := by
  unfold hV
  rw [zup_self g15, zup_self g17, zup_self g18, zup_self g19, zup_self g20, zup_self g21, zup_self g22, zup_self g23, zup_self g24, zup_self g25, zup_self g26, zup_self g27, zup_self g28]
theorem stO_hV {h : zH} {t : Int} {s : Int → Int} {ssz : Int} {fnd : Int} {tm : Int} {wk : Int → Int} {mo : Int → Int} {to : Int → Int} {po : Int → Int} {wp : Int → Int} {sd : Int → Int} {sc : Int → Int} {pr : Int → Int} {sq : Int → Int} {fl : Int → Int} {db : Int → Int} {yu : Int} {yl : Int} (hO : stO h t s) : stO (hV h ssz fnd tm wk mo to po wp sd sc pr sq fl db yu yl) t s := by
  obtain ⟨N, bt, bc, be, bn, ap, pl, ⟨g1, g2, g3, g4, g5, g6⟩, hI, rfl⟩ := hO
  exact ⟨N, bt, bc, be, bn, ap, pl, ⟨g1, g2, g3, g4, g5, g6⟩, hI, rfl⟩
theorem hV_hY {h : zH} {ssz : Int} {fnd : Int} {tm : Int} {wk : Int → Int} {mo : Int → Int} {to : Int → Int} {po : Int → Int} {wp : Int → Int} {sd : Int → Int} {sc : Int → Int} {pr : Int → Int} {sq : Int → Int} {fl : Int → Int} {db : Int → Int} {yu : Int} {yl : Int} {wk2 mo2 to2 po2 : Int → Int} : hY (hV h ssz fnd tm wk mo to po wp sd sc pr sq fl db yu yl) wk2 mo2 to2 po2 = hV h ssz fnd tm wk2 mo2 to2 po2 wp sd sc pr sq fl db yu yl := by
  unfold hY
  rw [hV_17, hV_18, hV_19, hV_20]
