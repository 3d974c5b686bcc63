/-! what the answers are, out of the states s as of a time, the roads rk and their groups gr -/
theorem cntP_congr {q q2 : Int → Prop} : ∀ k : Nat, (∀ j : Int, 0 ≤ j → j < k → (q j ↔ q2 j)) → cntP q k = cntP q2 k
  | 0, _ => rfl
  | k + 1, h => by
    have e := cntP_congr k (fun j a b => h j a (by omega))
    show cntP q k + ind (q k ∧ cntP q k < 4) = cntP q2 k + ind (q2 k ∧ cntP q2 k < 4)
    rw [e, propext (h k (by omega) (by omega))]
theorem sumP_congr {q q2 : Int → Prop} {F F2 : Int → Int} : ∀ k : Nat, (∀ j : Int, 0 ≤ j → j < k → (q j ↔ q2 j)) → (∀ j : Int, 0 ≤ j → j < k → q j → F j = F2 j) → sumP q F k = sumP q2 F2 k
  | 0, _, _ => rfl
  | k + 1, h, hF => by
    have e := sumP_congr k (fun j a b => h j a (by omega)) (fun j a b => hF j a (by omega))
    have e2 := cntP_congr k (fun j a b => h j a (by omega))
    show sumP q F k + ind (q k ∧ cntP q k < 4) * F k = sumP q2 F2 k + ind (q2 k ∧ cntP q2 k < 4) * F2 k
    rw [e, e2, propext (h k (by omega) (by omega))]
    by_cases z : q2 k ∧ cntP q2 k < 4
    · rw [hF k (by omega) (by omega) ((h k (by omega) (by omega)).mpr z.1)]
    · rw [ind_f z, Int.zero_mul, Int.zero_mul]
/-- a road's days -/
def dyS (s : Int → Int) (r : Int) : Int → Int := fun d => s (r * 84 + d)
def qS (s rk gr : Int → Int) (g w : Int) : Int → Prop := fun r => r ≠ w ∧ wpP s rk gr r ∧ gr r = g
noncomputable def WS (s rk gr : Int → Int) (g w i : Int) : Int := sumP (qS s rk gr g w) (fun r => wsum (dyS s r) i 84) 16
noncomputable def MS (s rk gr : Int → Int) (g w i : Int) : Int := sumP (qS s rk gr g w) (fun r => msum (dyS s r) i 84) 16
noncomputable def TS (s rk gr : Int → Int) (g w : Int) : Int := sumP (qS s rk gr g w) (fun r => sumZ (dyS s r) 84) 16
noncomputable def CS (s rk gr : Int → Int) (g w : Int) : Int := cntP (qS s rk gr g w) 16
noncomputable def vS (s rk gr : Int → Int) (g w d : Int) : Int := WS s rk gr g w (d % 7) * MS s rk gr g w (d / 7)
def thS (s rk gr : Int → Int) (g w : Int) : Prop := 0 < CS s rk gr g w ∧ TS s rk gr g w ≠ 0
noncomputable def lmS (s rk gr : Int → Int) (r : Int) : Int := by classical exact if wpP s rk gr r then 0 else 14
noncomputable def PS (s rk gr f : Int → Int) (lim w g : Int) : Int := ind (thS s rk gr g w) * sumD f lim (fun d => vS s rk gr g w d * f d) 84
noncomputable def QS (s rk gr f : Int → Int) (lim w g : Int) : Int := ind (thS s rk gr g w) * sumD f lim (fun d => vS s rk gr g w d * vS s rk gr g w d) 84
noncomputable def fitS (s rk gr : Int → Int) (r k : Int) : Int := rkZ (PS s rk gr (dyS s r) (lmS s rk gr r) (-1)) (QS s rk gr (dyS s r) (lmS s rk gr r) (-1)) k
def yOS (s rk gr : Int → Int) (r : Int) : Prop := wpP s rk gr r ∨ fitS s rk gr r 0 ≠ -1
noncomputable def yTS (s rk gr : Int → Int) (r : Int) : Int := by classical exact if wpP s rk gr r then sumZ (dyS s r) 84 else PS s rk gr (dyS s r) (lmS s rk gr r) (-1) (fitS s rk gr r 0) * (TS s rk gr (fitS s rk gr r 0) (-1) * TS s rk gr (fitS s rk gr r 0) (-1))
noncomputable def yBS (s rk gr : Int → Int) (r : Int) : Int := by classical exact if wpP s rk gr r then 1 else QS s rk gr (dyS s r) (lmS s rk gr r) (-1) (fitS s rk gr r 0)
noncomputable def yVS (s rk gr : Int → Int) (r : Int) : Int := rndZ (rdU (yTS s rk gr r) (yBS s rk gr r)) (rdL (yTS s rk gr r) (yBS s rk gr r))
noncomputable def flowS (s rk gr : Int → Int) (r : Int) : Int := by classical exact if (rk r = 1 ∧ yOS s rk gr r) ∧ yVS s rk gr r ≤ 100000 then yVS s rk gr r else -1
noncomputable def dbtS (s rk gr : Int → Int) (r : Int) : Int := by classical exact if wpP s rk gr r then 1 else 15 - cnD (dyS s r) (lmS s rk gr r) 84
/-! the view's rows are those -/
theorem qS_of {s rk gr wp : Int → Int} (hw : wpS s rk gr 16 wp) {g w : Int} : ∀ j : Int, 0 ≤ j → j < (16 : Nat) → (qG wp gr g w j ↔ qS s rk gr g w j) := fun j a b => by
  unfold qG qS
  rw [hw.2 j a b]
theorem slS_S {s rk gr wp wk mo to po : Int → Int} (hw : wpS s rk gr 16 wp) {g w sl : Int} (h : slS wp gr s g w sl wk mo to po) : (∀ i, 0 ≤ i → i < 7 → wk (sl * 7 + i) = WS s rk gr g w i) ∧ (∀ i, 0 ≤ i → i < 12 → mo (sl * 12 + i) = MS s rk gr g w i) ∧ to sl = TS s rk gr g w ∧ po sl = CS s rk gr g w := by
  obtain ⟨h1, h2, h3, h4⟩ := h
  exact ⟨fun i a b => (h1 i a b).trans (sumP_congr 16 (qS_of hw) (fun _ _ _ _ => rfl)), fun i a b => (h2 i a b).trans (sumP_congr 16 (qS_of hw) (fun _ _ _ _ => rfl)), h3.trans (sumP_congr 16 (qS_of hw) (fun _ _ _ _ => rfl)), h4.trans (cntP_congr 16 (qS_of hw))⟩
theorem lmS_of {s rk gr wp : Int → Int} (hw : wpS s rk gr 16 wp) {r : Int} (hr : 0 ≤ r ∧ r < 16) : limZ wp r = lmS s rk gr r := by
  have := hw.2 r hr.1 hr.2
  unfold limZ lmS
  by_cases q : wp r = 1
  · rw [if_pos q, if_pos (this.mp q)]
  · rw [if_neg q, if_neg (fun z => q (this.mpr z))]
theorem sumD_congr {f : Int → Int} {lim : Int} {F F2 : Int → Int} : ∀ k : Nat, (∀ j : Int, 0 ≤ j → j < k → F j = F2 j) → sumD f lim F k = sumD f lim F2 k
  | 0, _ => rfl
  | k + 1, h => by
    show sumD f lim F k + ind (cnD f lim k < lim ∧ 0 ≤ f k) * F k = sumD f lim F2 k + ind (cnD f lim k < lim ∧ 0 ≤ f k) * F2 k
    rw [sumD_congr k (fun j a b => h j a (by omega)), h k (by omega) (by omega)]
theorem PQ_of {s rk gr wp wk mo to po : Int → Int} (hw : wpS s rk gr 16 wp) {g w sl : Int} (h : slS wp gr s g w sl wk mo to po) (f : Int → Int) (lim : Int) : PZ wk mo to po f lim sl = PS s rk gr f lim w g ∧ QZ wk mo to po f lim sl = QS s rk gr f lim w g := by
  obtain ⟨h1, h2, h3, h4⟩ := slS_S hw h
  have hv : ∀ d : Int, 0 ≤ d → d < (84 : Nat) → vlZ wk mo sl d = vS s rk gr g w d := fun d a b => by
    unfold vlZ vS
    rw [h1 _ (by omega) (by omega), h2 _ (by omega) (by omega)]
  unfold PZ QZ PS QS thS
  rw [h3, h4]
  exact ⟨by rw [sumD_congr 84 (fun d a b => by rw [hv d a b])], by rw [sumD_congr 84 (fun d a b => by rw [hv d a b])]⟩
theorem fit_of {s rk gr wp wk mo to po : Int → Int} (hv : vwS s rk gr wp wk mo to po) {r : Int} (hr : 0 ≤ r ∧ r < 16) (k : Int) : rkZ (PZ wk mo to po (fun d => s (r * 84 + d)) (limZ wp r)) (QZ wk mo to po (fun d => s (r * 84 + d)) (limZ wp r)) k = fitS s rk gr r k := by
  unfold fitS
  rw [lmS_of hv.1 hr]
  exact rkZ_congr (fun g a b => PQ_of hv.1 (hv.2 g a b) (dyS s r) (lmS s rk gr r))
theorem yr_of {s rk gr wp wk mo to po : Int → Int} (hv : vwS s rk gr wp wk mo to po) {r : Int} (hr : 0 ≤ r ∧ r < 16) : (yrO wp wk mo to po s r ↔ yOS s rk gr r) ∧ (yrO wp wk mo to po s r → yrT wp wk mo to po s r = yTS s rk gr r ∧ yrB wp wk mo to po s r = yBS s rk gr r) := by
  have hwr := hv.1.2 r hr.1 hr.2
  have hf : bsZ wp wk mo to po s r = fitS s rk gr r 0 := fit_of hv hr 0
  refine ⟨?_, fun ho => ?_⟩
  · unfold yrO yOS
    rw [hf, hwr]
  · unfold yrT yrB yTS yBS
    by_cases q : wp r = 1
    · rw [if_pos q, if_pos (hwr.mp q), if_pos q, if_pos (hwr.mp q)]
      exact ⟨rfl, rfl⟩
    · rw [if_neg q, if_neg (fun z => q (hwr.mpr z)), if_neg q, if_neg (fun z => q (hwr.mpr z)), hf]
      have hb : fitS s rk gr r 0 ≠ -1 := by
        rcases ho with z | z
        · exact absurd z q
        · rw [← hf]; exact z
      have hR := fs4_R (fun g => 0 < QS s rk gr (dyS s r) (lmS s rk gr r) (-1) g ∧ ahZ (PS s rk gr (dyS s r) (lmS s rk gr r) (-1)) (QS s rk gr (dyS s r) (lmS s rk gr r) (-1)) g = 0)
      have hR : -1 ≤ fitS s rk gr r 0 ∧ fitS s rk gr r 0 < 4 := hR
      have hsl := hv.2 (fitS s rk gr r 0) (by omega) (by omega)
      have e := PQ_of hv.1 hsl (dyS s r) (lmS s rk gr r)
      have e3 := (slS_S hv.1 hsl).2.2.1
      rw [lmS_of hv.1 hr]
      exact ⟨by rw [show PZ wk mo to po (fun d => s (r * 84 + d)) (lmS s rk gr r) (fitS s rk gr r 0) = PS s rk gr (dyS s r) (lmS s rk gr r) (-1) (fitS s rk gr r 0) from e.1, e3], e.2⟩
theorem fl_of {s rk gr wp wk mo to po : Int → Int} (hv : vwS s rk gr wp wk mo to po) {r : Int} (hr : 0 ≤ r ∧ r < 16) : flZ rk wp wk mo to po s r = flowS s rk gr r ∧ dbZ wp s r = dbtS s rk gr r := by
  obtain ⟨h1, h2⟩ := yr_of hv hr
  refine ⟨?_, ?_⟩
  · unfold flZ flowS
    by_cases q : rk r = 1 ∧ yrO wp wk mo to po s r
    · have e : yrV wp wk mo to po s r = yVS s rk gr r := by unfold yrV yVS; rw [(h2 q.2).1, (h2 q.2).2]
      have q' : rk r = 1 ∧ yOS s rk gr r := ⟨q.1, h1.mp q.2⟩
      rw [e]
      by_cases z : yVS s rk gr r ≤ 100000
      · rw [if_pos ⟨q, z⟩, if_pos ⟨q', z⟩]
      · rw [if_neg (fun u => z u.2), if_neg (fun u => z u.2)]
    · rw [if_neg (fun u => q u.1), if_neg (fun u => q ⟨u.1.1, h1.mpr u.1.2⟩)]
  · have hwr := hv.1.2 r hr.1 hr.2
    unfold dbZ dbtS
    rw [lmS_of hv.1 hr]
    by_cases q : wp r = 1
    · rw [if_pos q, if_pos (hwr.mp q)]
    · rw [if_neg q, if_neg (fun z => q (hwr.mpr z))]; rfl
/-- bounds of the sums -/
theorem S_R {s rk gr : Int → Int} (hs : ∀ p, s p ≤ 50) (g w : Int) : (∀ i, 0 ≤ i → i < 7 → 0 ≤ WS s rk gr g w i ∧ WS s rk gr g w i ≤ 2400) ∧ (∀ i, 0 ≤ i → i < 12 → 0 ≤ MS s rk gr g w i ∧ MS s rk gr g w i ≤ 1400) ∧ (0 ≤ TS s rk gr g w ∧ TS s rk gr g w ≤ 16800) ∧ (0 ≤ CS s rk gr g w ∧ CS s rk gr g w ≤ 4) := by
  have hc := cntP_R (qS s rk gr g w) 16
  have hq : ∀ j : Int, 0 ≤ j → j < (16 : Nat) → qS s rk gr g w j → ∀ d : Int, 0 ≤ d → d < 84 → 0 ≤ dyS s j d ∧ dyS s j d ≤ 50 := fun j a b q d c e => ⟨q.2.1.2 d c e, hs _⟩
  refine ⟨fun i a b => ?_, fun i a b => ?_, ?_, ?_⟩
  · have := sumP_R (q := qS s rk gr g w) (F := fun r => wsum (dyS s r) i 84) (B := 600) (by omega) 16 (fun j c d q => wsum_R (hq j c d q) ⟨a, b⟩)
    unfold WS; omega
  · have := sumP_R (q := qS s rk gr g w) (F := fun r => msum (dyS s r) i 84) (B := 350) (by omega) 16 (fun j c d q => msum_R (hq j c d q) ⟨a, b⟩)
    unfold MS; omega
  · have := sumP_R (q := qS s rk gr g w) (F := fun r => sumZ (dyS s r) 84) (B := 4200) (by omega) 16 (fun j c d q => by
      have := sumZ_R (f := dyS s j) (B := 50) 84 (fun x y z => hq j c d q x y (by omega))
      omega)
    unfold TS; omega
  · unfold CS; omega
