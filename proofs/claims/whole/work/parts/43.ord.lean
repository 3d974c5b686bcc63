/-! the reference's fits and their order -/
theorem sumD_bd {f : Int → Int} {lim : Int} {F : Int → Int} {B : Int} (hB : 0 ≤ B) (hl : 0 ≤ lim) : ∀ k : Nat, (∀ j : Int, 0 ≤ j → j < k → 0 ≤ f j → 0 ≤ F j ∧ F j ≤ B) → 0 ≤ sumD f lim F k ∧ sumD f lim F k ≤ cnD f lim k * B
  | 0, _ => by simp [sumD, cnD]
  | k + 1, h => by
    have h1 := sumD_bd hB hl k (fun j a b => h j a (by omega))
    by_cases e : cnD f lim k < lim ∧ 0 ≤ f k
    · have h2 := h k (by omega) (by omega) e.2
      rw [show sumD f lim F (k + 1) = sumD f lim F k + ind (cnD f lim k < lim ∧ 0 ≤ f k) * F k from rfl, show cnD f lim (k + 1) = cnD f lim k + ind (cnD f lim k < lim ∧ 0 ≤ f k) from rfl, ind_t e, Int.one_mul, Int.add_mul, Int.one_mul]
      omega
    · rw [show sumD f lim F (k + 1) = sumD f lim F k + ind (cnD f lim k < lim ∧ 0 ≤ f k) * F k from rfl, show cnD f lim (k + 1) = cnD f lim k + ind (cnD f lim k < lim ∧ 0 ≤ f k) from rfl, ind_f e, Int.zero_mul, Int.add_zero, Int.add_zero]
      exact h1
theorem cnD_mono {f : Int → Int} {lim : Int} {k : Nat} : ∀ m : Nat, k ≤ m → cnD f lim k ≤ cnD f lim m := by
  intro m hm
  induction m with
  | zero =>
    obtain rfl : k = 0 := by omega
    exact Int.le_refl _
  | succ m ih =>
    by_cases e : k = m + 1
    · rw [e]; exact Int.le_refl _
    · have h1 := ih (by omega)
      have h2 := ind_R (cnD f lim m < lim ∧ 0 ≤ f m)
      have h3 : cnD f lim (m + 1) = cnD f lim m + ind (cnD f lim m < lim ∧ 0 ≤ f m) := rfl
      omega
/-- as many as are there: the same -/
theorem cnD_same {f : Int → Int} {lim : Int} (hl : 0 ≤ lim) {K : Nat} : ∀ k : Nat, k ≤ K → cnD f (cnD f lim K) k = cnD f lim k ∧ ∀ F, sumD f (cnD f lim K) F k = sumD f lim F k
  | 0, _ => ⟨rfl, fun _ => rfl⟩
  | k + 1, h => by
    obtain ⟨i1, i2⟩ := cnD_same hl (f := f) (K := K) k (by omega)
    have hm := cnD_mono (f := f) (lim := lim) (k := k + 1) K h
    have hR := (cnD_R f hl K).2.1
    have hs : cnD f lim (k + 1) = cnD f lim k + ind (cnD f lim k < lim ∧ 0 ≤ f k) := rfl
    have e : (cnD f lim k < cnD f lim K ∧ 0 ≤ f k) ↔ (cnD f lim k < lim ∧ 0 ≤ f k) := by
      constructor
      · intro z; exact ⟨by omega, z.2⟩
      · intro z
        rw [ind_t z] at hs
        exact ⟨by omega, z.2⟩
    refine ⟨?_, fun F => ?_⟩
    · show cnD f (cnD f lim K) k + ind (cnD f (cnD f lim K) k < cnD f lim K ∧ 0 ≤ f k) = cnD f lim k + ind (cnD f lim k < lim ∧ 0 ≤ f k)
      rw [i1, propext e]
    · show sumD f (cnD f lim K) F k + ind (cnD f (cnD f lim K) k < cnD f lim K ∧ 0 ≤ f k) * F k = sumD f lim F k + ind (cnD f lim k < lim ∧ 0 ≤ f k) * F k
      rw [i1, i2, propext e]
/-- the groups in order: pr, sq their products and squares; what lies before m -/
def odJ (pr sq : Int → Int) (m n : Int) (od : Int → Int) : Prop := (0 ≤ n ∧ n ≤ m) ∧ (∀ i, 0 ≤ i → i < n → (0 ≤ od i ∧ od i < m) ∧ 0 < sq (od i)) ∧ (∀ i j, 0 ≤ i → i < j → j < n → ahP pr sq (od j) (od i)) ∧ ∀ o, 0 ≤ o → o < m → 0 < sq o → ∃ i, 0 ≤ i ∧ i < n ∧ od i = o
theorem sgZ_pos {x : Int} : 0 < sgZ x ↔ 0 < x := by unfold sgZ; (repeat' split) <;> omega
theorem sgZ_zero {x : Int} : sgZ x = 0 ↔ x = 0 := by unfold sgZ; (repeat' split) <;> omega
theorem sumZ_a (f g : Int → Int) : ∀ n : Nat, sumZ (fun i => f i + g i) n = sumZ f n + sumZ g n
  | 0 => rfl
  | n + 1 => by
    show sumZ (fun i => f i + g i) n + (f n + g n) = sumZ f n + f n + (sumZ g n + g n)
    rw [sumZ_a f g n]; omega
theorem ahP_asym {pr sq : Int → Int} {g o : Int} (h : ahP pr sq g o) : ¬ ahP pr sq o g := fun z => by
  obtain ⟨h1, h2, h3⟩ := h
  obtain ⟨z1, z2, z3⟩ := z
  rw [sgZ_pos, sgZ_zero] at h3 z3
  omega
theorem od_count {pr sq od : Int → Int} {n : Int} (h : odJ pr sq 4 n od) : ∀ k : Nat, (k : Int) ≤ n → sumZ (fun x => ind (∃ i, 0 ≤ i ∧ i < (k : Int) ∧ od i = x)) 4 = k
  | 0, _ => sumZ_0 (fun j _ _ => ind_f (fun z => by obtain ⟨i, a, b, -⟩ := z; omega))
  | k + 1, hk => by
    have ih := od_count h k (by omega)
    obtain ⟨hn, ha, hb, hc⟩ := h
    have e : ∀ x : Int, 0 ≤ x → x < (4 : Nat) → ind (∃ i, 0 ≤ i ∧ i < ((k + 1 : Nat) : Int) ∧ od i = x) = ind (∃ i, 0 ≤ i ∧ i < (k : Int) ∧ od i = x) + ind (od k = x) := fun x _ _ => by
      by_cases q : od k = x
      · rw [ind_t q, ind_t ⟨k, by omega, by omega, q⟩, ind_f (fun z => by
          obtain ⟨i, a, b, c⟩ := z
          have := (hb i k a b (by omega)).1
          exact this (c.trans q.symm))]; rfl
      · rw [ind_f q, ind_iff (Q := ∃ i, 0 ≤ i ∧ i < (k : Int) ∧ od i = x) ⟨fun z => by
          obtain ⟨i, a, b, c⟩ := z
          exact ⟨i, a, by by_cases e : i = k; (exact absurd (e ▸ c) q); omega, c⟩, fun z => by
          obtain ⟨i, a, b, c⟩ := z
          exact ⟨i, a, by omega, c⟩⟩]; omega
    rw [sumZ_congr 4 e, sumZ_a, ih]
    have hk4 := (ha k (by omega) (by omega)).1
    have : od k = 0 ∨ od k = 1 ∨ od k = 2 ∨ od k = 3 := by omega
    have e1 : sumZ (fun x => ind (od k = x)) 4 = 1 := by
      show 0 + ind (od k = ((0 : Nat) : Int)) + ind (od k = ((1 : Nat) : Int)) + ind (od k = ((2 : Nat) : Int)) + ind (od k = ((3 : Nat) : Int)) = 1
      rcases this with q | q | q | q
      · rw [ind_t (by omega), ind_f (by omega), ind_f (by omega), ind_f (by omega)]; rfl
      · rw [ind_f (by omega), ind_t (by omega), ind_f (by omega), ind_f (by omega)]; rfl
      · rw [ind_f (by omega), ind_f (by omega), ind_t (by omega), ind_f (by omega)]; rfl
      · rw [ind_f (by omega), ind_f (by omega), ind_f (by omega), ind_t (by omega)]; rfl
    rw [e1]; omega
theorem od_ah {pr sq od : Int → Int} {n : Int} (h : odJ pr sq 4 n od) {k : Nat} (hk : (k : Int) < n) : ahZ pr sq (od k) = k := by
  refine Eq.trans ?_ (od_count h k (by omega))
  obtain ⟨hn, ha, hb, hc⟩ := h
  refine sumZ_congr 4 (fun x x0 x4 => ind_iff ⟨fun z => ?_, fun z => ?_⟩)
  · obtain ⟨i, i0, i1, i2⟩ := hc x x0 (by omega) z.2.1
    refine ⟨i, i0, ?_, i2⟩
    by_cases e : i < (k : Int)
    · exact e
    · exfalso
      by_cases e2 : i = k
      · exact z.1 (by rw [← i2, e2])
      · have := hb k i (by omega) (by omega) i1
        rw [i2] at this
        exact ahP_asym z this
  · obtain ⟨i, i0, i1, i2⟩ := z
    rw [← i2]
    exact hb i k i0 i1 hk
theorem od_rk {pr sq od : Int → Int} {n : Int} (h : odJ pr sq 4 n od) : (∀ k, 0 ≤ k → k < n → rkZ pr sq k = od k) ∧ ∀ k, n ≤ k → rkZ pr sq k = -1 := by
  have key : ∀ g, 0 ≤ g → g < 4 → 0 < sq g → ∃ i, 0 ≤ i ∧ i < n ∧ od i = g ∧ ahZ pr sq g = i := fun g g0 g4 hg => by
    obtain ⟨i, i0, i1, i2⟩ := h.2.2.2 g g0 g4 hg
    have := od_ah h (k := i.toNat) (by omega)
    rw [show ((i.toNat : Nat) : Int) = i by omega, i2] at this
    exact ⟨i, i0, i1, i2, this⟩
  refine ⟨fun k k0 kn => ?_, fun k kn => ?_⟩
  · have hr := h.2.1 k k0 kn
    refine fs4_at hr.1 (fun g g0 g1 z => ?_) ⟨hr.2, ?_⟩
    · obtain ⟨i, i0, i1, i2, i3⟩ := key g g0 (by omega) z.1
      have e : i = k := by rw [← i3]; exact z.2
      rw [e] at i2
      omega
    · have := od_ah h (k := k.toNat) (by omega)
      rw [show ((k.toNat : Nat) : Int) = k by omega] at this
      exact this
  · refine fs4_none (fun g g0 g4 z => ?_)
    obtain ⟨i, i0, i1, i2, i3⟩ := key g g0 g4 z.1
    have := z.2
    omega
theorem gt_trans {a b c d e f : Int} (hb : 0 < b) (hd : 0 < d) (hf : 0 < f) (h1 : c * b ≤ a * d) (h2 : e * d ≤ c * f) : e * b ≤ a * f := by
  have h3 := Int.mul_le_mul_of_nonneg_right h1 (Int.le_of_lt hf)
  have h4 := Int.mul_le_mul_of_nonneg_right h2 (Int.le_of_lt hb)
  have h5 : d * (e * b) ≤ d * (a * f) := by
    have e1 : d * (e * b) = e * d * b := by grind
    have e2 : d * (a * f) = a * d * f := by grind
    have e3 : c * b * f = c * f * b := by grind
    omega
  exact Int.le_of_mul_le_mul_left h5 hd
/-- one more group, put in behind those that fit no worse -/
theorem od_ins {pr sq od od2 : Int → Int} {m n a : Int} (h : odJ pr sq m n od) (hm : 0 ≤ m) (hq : 0 < sq m) (ha : 0 ≤ a ∧ a ≤ n) (h1 : ∀ i, 0 ≤ i → i < a → od2 i = od i) (h2 : ∀ i, a ≤ i → i < n → od2 (i + 1) = od i) (h0 : od2 a = m) (hl : ∀ i, a ≤ i → i < n → pr (od i) * pr (od i) * sq m < pr m * pr m * sq (od i)) (hx : a = 0 ∨ ¬ pr (od (a - 1)) * pr (od (a - 1)) * sq m < pr m * pr m * sq (od (a - 1))) : odJ pr sq (m + 1) (n + 1) od2 := by
  obtain ⟨hn, hj1, hj2, hj3⟩ := h
  have hge : ∀ i, 0 ≤ i → i < a → pr m * pr m * sq (od i) ≤ pr (od i) * pr (od i) * sq m := fun i i0 i1 => by
    have q : ¬ pr (od (a - 1)) * pr (od (a - 1)) * sq m < pr m * pr m * sq (od (a - 1)) := by
      rcases hx with z | z
      · omega
      · exact z
    by_cases e : i = a - 1
    · rw [e]; omega
    · have hb := (hj2 i (a - 1) i0 (by omega) (by omega)).2.2
      rw [sgZ_pos, sgZ_zero] at hb
      exact gt_trans (c := pr (od (a - 1)) * pr (od (a - 1))) (hj1 i i0 (by omega)).2 (hj1 (a - 1) (by omega) (by omega)).2 hq (by omega) (by omega)
  refine ⟨by omega, fun i i0 i1 => ?_, fun i j i0 ij j1 => ?_, fun o o0 o1 ho => ?_⟩
  · by_cases q : i < a
    · rw [h1 i i0 q]; have := hj1 i i0 (by omega); exact ⟨by omega, this.2⟩
    · by_cases e : i = a
      · rw [e, h0]; exact ⟨by omega, hq⟩
      · have := h2 (i - 1) (by omega) (by omega)
        rw [show i - 1 + 1 = i by omega] at this
        rw [this]
        have := hj1 (i - 1) (by omega) (by omega)
        exact ⟨by omega, this.2⟩
  · have hd : ∀ j, a < j → j < n + 1 → od2 j = od (j - 1) := fun j a1 a2 => by
      have := h2 (j - 1) (by omega) (by omega)
      rw [show j - 1 + 1 = j by omega] at this
      exact this
    by_cases q : j < a
    · rw [h1 i i0 (by omega), h1 j (by omega) q]
      exact hj2 i j i0 ij (by omega)
    · by_cases e : j = a
      · subst e
        rw [h0, h1 i i0 ij]
        have hb := hj1 i i0 (by omega)
        have hg := hge i i0 ij
        refine ⟨by omega, hb.2, ?_⟩
        rw [sgZ_pos, sgZ_zero]
        omega
      · rw [hd j (by omega) j1]
        by_cases q2 : i < a
        · rw [h1 i i0 q2]
          exact hj2 i (j - 1) i0 (by omega) (by omega)
        · by_cases e2 : i = a
          · subst e2
            rw [h0]
            have hb := hj1 (j - 1) (by omega) (by omega)
            have hg := hl (j - 1) (by omega) (by omega)
            refine ⟨by omega, hq, ?_⟩
            rw [sgZ_pos, sgZ_zero]
            omega
          · rw [hd i (by omega) (by omega)]
            exact hj2 (i - 1) (j - 1) (by omega) (by omega) (by omega)
  · by_cases e : o = m
    · exact ⟨a, by omega, by omega, by rw [h0, e]⟩
    · obtain ⟨i, i0, i1, i2⟩ := hj3 o o0 (by omega) ho
      by_cases q : i < a
      · exact ⟨i, i0, by omega, by rw [h1 i i0 q, i2]⟩
      · exact ⟨i + 1, by omega, by omega, by rw [h2 i (by omega) i1, i2]⟩
theorem od_skip {pr sq od : Int → Int} {m n : Int} (h : odJ pr sq m n od) (hq : ¬ 0 < sq m) : odJ pr sq (m + 1) n od := by
  obtain ⟨hn, hj1, hj2, hj3⟩ := h
  refine ⟨by omega, fun i a b => ⟨by have := hj1 i a b; omega, (hj1 i a b).2⟩, hj2, fun o o0 o1 ho => ?_⟩
  by_cases e : o = m
  · rw [e] at ho; exact absurd ho hq
  · exact hj3 o o0 (by omega) ho
