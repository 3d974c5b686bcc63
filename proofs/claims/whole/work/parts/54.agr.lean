/-! the reference's way to the agreed flows gives the same quotient -/
def exT (u : Int → Int) : Int → Int := fun c => if c < 4 then u c else 0
theorem exT_be {u : Int → Int} {x y : Int} (hx : 0 ≤ x ∧ x < 8) (hy : 0 ≤ y ∧ y < 8) : exT u y - exT u x = d4 u (beZ x y) := d4_be (fun c _ b => if_pos b) (fun c a _ => if_neg (by omega)) hx hy
theorem exT_in {u : Int → Int} {c : Int} (h : c < 4) : exT u c = u c := if_pos h
section SU
variable {u f : Int → Int} {p0 p1 p2 p3 : Int}
theorem su1 (h : 0 ≤ p0 ∧ p0 < 4) (hz : ∀ c, 0 ≤ c → c < 4 → c ≠ p0 → u c = 0) : d4 u f = u p0 * f p0 := by
  have z0 := hz 0 (by omega) (by omega)
  have z1 := hz 1 (by omega) (by omega)
  have z2 := hz 2 (by omega) (by omega)
  have z3 := hz 3 (by omega) (by omega)
  have : p0 = 0 ∨ p0 = 1 ∨ p0 = 2 ∨ p0 = 3 := by omega
  unfold d4
  rcases this with rfl | rfl | rfl | rfl <;> grind
theorem su2 (h : 0 ≤ p0 ∧ p0 < p1 ∧ p1 < 4) (hz : ∀ c, 0 ≤ c → c < 4 → c ≠ p0 → c ≠ p1 → u c = 0) : d4 u f = u p0 * f p0 + u p1 * f p1 := by
  have z0 := hz 0 (by omega) (by omega)
  have z1 := hz 1 (by omega) (by omega)
  have z2 := hz 2 (by omega) (by omega)
  have z3 := hz 3 (by omega) (by omega)
  have : (p0 = 0 ∧ p1 = 1) ∨ (p0 = 0 ∧ p1 = 2) ∨ (p0 = 0 ∧ p1 = 3) ∨ (p0 = 1 ∧ p1 = 2) ∨ (p0 = 1 ∧ p1 = 3) ∨ (p0 = 2 ∧ p1 = 3) := by omega
  unfold d4
  rcases this with ⟨rfl, rfl⟩ | ⟨rfl, rfl⟩ | ⟨rfl, rfl⟩ | ⟨rfl, rfl⟩ | ⟨rfl, rfl⟩ | ⟨rfl, rfl⟩ <;> grind
theorem su3 (h : 0 ≤ p0 ∧ p0 < p1 ∧ p1 < p2 ∧ p2 < 4) (hz : ∀ c, 0 ≤ c → c < 4 → c ≠ p0 → c ≠ p1 → c ≠ p2 → u c = 0) : d4 u f = u p0 * f p0 + u p1 * f p1 + u p2 * f p2 := by
  have z0 := hz 0 (by omega) (by omega)
  have z1 := hz 1 (by omega) (by omega)
  have z2 := hz 2 (by omega) (by omega)
  have z3 := hz 3 (by omega) (by omega)
  have : (p0 = 0 ∧ p1 = 1 ∧ p2 = 2) ∨ (p0 = 0 ∧ p1 = 1 ∧ p2 = 3) ∨ (p0 = 0 ∧ p1 = 2 ∧ p2 = 3) ∨ (p0 = 1 ∧ p1 = 2 ∧ p2 = 3) := by omega
  unfold d4
  rcases this with ⟨rfl, rfl, rfl⟩ | ⟨rfl, rfl, rfl⟩ | ⟨rfl, rfl, rfl⟩ | ⟨rfl, rfl, rfl⟩ <;> grind
theorem su4 (h : 0 ≤ p0 ∧ p0 < p1 ∧ p1 < p2 ∧ p2 < p3 ∧ p3 < 4) : d4 u f = u p0 * f p0 + u p1 * f p1 + u p2 * f p2 + u p3 * f p3 := by
  have : p0 = 0 ∧ p1 = 1 ∧ p2 = 2 ∧ p3 = 3 := by omega
  obtain ⟨rfl, rfl, rfl, rfl⟩ := this
  rfl
end SU
section PO
variable {a : Int → Int → Int} {q : Int → Int} {p0 p1 p2 p3 : Int}
def pdZ (a : Int → Int → Int) (q : Int → Int) : Prop := ∀ v : Int → Int, (∀ c, 0 ≤ c → c < 4 → q c = -2 → v c = 0) → ∀ c, 0 ≤ c → c < 4 → v c ≠ 0 → 0 < d4 (rA a v) v
theorem pos_of {x y : Int} (hx : 0 < x) (h : 0 < x * y) : 0 < y := by
  by_cases z : 0 < y
  · exact z
  · have := Int.mul_nonneg (Int.le_of_lt hx) (show 0 ≤ -y by omega)
    rw [Int.mul_neg] at this
    omega
theorem po1 (hp : pdZ a q) (h : 0 ≤ p0 ∧ p0 < 4) (g0 : q p0 ≠ -2) : 0 < a p0 p0 := by
  have hz : ∀ c, 0 ≤ c → c < 4 → c ≠ p0 → (fun c => if c = p0 then (1 : Int) else 0) c = 0 := fun c _ _ e => if_neg e
  have := hp (fun c => if c = p0 then 1 else 0) (fun c _ _ e => if_neg (fun z => g0 (by rw [← z]; exact e))) p0 h.1 h.2 (by show (if p0 = p0 then (1 : Int) else 0) ≠ 0; rw [if_pos rfl]; decide)
  rw [d4_c, su1 h hz] at this
  unfold rA at this
  rw [su1 h hz] at this
  simp only [if_pos] at this
  omega
theorem po2 (hp : pdZ a q) (h : 0 ≤ p0 ∧ p0 < p1 ∧ p1 < 4) (g0 : q p0 ≠ -2) (g1 : q p1 ≠ -2) : 0 < m2 a p0 p1 p0 p1 := by
  have h1 := po1 hp ⟨h.1, by omega⟩ g0
  have n1 : p1 ≠ p0 := by omega
  have hz : ∀ c, 0 ≤ c → c < 4 → c ≠ p0 → c ≠ p1 → (fun c => if c = p0 then -a p1 p0 else if c = p1 then a p0 p0 else 0) c = 0 := fun c _ _ e e1 => by show (if c = p0 then _ else _) = _; rw [if_neg e, if_neg e1]
  have := hp (fun c => if c = p0 then -a p1 p0 else if c = p1 then a p0 p0 else 0) (fun c a b e => hz c a b (fun z => g0 (by rw [← z]; exact e)) (fun z => g1 (by rw [← z]; exact e))) p1 (by omega) h.2.2 (by show (if p1 = p0 then _ else if p1 = p1 then _ else _) ≠ _; rw [if_neg n1, if_pos rfl]; omega)
  rw [d4_c, su2 h hz] at this
  unfold rA at this
  rw [su2 h hz, su2 h hz] at this
  simp only [if_pos, if_neg n1] at this
  refine pos_of h1 ?_
  have e : a p0 p0 * m2 a p0 p1 p0 p1 = -a p1 p0 * (-a p1 p0 * a p0 p0 + a p0 p0 * a p1 p0) + a p0 p0 * (-a p1 p0 * a p0 p1 + a p0 p0 * a p1 p1) := by unfold m2; grind
  rw [e]; exact this
theorem po3 (hp : pdZ a q) (h : 0 ≤ p0 ∧ p0 < p1 ∧ p1 < p2 ∧ p2 < 4) (g0 : q p0 ≠ -2) (g1 : q p1 ≠ -2) (g2 : q p2 ≠ -2) : 0 < m3 a p0 p1 p2 p0 p1 p2 := by
  have h1 := po2 hp ⟨h.1, h.2.1, by omega⟩ g0 g1
  have n1 : p1 ≠ p0 := by omega
  have n2 : p2 ≠ p0 := by omega
  have n3 : p2 ≠ p1 := by omega
  have hz : ∀ c, 0 ≤ c → c < 4 → c ≠ p0 → c ≠ p1 → c ≠ p2 → (fun c => if c = p0 then m2 a p1 p2 p0 p1 else if c = p1 then -m2 a p0 p2 p0 p1 else if c = p2 then m2 a p0 p1 p0 p1 else 0) c = 0 := fun c _ _ e e1 e2 => by show (if c = p0 then _ else _) = _; rw [if_neg e, if_neg e1, if_neg e2]
  have := hp (fun c => if c = p0 then m2 a p1 p2 p0 p1 else if c = p1 then -m2 a p0 p2 p0 p1 else if c = p2 then m2 a p0 p1 p0 p1 else 0) (fun c a b e => hz c a b (fun z => g0 (by rw [← z]; exact e)) (fun z => g1 (by rw [← z]; exact e)) (fun z => g2 (by rw [← z]; exact e))) p2 (by omega) h.2.2.2 (by show (if p2 = p0 then _ else if p2 = p1 then _ else if p2 = p2 then _ else _) ≠ _; rw [if_neg n2, if_neg n3, if_pos rfl]; omega)
  rw [d4_c, su3 h hz] at this
  unfold rA at this
  rw [su3 h hz, su3 h hz, su3 h hz] at this
  simp only [if_pos, if_neg n1, if_neg n2, if_neg n3] at this
  refine pos_of h1 ?_
  have e0 : m2 a p1 p2 p0 p1 * a p0 p0 + -m2 a p0 p2 p0 p1 * a p1 p0 + m2 a p0 p1 p0 p1 * a p2 p0 = 0 := by unfold m2; grind
  have e1 : m2 a p1 p2 p0 p1 * a p0 p1 + -m2 a p0 p2 p0 p1 * a p1 p1 + m2 a p0 p1 p0 p1 * a p2 p1 = 0 := by unfold m2; grind
  have e2 : m2 a p1 p2 p0 p1 * a p0 p2 + -m2 a p0 p2 p0 p1 * a p1 p2 + m2 a p0 p1 p0 p1 * a p2 p2 = m3 a p0 p1 p2 p0 p1 p2 := by unfold m3 m2; grind
  rw [e0, e1, e2, Int.mul_zero, Int.mul_zero, Int.zero_add, Int.zero_add] at this
  exact this
theorem po4 (hp : pdZ a q) (h : 0 ≤ p0 ∧ p0 < p1 ∧ p1 < p2 ∧ p2 < p3 ∧ p3 < 4) (g0 : q p0 ≠ -2) (g1 : q p1 ≠ -2) (g2 : q p2 ≠ -2) (g3 : q p3 ≠ -2) : 0 < m4 a p0 p1 p2 p3 p0 p1 p2 p3 := by
  have h1 := po3 hp ⟨h.1, h.2.1, h.2.2.1, by omega⟩ g0 g1 g2
  have n1 : p1 ≠ p0 := by omega
  have n2 : p2 ≠ p0 := by omega
  have n3 : p2 ≠ p1 := by omega
  have n4 : p3 ≠ p0 := by omega
  have n5 : p3 ≠ p1 := by omega
  have n6 : p3 ≠ p2 := by omega
  have hz : ∀ c, 0 ≤ c → c < 4 → c ≠ p0 → c ≠ p1 → c ≠ p2 → c ≠ p3 → (fun c => if c = p0 then -m3 a p1 p2 p3 p0 p1 p2 else if c = p1 then m3 a p0 p2 p3 p0 p1 p2 else if c = p2 then -m3 a p0 p1 p3 p0 p1 p2 else if c = p3 then m3 a p0 p1 p2 p0 p1 p2 else 0) c = 0 := fun c _ _ e e1 e2 e3 => by show (if c = p0 then _ else _) = _; rw [if_neg e, if_neg e1, if_neg e2, if_neg e3]
  have := hp (fun c => if c = p0 then -m3 a p1 p2 p3 p0 p1 p2 else if c = p1 then m3 a p0 p2 p3 p0 p1 p2 else if c = p2 then -m3 a p0 p1 p3 p0 p1 p2 else if c = p3 then m3 a p0 p1 p2 p0 p1 p2 else 0) (fun c a b e => hz c a b (fun z => g0 (by rw [← z]; exact e)) (fun z => g1 (by rw [← z]; exact e)) (fun z => g2 (by rw [← z]; exact e)) (fun z => g3 (by rw [← z]; exact e))) p3 (by omega) h.2.2.2.2 (by show (if p3 = p0 then _ else if p3 = p1 then _ else if p3 = p2 then _ else if p3 = p3 then _ else _) ≠ _; rw [if_neg n4, if_neg n5, if_neg n6, if_pos rfl]; omega)
  rw [d4_c, su4 h] at this
  unfold rA at this
  rw [su4 h, su4 h, su4 h, su4 h] at this
  simp only [if_pos, if_neg n1, if_neg n2, if_neg n3, if_neg n4, if_neg n5, if_neg n6] at this
  refine pos_of h1 ?_
  have e0 : -m3 a p1 p2 p3 p0 p1 p2 * a p0 p0 + m3 a p0 p2 p3 p0 p1 p2 * a p1 p0 + -m3 a p0 p1 p3 p0 p1 p2 * a p2 p0 + m3 a p0 p1 p2 p0 p1 p2 * a p3 p0 = 0 := by unfold m3 m2; grind
  have e1 : -m3 a p1 p2 p3 p0 p1 p2 * a p0 p1 + m3 a p0 p2 p3 p0 p1 p2 * a p1 p1 + -m3 a p0 p1 p3 p0 p1 p2 * a p2 p1 + m3 a p0 p1 p2 p0 p1 p2 * a p3 p1 = 0 := by unfold m3 m2; grind
  have e2 : -m3 a p1 p2 p3 p0 p1 p2 * a p0 p2 + m3 a p0 p2 p3 p0 p1 p2 * a p1 p2 + -m3 a p0 p1 p3 p0 p1 p2 * a p2 p2 + m3 a p0 p1 p2 p0 p1 p2 * a p3 p2 = 0 := by unfold m3 m2; grind
  have e3 : -m3 a p1 p2 p3 p0 p1 p2 * a p0 p3 + m3 a p0 p2 p3 p0 p1 p2 * a p1 p3 + -m3 a p0 p1 p3 p0 p1 p2 * a p2 p3 + m3 a p0 p1 p2 p0 p1 p2 * a p3 p3 = m4 a p0 p1 p2 p3 p0 p1 p2 p3 := by unfold m4 m3 m2; grind
  rw [e0, e1, e2, e3, Int.mul_zero, Int.mul_zero, Int.mul_zero, Int.zero_add, Int.zero_add, Int.zero_add] at this
  exact this
end PO
/-! Cramer's rule -/
def rpZ (A : Int → Int → Int) (e : Int → Int) (x : Int) : Int → Int → Int := fun i j => if j = x then e i else A i j
section CR
variable {A : Int → Int → Int} {e : Int → Int}
theorem cr2 {i : Int} (hi : i = 0 ∨ i = 1) : A i 0 * m2 (rpZ A e 0) 0 1 0 1 + A i 1 * m2 (rpZ A e 1) 0 1 0 1 = m2 A 0 1 0 1 * e i := by
  simp only [m2, rpZ, if_true, show (0 : Int) ≠ 1 by decide, show (1 : Int) ≠ 0 by decide, if_false]
  rcases hi with rfl | rfl <;> grind
theorem cr3 {i : Int} (hi : i = 0 ∨ i = 1 ∨ i = 2) : A i 0 * m3 (rpZ A e 0) 0 1 2 0 1 2 + A i 1 * m3 (rpZ A e 1) 0 1 2 0 1 2 + A i 2 * m3 (rpZ A e 2) 0 1 2 0 1 2 = m3 A 0 1 2 0 1 2 * e i := by
  simp only [m3, m2, rpZ, if_true, show (0 : Int) ≠ 1 by decide, show (1 : Int) ≠ 0 by decide, show (0 : Int) ≠ 2 by decide, show (2 : Int) ≠ 0 by decide, show (1 : Int) ≠ 2 by decide, show (2 : Int) ≠ 1 by decide, if_false]
  rcases hi with rfl | rfl | rfl <;> grind
theorem cr4 {i : Int} (hi : i = 0 ∨ i = 1 ∨ i = 2 ∨ i = 3) : A i 0 * m4 (rpZ A e 0) 0 1 2 3 0 1 2 3 + A i 1 * m4 (rpZ A e 1) 0 1 2 3 0 1 2 3 + A i 2 * m4 (rpZ A e 2) 0 1 2 3 0 1 2 3 + A i 3 * m4 (rpZ A e 3) 0 1 2 3 0 1 2 3 = m4 A 0 1 2 3 0 1 2 3 * e i := by
  simp only [m4, m3, m2, rpZ, if_true, show (0 : Int) ≠ 1 by decide, show (1 : Int) ≠ 0 by decide, show (0 : Int) ≠ 2 by decide, show (2 : Int) ≠ 0 by decide, show (1 : Int) ≠ 2 by decide, show (2 : Int) ≠ 1 by decide, show (0 : Int) ≠ 3 by decide, show (3 : Int) ≠ 0 by decide, show (1 : Int) ≠ 3 by decide, show (3 : Int) ≠ 1 by decide, show (2 : Int) ≠ 3 by decide, show (3 : Int) ≠ 2 by decide, if_false]
  rcases hi with rfl | rfl | rfl | rfl <;> grind
end CR
