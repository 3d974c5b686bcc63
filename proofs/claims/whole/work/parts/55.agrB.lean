/-! where a crossing stands in the reference's table -/
def plP (q pc : Int → Int) (d : Nat) (p : Int → Int) : Prop := d ≤ 4 ∧ (∀ k : Int, 0 ≤ k → k < d → (0 ≤ p k ∧ p k < 4) ∧ q (p k) ≠ -2 ∧ pc (p k) = k) ∧ (∀ c, 0 ≤ c → c < 4 → q c ≠ -2 → (0 ≤ pc c ∧ pc c < d) ∧ p (pc c) = c) ∧ (∀ c, 0 ≤ c → c < 4 → q c = -2 → pc c = -2) ∧ (∀ k l : Int, 0 ≤ k → k < l → l < d → p k < p l)
theorem c4 {p : Int → Prop} (h0 : p 0) (h1 : p 1) (h2 : p 2) (h3 : p 3) : ∀ c : Int, 0 ≤ c → c < 4 → p c := fun c a b => by
  have : c = 0 ∨ c = 1 ∨ c = 2 ∨ c = 3 := by omega
  rcases this with rfl | rfl | rfl | rfl <;> assumption
theorem pl_ex {q pc : Int → Int} (hq : ∀ c, 0 ≤ c → c < 4 → q c = -1 ∨ q c = -2) (hp : ∀ c : Nat, c < 4 → pc c = if q c = -2 then -2 else nbZ q c) : ∃ (d : Nat) (p : Int → Int), nbZ q 4 = (d : Int) ∧ plP q pc d p := by
  have n1 : nbZ q 1 = 0 + (if q 0 = -2 then 0 else 1) := rfl
  have n2 : nbZ q 2 = nbZ q 1 + (if q 1 = -2 then 0 else 1) := rfl
  have n3 : nbZ q 3 = nbZ q 2 + (if q 2 = -2 then 0 else 1) := rfl
  have n4 : nbZ q 4 = nbZ q 3 + (if q 3 = -2 then 0 else 1) := rfl
  have e0 : pc 0 = if q 0 = -2 then -2 else 0 := hp 0 (by omega)
  have e1 : pc 1 = if q 1 = -2 then -2 else nbZ q 1 := hp 1 (by omega)
  have e2 : pc 2 = if q 2 = -2 then -2 else nbZ q 2 := hp 2 (by omega)
  have e3 : pc 3 = if q 3 = -2 then -2 else nbZ q 3 := hp 3 (by omega)
  have q0 := hq 0 (by omega) (by omega)
  have q1 := hq 1 (by omega) (by omega)
  have q2 := hq 2 (by omega) (by omega)
  have q3 := hq 3 (by omega) (by omega)
  rcases q0 with q0 | q0 <;> rcases q1 with q1 | q1 <;> rcases q2 with q2 | q2 <;> rcases q3 with q3 | q3
  · rw [if_neg (show ¬ q 0 = -2 by omega)] at n1 e0
    rw [if_neg (show ¬ q 1 = -2 by omega)] at n2 e1
    rw [if_neg (show ¬ q 2 = -2 by omega)] at n3 e2
    rw [if_neg (show ¬ q 3 = -2 by omega)] at n4 e3
    refine ⟨4, fun k => if k = 0 then 0 else if k = 1 then 1 else if k = 2 then 2 else 3, by omega, by omega, fun k a b => ?_, c4 (fun _ => ⟨by omega, by rw [show pc 0 = 0 by omega]; rfl⟩) (fun _ => ⟨by omega, by rw [show pc 1 = 1 by omega]; rfl⟩) (fun _ => ⟨by omega, by rw [show pc 2 = 2 by omega]; rfl⟩) (fun _ => ⟨by omega, by rw [show pc 3 = 3 by omega]; rfl⟩), c4 (fun h => absurd h (by omega)) (fun h => absurd h (by omega)) (fun h => absurd h (by omega)) (fun h => absurd h (by omega)), fun k l a b c => ?_⟩
    · have hk : k = 0 ∨ k = 1 ∨ k = 2 ∨ k = 3 := by omega
      rcases hk with rfl | rfl | rfl | rfl
      · exact ⟨⟨by decide, by decide⟩, show q 0 ≠ -2 by omega, show pc 0 = 0 by omega⟩
      · exact ⟨⟨by decide, by decide⟩, show q 1 ≠ -2 by omega, show pc 1 = 1 by omega⟩
      · exact ⟨⟨by decide, by decide⟩, show q 2 ≠ -2 by omega, show pc 2 = 2 by omega⟩
      · exact ⟨⟨by decide, by decide⟩, show q 3 ≠ -2 by omega, show pc 3 = 3 by omega⟩
    · have hk : (k = 0 ∧ l = 1) ∨ (k = 0 ∧ l = 2) ∨ (k = 0 ∧ l = 3) ∨ (k = 1 ∧ l = 2) ∨ (k = 1 ∧ l = 3) ∨ (k = 2 ∧ l = 3) := by omega
      rcases hk with ⟨rfl, rfl⟩ | ⟨rfl, rfl⟩ | ⟨rfl, rfl⟩ | ⟨rfl, rfl⟩ | ⟨rfl, rfl⟩ | ⟨rfl, rfl⟩ <;> decide
  · rw [if_neg (show ¬ q 0 = -2 by omega)] at n1 e0
    rw [if_neg (show ¬ q 1 = -2 by omega)] at n2 e1
    rw [if_neg (show ¬ q 2 = -2 by omega)] at n3 e2
    rw [if_pos q3] at n4 e3
    refine ⟨3, fun k => if k = 0 then 0 else if k = 1 then 1 else 2, by omega, by omega, fun k a b => ?_, c4 (fun _ => ⟨by omega, by rw [show pc 0 = 0 by omega]; rfl⟩) (fun _ => ⟨by omega, by rw [show pc 1 = 1 by omega]; rfl⟩) (fun _ => ⟨by omega, by rw [show pc 2 = 2 by omega]; rfl⟩) (fun h => absurd q3 h), c4 (fun h => absurd h (by omega)) (fun h => absurd h (by omega)) (fun h => absurd h (by omega)) (fun _ => by omega), fun k l a b c => ?_⟩
    · have hk : k = 0 ∨ k = 1 ∨ k = 2 := by omega
      rcases hk with rfl | rfl | rfl
      · exact ⟨⟨by decide, by decide⟩, show q 0 ≠ -2 by omega, show pc 0 = 0 by omega⟩
      · exact ⟨⟨by decide, by decide⟩, show q 1 ≠ -2 by omega, show pc 1 = 1 by omega⟩
      · exact ⟨⟨by decide, by decide⟩, show q 2 ≠ -2 by omega, show pc 2 = 2 by omega⟩
    · have hk : (k = 0 ∧ l = 1) ∨ (k = 0 ∧ l = 2) ∨ (k = 1 ∧ l = 2) := by omega
      rcases hk with ⟨rfl, rfl⟩ | ⟨rfl, rfl⟩ | ⟨rfl, rfl⟩ <;> decide
  · rw [if_neg (show ¬ q 0 = -2 by omega)] at n1 e0
    rw [if_neg (show ¬ q 1 = -2 by omega)] at n2 e1
    rw [if_pos q2] at n3 e2
    rw [if_neg (show ¬ q 3 = -2 by omega)] at n4 e3
    refine ⟨3, fun k => if k = 0 then 0 else if k = 1 then 1 else 3, by omega, by omega, fun k a b => ?_, c4 (fun _ => ⟨by omega, by rw [show pc 0 = 0 by omega]; rfl⟩) (fun _ => ⟨by omega, by rw [show pc 1 = 1 by omega]; rfl⟩) (fun h => absurd q2 h) (fun _ => ⟨by omega, by rw [show pc 3 = 2 by omega]; rfl⟩), c4 (fun h => absurd h (by omega)) (fun h => absurd h (by omega)) (fun _ => by omega) (fun h => absurd h (by omega)), fun k l a b c => ?_⟩
    · have hk : k = 0 ∨ k = 1 ∨ k = 2 := by omega
      rcases hk with rfl | rfl | rfl
      · exact ⟨⟨by decide, by decide⟩, show q 0 ≠ -2 by omega, show pc 0 = 0 by omega⟩
      · exact ⟨⟨by decide, by decide⟩, show q 1 ≠ -2 by omega, show pc 1 = 1 by omega⟩
      · exact ⟨⟨by decide, by decide⟩, show q 3 ≠ -2 by omega, show pc 3 = 2 by omega⟩
    · have hk : (k = 0 ∧ l = 1) ∨ (k = 0 ∧ l = 2) ∨ (k = 1 ∧ l = 2) := by omega
      rcases hk with ⟨rfl, rfl⟩ | ⟨rfl, rfl⟩ | ⟨rfl, rfl⟩ <;> decide
  · rw [if_neg (show ¬ q 0 = -2 by omega)] at n1 e0
    rw [if_neg (show ¬ q 1 = -2 by omega)] at n2 e1
    rw [if_pos q2] at n3 e2
    rw [if_pos q3] at n4 e3
    refine ⟨2, fun k => if k = 0 then 0 else 1, by omega, by omega, fun k a b => ?_, c4 (fun _ => ⟨by omega, by rw [show pc 0 = 0 by omega]; rfl⟩) (fun _ => ⟨by omega, by rw [show pc 1 = 1 by omega]; rfl⟩) (fun h => absurd q2 h) (fun h => absurd q3 h), c4 (fun h => absurd h (by omega)) (fun h => absurd h (by omega)) (fun _ => by omega) (fun _ => by omega), fun k l a b c => ?_⟩
    · have hk : k = 0 ∨ k = 1 := by omega
      rcases hk with rfl | rfl
      · exact ⟨⟨by decide, by decide⟩, show q 0 ≠ -2 by omega, show pc 0 = 0 by omega⟩
      · exact ⟨⟨by decide, by decide⟩, show q 1 ≠ -2 by omega, show pc 1 = 1 by omega⟩
    · have hk : (k = 0 ∧ l = 1) := by omega
      rcases hk with ⟨rfl, rfl⟩ <;> decide
  · rw [if_neg (show ¬ q 0 = -2 by omega)] at n1 e0
    rw [if_pos q1] at n2 e1
    rw [if_neg (show ¬ q 2 = -2 by omega)] at n3 e2
    rw [if_neg (show ¬ q 3 = -2 by omega)] at n4 e3
    refine ⟨3, fun k => if k = 0 then 0 else if k = 1 then 2 else 3, by omega, by omega, fun k a b => ?_, c4 (fun _ => ⟨by omega, by rw [show pc 0 = 0 by omega]; rfl⟩) (fun h => absurd q1 h) (fun _ => ⟨by omega, by rw [show pc 2 = 1 by omega]; rfl⟩) (fun _ => ⟨by omega, by rw [show pc 3 = 2 by omega]; rfl⟩), c4 (fun h => absurd h (by omega)) (fun _ => by omega) (fun h => absurd h (by omega)) (fun h => absurd h (by omega)), fun k l a b c => ?_⟩
    · have hk : k = 0 ∨ k = 1 ∨ k = 2 := by omega
      rcases hk with rfl | rfl | rfl
      · exact ⟨⟨by decide, by decide⟩, show q 0 ≠ -2 by omega, show pc 0 = 0 by omega⟩
      · exact ⟨⟨by decide, by decide⟩, show q 2 ≠ -2 by omega, show pc 2 = 1 by omega⟩
      · exact ⟨⟨by decide, by decide⟩, show q 3 ≠ -2 by omega, show pc 3 = 2 by omega⟩
    · have hk : (k = 0 ∧ l = 1) ∨ (k = 0 ∧ l = 2) ∨ (k = 1 ∧ l = 2) := by omega
      rcases hk with ⟨rfl, rfl⟩ | ⟨rfl, rfl⟩ | ⟨rfl, rfl⟩ <;> decide
  · rw [if_neg (show ¬ q 0 = -2 by omega)] at n1 e0
    rw [if_pos q1] at n2 e1
    rw [if_neg (show ¬ q 2 = -2 by omega)] at n3 e2
    rw [if_pos q3] at n4 e3
    refine ⟨2, fun k => if k = 0 then 0 else 2, by omega, by omega, fun k a b => ?_, c4 (fun _ => ⟨by omega, by rw [show pc 0 = 0 by omega]; rfl⟩) (fun h => absurd q1 h) (fun _ => ⟨by omega, by rw [show pc 2 = 1 by omega]; rfl⟩) (fun h => absurd q3 h), c4 (fun h => absurd h (by omega)) (fun _ => by omega) (fun h => absurd h (by omega)) (fun _ => by omega), fun k l a b c => ?_⟩
    · have hk : k = 0 ∨ k = 1 := by omega
      rcases hk with rfl | rfl
      · exact ⟨⟨by decide, by decide⟩, show q 0 ≠ -2 by omega, show pc 0 = 0 by omega⟩
      · exact ⟨⟨by decide, by decide⟩, show q 2 ≠ -2 by omega, show pc 2 = 1 by omega⟩
    · have hk : (k = 0 ∧ l = 1) := by omega
      rcases hk with ⟨rfl, rfl⟩ <;> decide
  · rw [if_neg (show ¬ q 0 = -2 by omega)] at n1 e0
    rw [if_pos q1] at n2 e1
    rw [if_pos q2] at n3 e2
    rw [if_neg (show ¬ q 3 = -2 by omega)] at n4 e3
    refine ⟨2, fun k => if k = 0 then 0 else 3, by omega, by omega, fun k a b => ?_, c4 (fun _ => ⟨by omega, by rw [show pc 0 = 0 by omega]; rfl⟩) (fun h => absurd q1 h) (fun h => absurd q2 h) (fun _ => ⟨by omega, by rw [show pc 3 = 1 by omega]; rfl⟩), c4 (fun h => absurd h (by omega)) (fun _ => by omega) (fun _ => by omega) (fun h => absurd h (by omega)), fun k l a b c => ?_⟩
    · have hk : k = 0 ∨ k = 1 := by omega
      rcases hk with rfl | rfl
      · exact ⟨⟨by decide, by decide⟩, show q 0 ≠ -2 by omega, show pc 0 = 0 by omega⟩
      · exact ⟨⟨by decide, by decide⟩, show q 3 ≠ -2 by omega, show pc 3 = 1 by omega⟩
    · have hk : (k = 0 ∧ l = 1) := by omega
      rcases hk with ⟨rfl, rfl⟩ <;> decide
  · rw [if_neg (show ¬ q 0 = -2 by omega)] at n1 e0
    rw [if_pos q1] at n2 e1
    rw [if_pos q2] at n3 e2
    rw [if_pos q3] at n4 e3
    refine ⟨1, fun k => 0, by omega, by omega, fun k a b => ?_, c4 (fun _ => ⟨by omega, by rw [show pc 0 = 0 by omega]⟩) (fun h => absurd q1 h) (fun h => absurd q2 h) (fun h => absurd q3 h), c4 (fun h => absurd h (by omega)) (fun _ => by omega) (fun _ => by omega) (fun _ => by omega), fun k l a b c => ?_⟩
    · have hk : k = 0 := by omega
      rcases hk with rfl
      · exact ⟨⟨by decide, by decide⟩, show q 0 ≠ -2 by omega, show pc 0 = 0 by omega⟩
    · omega
  · rw [if_pos q0] at n1 e0
    rw [if_neg (show ¬ q 1 = -2 by omega)] at n2 e1
    rw [if_neg (show ¬ q 2 = -2 by omega)] at n3 e2
    rw [if_neg (show ¬ q 3 = -2 by omega)] at n4 e3
    refine ⟨3, fun k => if k = 0 then 1 else if k = 1 then 2 else 3, by omega, by omega, fun k a b => ?_, c4 (fun h => absurd q0 h) (fun _ => ⟨by omega, by rw [show pc 1 = 0 by omega]; rfl⟩) (fun _ => ⟨by omega, by rw [show pc 2 = 1 by omega]; rfl⟩) (fun _ => ⟨by omega, by rw [show pc 3 = 2 by omega]; rfl⟩), c4 (fun _ => by omega) (fun h => absurd h (by omega)) (fun h => absurd h (by omega)) (fun h => absurd h (by omega)), fun k l a b c => ?_⟩
    · have hk : k = 0 ∨ k = 1 ∨ k = 2 := by omega
      rcases hk with rfl | rfl | rfl
      · exact ⟨⟨by decide, by decide⟩, show q 1 ≠ -2 by omega, show pc 1 = 0 by omega⟩
      · exact ⟨⟨by decide, by decide⟩, show q 2 ≠ -2 by omega, show pc 2 = 1 by omega⟩
      · exact ⟨⟨by decide, by decide⟩, show q 3 ≠ -2 by omega, show pc 3 = 2 by omega⟩
    · have hk : (k = 0 ∧ l = 1) ∨ (k = 0 ∧ l = 2) ∨ (k = 1 ∧ l = 2) := by omega
      rcases hk with ⟨rfl, rfl⟩ | ⟨rfl, rfl⟩ | ⟨rfl, rfl⟩ <;> decide
  · rw [if_pos q0] at n1 e0
    rw [if_neg (show ¬ q 1 = -2 by omega)] at n2 e1
    rw [if_neg (show ¬ q 2 = -2 by omega)] at n3 e2
    rw [if_pos q3] at n4 e3
    refine ⟨2, fun k => if k = 0 then 1 else 2, by omega, by omega, fun k a b => ?_, c4 (fun h => absurd q0 h) (fun _ => ⟨by omega, by rw [show pc 1 = 0 by omega]; rfl⟩) (fun _ => ⟨by omega, by rw [show pc 2 = 1 by omega]; rfl⟩) (fun h => absurd q3 h), c4 (fun _ => by omega) (fun h => absurd h (by omega)) (fun h => absurd h (by omega)) (fun _ => by omega), fun k l a b c => ?_⟩
    · have hk : k = 0 ∨ k = 1 := by omega
      rcases hk with rfl | rfl
      · exact ⟨⟨by decide, by decide⟩, show q 1 ≠ -2 by omega, show pc 1 = 0 by omega⟩
      · exact ⟨⟨by decide, by decide⟩, show q 2 ≠ -2 by omega, show pc 2 = 1 by omega⟩
    · have hk : (k = 0 ∧ l = 1) := by omega
      rcases hk with ⟨rfl, rfl⟩ <;> decide
  · rw [if_pos q0] at n1 e0
    rw [if_neg (show ¬ q 1 = -2 by omega)] at n2 e1
    rw [if_pos q2] at n3 e2
    rw [if_neg (show ¬ q 3 = -2 by omega)] at n4 e3
    refine ⟨2, fun k => if k = 0 then 1 else 3, by omega, by omega, fun k a b => ?_, c4 (fun h => absurd q0 h) (fun _ => ⟨by omega, by rw [show pc 1 = 0 by omega]; rfl⟩) (fun h => absurd q2 h) (fun _ => ⟨by omega, by rw [show pc 3 = 1 by omega]; rfl⟩), c4 (fun _ => by omega) (fun h => absurd h (by omega)) (fun _ => by omega) (fun h => absurd h (by omega)), fun k l a b c => ?_⟩
    · have hk : k = 0 ∨ k = 1 := by omega
      rcases hk with rfl | rfl
      · exact ⟨⟨by decide, by decide⟩, show q 1 ≠ -2 by omega, show pc 1 = 0 by omega⟩
      · exact ⟨⟨by decide, by decide⟩, show q 3 ≠ -2 by omega, show pc 3 = 1 by omega⟩
    · have hk : (k = 0 ∧ l = 1) := by omega
      rcases hk with ⟨rfl, rfl⟩ <;> decide
  · rw [if_pos q0] at n1 e0
    rw [if_neg (show ¬ q 1 = -2 by omega)] at n2 e1
    rw [if_pos q2] at n3 e2
    rw [if_pos q3] at n4 e3
    refine ⟨1, fun k => 1, by omega, by omega, fun k a b => ?_, c4 (fun h => absurd q0 h) (fun _ => ⟨by omega, by rw [show pc 1 = 0 by omega]⟩) (fun h => absurd q2 h) (fun h => absurd q3 h), c4 (fun _ => by omega) (fun h => absurd h (by omega)) (fun _ => by omega) (fun _ => by omega), fun k l a b c => ?_⟩
    · have hk : k = 0 := by omega
      rcases hk with rfl
      · exact ⟨⟨by decide, by decide⟩, show q 1 ≠ -2 by omega, show pc 1 = 0 by omega⟩
    · omega
  · rw [if_pos q0] at n1 e0
    rw [if_pos q1] at n2 e1
    rw [if_neg (show ¬ q 2 = -2 by omega)] at n3 e2
    rw [if_neg (show ¬ q 3 = -2 by omega)] at n4 e3
    refine ⟨2, fun k => if k = 0 then 2 else 3, by omega, by omega, fun k a b => ?_, c4 (fun h => absurd q0 h) (fun h => absurd q1 h) (fun _ => ⟨by omega, by rw [show pc 2 = 0 by omega]; rfl⟩) (fun _ => ⟨by omega, by rw [show pc 3 = 1 by omega]; rfl⟩), c4 (fun _ => by omega) (fun _ => by omega) (fun h => absurd h (by omega)) (fun h => absurd h (by omega)), fun k l a b c => ?_⟩
    · have hk : k = 0 ∨ k = 1 := by omega
      rcases hk with rfl | rfl
      · exact ⟨⟨by decide, by decide⟩, show q 2 ≠ -2 by omega, show pc 2 = 0 by omega⟩
      · exact ⟨⟨by decide, by decide⟩, show q 3 ≠ -2 by omega, show pc 3 = 1 by omega⟩
    · have hk : (k = 0 ∧ l = 1) := by omega
      rcases hk with ⟨rfl, rfl⟩ <;> decide
  · rw [if_pos q0] at n1 e0
    rw [if_pos q1] at n2 e1
    rw [if_neg (show ¬ q 2 = -2 by omega)] at n3 e2
    rw [if_pos q3] at n4 e3
    refine ⟨1, fun k => 2, by omega, by omega, fun k a b => ?_, c4 (fun h => absurd q0 h) (fun h => absurd q1 h) (fun _ => ⟨by omega, by rw [show pc 2 = 0 by omega]⟩) (fun h => absurd q3 h), c4 (fun _ => by omega) (fun _ => by omega) (fun h => absurd h (by omega)) (fun _ => by omega), fun k l a b c => ?_⟩
    · have hk : k = 0 := by omega
      rcases hk with rfl
      · exact ⟨⟨by decide, by decide⟩, show q 2 ≠ -2 by omega, show pc 2 = 0 by omega⟩
    · omega
  · rw [if_pos q0] at n1 e0
    rw [if_pos q1] at n2 e1
    rw [if_pos q2] at n3 e2
    rw [if_neg (show ¬ q 3 = -2 by omega)] at n4 e3
    refine ⟨1, fun k => 3, by omega, by omega, fun k a b => ?_, c4 (fun h => absurd q0 h) (fun h => absurd q1 h) (fun h => absurd q2 h) (fun _ => ⟨by omega, by rw [show pc 3 = 0 by omega]⟩), c4 (fun _ => by omega) (fun _ => by omega) (fun _ => by omega) (fun h => absurd h (by omega)), fun k l a b c => ?_⟩
    · have hk : k = 0 := by omega
      rcases hk with rfl
      · exact ⟨⟨by decide, by decide⟩, show q 3 ≠ -2 by omega, show pc 3 = 0 by omega⟩
    · omega
  · rw [if_pos q0] at n1 e0
    rw [if_pos q1] at n2 e1
    rw [if_pos q2] at n3 e2
    rw [if_pos q3] at n4 e3
    refine ⟨0, fun k => 0, by omega, by omega, fun k a b => ?_, c4 (fun h => absurd q0 h) (fun h => absurd q1 h) (fun h => absurd q2 h) (fun h => absurd q3 h), c4 (fun _ => by omega) (fun _ => by omega) (fun _ => by omega) (fun _ => by omega), fun k l a b c => ?_⟩
    · omega
    · omega
theorem prZ_congr {c : Int → Int} {e e2 : Int → Int → Int} {v : Int} : ∀ k : Nat, (∀ j : Int, 0 ≤ j → j < k → e j (c j) = e2 j (c j)) → prZ c e v k = prZ c e2 v k
  | 0, _ => rfl
  | k + 1, h => by
    show prZ c e v k * e k (c k) = prZ c e2 v k * e2 k (c k)
    rw [prZ_congr k (fun j a b => h j a (by omega)), h k (by omega) (by omega)]
theorem dt_congr {d : Nat} {e e2 : Int → Int → Int} (h : ∀ i j : Int, 0 ≤ i → i < d → 0 ≤ j → j < d → e i j = e2 i j) : dtZ d e = dtZ d e2 := by
  unfold dtZ
  refine sumZ_congr _ (fun w _ _ => ?_)
  exact prZ_congr d (fun j a b => h j _ a b (cD_R (by omega) j).1 (cD_R (by omega) j).2)
theorem dt_b0 {e : Int → Int → Int} {n : Nat} (hn : n ≤ 4) (h1 : ∀ k j : Int, 0 ≤ k → k < n → 0 ≤ j → j < n → bdZ (e k j) 224) : bdZ (dtZ n e) 644513529856 := by
  have hw : (n ^ n : Nat) ≤ 256 := by
    have hkk : n = 0 ∨ n = 1 ∨ n = 2 ∨ n = 3 ∨ n = 4 := by omega
    rcases hkk with rfl | rfl | rfl | rfl | rfl <;> decide
  have ht : ∀ w : Int, bdZ (tmZ n e w) 2517630976 := fun w => by
    obtain ⟨hv, hd⟩ := s1Z_R (cD n w) n
    by_cases z : s1Z (cD n w) n = 0
    · unfold tmZ
      rw [z, prZ_0 (k := 0) rfl n (by omega)]; exact ⟨by omega, by omega⟩
    · have hcR : ∀ k : Int, 0 ≤ k → k < n → 0 ≤ cD n w k ∧ cD n w k < n := fun k a b => cD_R (by omega) k
      have hb := (prZ_b (e := fun k j => if j = -1 then 0 else e k j) (x := -1) hn hv (hd z) hcR (fun k j a b c f g => by show bdZ (if j = -1 then 0 else e k j) 224; rw [if_neg g]; exact h1 k j a b c f) (fun k a b => by show bdZ (if (-1 : Int) = -1 then 0 else e k (-1)) 1600000; rw [if_pos rfl]; exact ⟨by omega, by omega⟩) n (by omega)).1 (fun j a b => by have := hcR j a b; omega)
      have hb2 : bdZ (tmZ n e w) (224 ^ n) := by
        unfold tmZ
        rw [prZ_congr (e2 := fun k j => if j = -1 then 0 else e k j) n (fun j a b => by show _ = (if cD n w j = -1 then 0 else e j (cD n w j)); rw [if_neg (by have := hcR j a b; omega)])]
        exact hb
      refine bd_le hb2 ?_
      have hkk : n = 0 ∨ n = 1 ∨ n = 2 ∨ n = 3 ∨ n = 4 := by omega
      rcases hkk with rfl | rfl | rfl | rfl | rfl <;> decide
  have h := sumZ_bd (f := tmZ n e) (B := 2517630976) (n ^ n) (fun w _ _ => ht w)
  unfold dtZ bdZ
  omega
section AG
variable {a : Int → Int → Int} {ex q pc p : Int → Int} {d : Nat}
def yyZ (a : Int → Int → Int) (ex pc p : Int → Int) (d : Nat) : Int → Int := fun c => if 0 ≤ pc c then dtZ d (rpZ (fun i j => a (p i) (p j)) (fun i => ex (p i)) (pc c)) else 0
theorem yy_p (h : plP q pc d p) {k : Int} (k0 : 0 ≤ k) (kd : k < d) : yyZ a ex pc p d (p k) = dtZ d (rpZ (fun i j => a (p i) (p j)) (fun i => ex (p i)) k) := by
  unfold yyZ
  rw [(h.2.1 k k0 kd).2.2, if_pos k0]
theorem yy_0 (h : plP q pc d p) {c : Int} (c0 : 0 ≤ c) (c4 : c < 4) (hn : ∀ k : Int, 0 ≤ k → k < d → c ≠ p k) : yyZ a ex pc p d c = 0 := by
  unfold yyZ
  by_cases z : q c = -2
  · rw [h.2.2.2.1 c c0 c4 z, if_neg (by decide)]
  · obtain ⟨h1, h2⟩ := h.2.2.1 c c0 c4 z
    exact absurd h2.symm (hn _ h1.1 h1.2)
/-- at the crossings that stand in the table -/
theorem yy_U (h : plP q pc d p) (hS : ∀ i j, 0 ≤ i → i < 4 → 0 ≤ j → j < 4 → a i j = a j i) {l : Int} (l0 : 0 ≤ l) (ld : l < d) : rA a (yyZ a ex pc p d) (p l) = dtZ d (fun i j => a (p i) (p j)) * ex (p l) := by
  have h' := h
  obtain ⟨hd, h1, h2, h3, h4⟩ := h
  have hdd : d = 1 ∨ d = 2 ∨ d = 3 ∨ d = 4 := by omega
  have hpl := (h1 l l0 ld).1
  unfold rA
  rcases hdd with rfl | rfl | rfl | rfl
  · have r0 := (h1 0 (by omega) (by omega)).1
    rw [su1 r0 (fun c a b e0 => yy_0 h' a b (fun k k0 k1 => by have hk : k = 0 := by omega
                                                               rw [hk]; exact e0)), yy_p h' (by omega) (by omega), dt1, dt1]
    obtain rfl : l = 0 := by omega
    show (if (0 : Int) = 0 then ex (p 0) else _) * a (p 0) (p 0) = a (p 0) (p 0) * ex (p 0)
    rw [if_pos rfl, Int.mul_comm]
  · have r0 := (h1 0 (by omega) (by omega)).1
    have r1 := (h1 1 (by omega) (by omega)).1
    have o1 := h4 0 1 (by omega) (by omega) (by omega)
    rw [su2 ⟨r0.1, o1, r1.2⟩ (fun c a b e0 e1 => yy_0 h' a b (fun k k0 k1 => by
      have hk : k = 0 ∨ k = 1 := by omega
      rcases hk with rfl | rfl <;> assumption)), yy_p h' (by omega) (by omega), yy_p h' (by omega) (by omega), dt2, dt2, dt2]
    have hc := cr2 (A := fun i j => a (p i) (p j)) (e := fun i => ex (p i)) (i := l) (by omega)
    rw [hS (p 0) (p l) r0.1 r0.2 hpl.1 hpl.2, hS (p 1) (p l) r1.1 r1.2 hpl.1 hpl.2, ← hc]
    grind
  · have r0 := (h1 0 (by omega) (by omega)).1
    have r1 := (h1 1 (by omega) (by omega)).1
    have r2 := (h1 2 (by omega) (by omega)).1
    have o1 := h4 0 1 (by omega) (by omega) (by omega)
    have o2 := h4 1 2 (by omega) (by omega) (by omega)
    rw [su3 ⟨r0.1, o1, o2, r2.2⟩ (fun c a b e0 e1 e2 => yy_0 h' a b (fun k k0 k1 => by
      have hk : k = 0 ∨ k = 1 ∨ k = 2 := by omega
      rcases hk with rfl | rfl | rfl <;> assumption)), yy_p h' (by omega) (by omega), yy_p h' (by omega) (by omega), yy_p h' (by omega) (by omega), dt3, dt3, dt3, dt3]
    have hc := cr3 (A := fun i j => a (p i) (p j)) (e := fun i => ex (p i)) (i := l) (by omega)
    rw [hS (p 0) (p l) r0.1 r0.2 hpl.1 hpl.2, hS (p 1) (p l) r1.1 r1.2 hpl.1 hpl.2, hS (p 2) (p l) r2.1 r2.2 hpl.1 hpl.2, ← hc]
    grind
  · have r0 := (h1 0 (by omega) (by omega)).1
    have r1 := (h1 1 (by omega) (by omega)).1
    have r2 := (h1 2 (by omega) (by omega)).1
    have r3 := (h1 3 (by omega) (by omega)).1
    have o1 := h4 0 1 (by omega) (by omega) (by omega)
    have o2 := h4 1 2 (by omega) (by omega) (by omega)
    have o3 := h4 2 3 (by omega) (by omega) (by omega)
    rw [su4 ⟨r0.1, o1, o2, o3, r3.2⟩, yy_p h' (by omega) (by omega), yy_p h' (by omega) (by omega), yy_p h' (by omega) (by omega), yy_p h' (by omega) (by omega), dt4, dt4, dt4, dt4, dt4]
    have hc := cr4 (A := fun i j => a (p i) (p j)) (e := fun i => ex (p i)) (i := l) (by omega)
    rw [hS (p 0) (p l) r0.1 r0.2 hpl.1 hpl.2, hS (p 1) (p l) r1.1 r1.2 hpl.1 hpl.2, hS (p 2) (p l) r2.1 r2.2 hpl.1 hpl.2, hS (p 3) (p l) r3.1 r3.2 hpl.1 hpl.2, ← hc]
    grind
theorem dt_pos (h : plP q pc d p) (hp : pdZ a q) : 0 < dtZ d (fun i j => a (p i) (p j)) := by
  obtain ⟨hd, h1, h2, h3, h4⟩ := h
  have hdd : d = 0 ∨ d = 1 ∨ d = 2 ∨ d = 3 ∨ d = 4 := by omega
  rcases hdd with rfl | rfl | rfl | rfl | rfl
  · rw [dt0]; decide
  · rw [dt1]
    have r0 := h1 0 (by omega) (by omega)
    show 0 < a (p 0) (p 0)
    exact po1 hp r0.1 r0.2.1
  · rw [dt2]
    have r0 := h1 0 (by omega) (by omega)
    have r1 := h1 1 (by omega) (by omega)
    show 0 < m2 a (p 0) (p 1) (p 0) (p 1)
    exact po2 hp ⟨r0.1.1, h4 0 1 (by omega) (by omega) (by omega), r1.1.2⟩ r0.2.1 r1.2.1
  · rw [dt3]
    have r0 := h1 0 (by omega) (by omega)
    have r1 := h1 1 (by omega) (by omega)
    have r2 := h1 2 (by omega) (by omega)
    show 0 < m3 a (p 0) (p 1) (p 2) (p 0) (p 1) (p 2)
    exact po3 hp ⟨r0.1.1, h4 0 1 (by omega) (by omega) (by omega), h4 1 2 (by omega) (by omega) (by omega), r2.1.2⟩ r0.2.1 r1.2.1 r2.2.1
  · rw [dt4]
    have r0 := h1 0 (by omega) (by omega)
    have r1 := h1 1 (by omega) (by omega)
    have r2 := h1 2 (by omega) (by omega)
    have r3 := h1 3 (by omega) (by omega)
    show 0 < m4 a (p 0) (p 1) (p 2) (p 3) (p 0) (p 1) (p 2) (p 3)
    exact po4 hp ⟨r0.1.1, h4 0 1 (by omega) (by omega) (by omega), h4 1 2 (by omega) (by omega) (by omega), h4 2 3 (by omega) (by omega) (by omega), r3.1.2⟩ r0.2.1 r1.2.1 r2.2.1 r3.2.1
end AG
section AM
variable {fl rs rg db q pc p op : Int → Int} {d : Nat}
theorem wZ_nn (hd : ∀ i, 0 ≤ i → i < 16 → fl i ≠ -1 → 1 ≤ db i ∧ db i ≤ 14) : ∀ r, 0 ≤ r → r < 16 → 0 ≤ wZ fl db r := fun r a b => by
  unfold wZ
  split
  · omega
  · rename_i q; have := hd r a b q; omega
theorem pd_of (hne : ∀ i, 0 ≤ i → i < 16 → fl i ≠ -1 → rs i ≠ rg i) (hd : ∀ i, 0 ≤ i → i < 16 → fl i ≠ -1 → 1 ≤ db i ∧ db i ≤ 14) (hs : ∀ i, 0 ≤ rs i ∧ rs i < 8) (hg : ∀ i, 0 ≤ rg i ∧ rg i < 8) (hI : chI fl rs rg 4 op q) : pdZ (lpZ fl rs rg db 16) q := fun v hv c c0 c4 hc => by
  have h0 := en_P (lp_A hne) (wZ_nn hd) v
  by_cases z : d4 (rA (lpZ fl rs rg db 16) v) v = 0
  · have hcs : csZ fl rs rg (exT v) := fun r a b e => by
      have h1 := en_b (lp_A hne) (wZ_nn hd) z a b (by unfold wZ; rw [if_neg e]; have := hd r a b e; omega)
      have h2 := exT_be (u := v) (hs r) (hg r)
      omega
    have := hI.2.2.2.2.2.1 (exT v) hcs (fun x a _ => if_neg (by omega)) (fun x a b e => by rw [exT_in b]; exact hv x a b e) c c0 (by omega) (hI.2.2.1 c c0 c4)
    rw [exT_in c4] at this
    exact absurd this hc
  · omega
theorem ag_M (hne : ∀ i, 0 ≤ i → i < 16 → fl i ≠ -1 → rs i ≠ rg i) (hd : ∀ i, 0 ≤ i → i < 16 → fl i ≠ -1 → 1 ≤ db i ∧ db i ≤ 14) (hs : ∀ i, 0 ≤ rs i ∧ rs i < 8) (hg : ∀ i, 0 ≤ rg i ∧ rg i < 8) (hI : chI fl rs rg 4 op q) (h : plP q pc d p) : 0 < dtZ d (fun i j => lpZ fl rs rg db 16 (p i) (p j)) ∧ ∀ r, 0 ≤ r → r < 16 → fl r ≠ -1 → (fl r * dtZ d (fun i j => lpZ fl rs rg db 16 (p i) (p j)) - db r * (exT (yyZ (lpZ fl rs rg db 16) (fun c => exZ fl rs rg c 16) pc p d) (rg r) - exT (yyZ (lpZ fl rs rg db 16) (fun c => exZ fl rs rg c 16) pc p d) (rs r))) * agD fl rs rg db = agT fl rs rg db r * dtZ d (fun i j => lpZ fl rs rg db 16 (p i) (p j)) := by
  have hpd := pd_of hne hd hs hg hI
  have hw := wZ_nn hd
  have hA := lp_A (db := db) hne
  have hS := lp_S (db := db) hne
  have hU := fun l l0 ld => yy_U (a := lpZ fl rs rg db 16) (ex := fun c => exZ fl rs rg c 16) h hS (l := l) l0 ld
  refine ⟨dt_pos h hpd, fun r r0 r16 hr => ?_⟩
  have hP := lp_P hne hd
  have hX := en_X hA hw (f := fZ fl) (ex := fun c => exZ fl rs rg c 16) (fun r a b z => by
    unfold wZ at z; unfold fZ
    by_cases e : fl r = -1
    · rw [if_pos e]
    · rw [if_neg e] at z; have := hd r a b e; omega) (fun i _ _ => ex_f i)
  generalize hy : yyZ (lpZ fl rs rg db 16) (fun c => exZ fl rs rg c 16) pc p d = y at *
  generalize hD : dtZ d (fun i j => lpZ fl rs rg db 16 (p i) (p j)) = D at *
  have hn : ∀ c, 0 ≤ c → c < 4 → q c ≠ -2 → rA (lpZ fl rs rg db 16) y c = D * exZ fl rs rg c 16 := fun c c0 c4 z => by
    obtain ⟨h1, h2⟩ := h.2.2.1 c c0 c4 z
    have := hU (pc c) h1.1 h1.2
    rw [h2] at this
    exact this
  have step : ∀ c, 0 ≤ c → c < 4 → (∀ g, c < g → g < 4 → rA (lpZ fl rs rg db 16) y g - D * exZ fl rs rg g 16 = 0) → rA (lpZ fl rs rg db 16) y c - D * exZ fl rs rg c 16 = 0 := fun c c0 c4 hgt => by
    by_cases z : q c = -2
    · obtain ⟨K, k1, k2, k3, k4⟩ := hI.2.2.2.2.2.2 c c0 c4 z
      have hKb : ∀ r, 0 ≤ r → r < 16 → fl r ≠ -1 → d4 K (beZ (rs r) (rg r)) = 0 := fun r a b e => by
        rw [← d4_be (P := K) (pu := K) (fun _ _ _ => rfl) k2 (hs r) (hg r), k1 r a b e]; omega
      have hK0 : ∀ j, 0 ≤ j → j < 4 → rA (lpZ fl rs rg db 16) K j = 0 := fun j j0 j4 => by
        rw [rA_s hA K j0 j4]
        refine sumZ_0 (fun r a b => ?_)
        by_cases e : fl r = -1
        · unfold wZ; rw [if_pos e]; simp
        · rw [hKb r a (by omega) e]; simp
      have hKx := hX K hK0
      have hKy : d4 K (rA (lpZ fl rs rg db 16) y) = 0 := by
        have e1 : d4 K (rA (lpZ fl rs rg db 16) y) = d4 y (rA (lpZ fl rs rg db 16) K) := by
          have s01 := hS 0 1 (by omega) (by omega) (by omega) (by omega)
          have s02 := hS 0 2 (by omega) (by omega) (by omega) (by omega)
          have s03 := hS 0 3 (by omega) (by omega) (by omega) (by omega)
          have s12 := hS 1 2 (by omega) (by omega) (by omega) (by omega)
          have s13 := hS 1 3 (by omega) (by omega) (by omega) (by omega)
          have s23 := hS 2 3 (by omega) (by omega) (by omega) (by omega)
          unfold rA d4
          dsimp only
          rw [s01, s02, s03, s12, s13, s23]
          grind
        rw [e1, d4_congr (v' := fun _ => 0) hK0]; simp [d4]
      have hr0 : d4 K (fun i => rA (lpZ fl rs rg db 16) y i - D * exZ fl rs rg i 16) = 0 := by
        have e2 : d4 K (fun i => rA (lpZ fl rs rg db 16) y i - D * exZ fl rs rg i 16) = d4 K (rA (lpZ fl rs rg db 16) y) - D * d4 K (fun c => exZ fl rs rg c 16) := by unfold d4; dsimp only; grind
        rw [e2, hKy, hKx]; simp
      have lo : ∀ g, 0 ≤ g → g < c → K g * (rA (lpZ fl rs rg db 16) y g - D * exZ fl rs rg g 16) = 0 := fun g g0 gc => by
        by_cases e : q g = -2
        · rw [k4 g g0 gc e, Int.zero_mul]
        · rw [hn g g0 (by omega) e, Int.sub_self, Int.mul_zero]
      have hi : ∀ g, c < g → g < 4 → K g * (rA (lpZ fl rs rg db 16) y g - D * exZ fl rs rg g 16) = 0 := fun g g0 gc => by rw [hgt g g0 gc, Int.mul_zero]
      obtain ⟨R, hRe⟩ : ∃ R : Int → Int, ∀ g, R g = rA (lpZ fl rs rg db 16) y g - D * exZ fl rs rg g 16 := ⟨_, fun _ => rfl⟩
      rw [← d4_congr (v := R) (fun i _ _ => hRe i)] at hr0
      have hR : ∀ g, 0 ≤ g → g < 4 → g ≠ c → K g * R g = 0 := fun g a b e => by
        by_cases x : g < c
        · rw [hRe]; exact lo g a x
        · rw [hRe]; exact hi g (by omega) b
      have t0 := hR 0 (by omega) (by omega)
      have t1 := hR 1 (by omega) (by omega)
      have t2 := hR 2 (by omega) (by omega)
      have t3 := hR 3 (by omega) (by omega)
      rw [← hRe c]
      have hc : c = 0 ∨ c = 1 ∨ c = 2 ∨ c = 3 := by omega
      unfold d4 at hr0
      rcases hc with rfl | rfl | rfl | rfl <;> grind
    · rw [hn c c0 c4 z]; omega
  have y3 := step 3 (by omega) (by omega) (fun g a b => by omega)
  have y2 := step 2 (by omega) (by omega) (fun g a b => by obtain rfl : g = 3 := by omega
                                                           exact y3)
  have y1 := step 1 (by omega) (by omega) (fun g a b => by
    have hg : g = 2 ∨ g = 3 := by omega
    rcases hg with rfl | rfl <;> assumption)
  have y0 := step 0 (by omega) (by omega) (fun g a b => by
    have hg : g = 1 ∨ g = 2 ∨ g = 3 := by omega
    rcases hg with rfl | rfl | rfl <;> assumption)
  have hyA : ∀ i, 0 ≤ i → i < 4 → rA (lpZ fl rs rg db 16) y i = D * exZ fl rs rg i 16 := c4 (by omega) (by omega) (by omega) (by omega)
  have hE := en_U hA hw hP hyA r0 r16 (by unfold wZ; rw [if_neg hr]; have := hd r r0 r16 hr; omega)
  rw [exT_be (hs r) (hg r)]
  unfold agT
  have hE : D * d4 (agP fl rs rg db) (beZ (rs r) (rg r)) = agD fl rs rg db * d4 y (beZ (rs r) (rg r)) := hE
  grind
end AM
