/-! the sum over all ways that the reference goes through is the determinant -/
def lsZ (f : Int → Int) : List Nat → Int
  | [] => 0
  | a :: l => lsZ f l + f a
theorem lsZ_a (f : Int → Int) (y : Nat) : ∀ l : List Nat, lsZ f (l ++ [y]) = lsZ f l + f y
  | [] => by show 0 + f y = 0 + f y; rfl
  | a :: l => by
    show lsZ f (l ++ [y]) + f a = lsZ f l + f a + f y
    rw [lsZ_a f y l]; omega
theorem sumZ_l (f : Int → Int) (P : Nat → Bool) (h : ∀ w : Nat, P w = false → f w = 0) : ∀ N : Nat, sumZ f N = lsZ f ((List.range N).filter P)
  | 0 => rfl
  | N + 1 => by
    rw [List.range_succ, List.filter_append]
    show sumZ f N + f N = _
    rw [sumZ_l f P h N]
    by_cases q : P N = true
    · rw [show List.filter P [N] = [N] by simp [q], lsZ_a]
    · have q2 : P N = false := by simpa using q
      rw [show List.filter P [N] = [] by simp [q2], List.append_nil, h N q2, Int.add_zero]
/-- the ways' digits -/
def cD (n w : Int) : Int → Int := fun k => w / n ^ k.toNat % n
def s2Z (c : Int → Int) (k v : Int) : Nat → Int
  | 0 => v
  | l + 1 => if c l = c k then 0 else if c k < c l then -(s2Z c k v l) else s2Z c k v l
def s1Z (c : Int → Int) : Nat → Int
  | 0 => 1
  | k + 1 => s2Z c k (s1Z c k) k
def prZ (c : Int → Int) (e : Int → Int → Int) (v : Int) : Nat → Int
  | 0 => v
  | k + 1 => prZ c e v k * e k (c k)
def tmZ (n : Nat) (e : Int → Int → Int) (w : Int) : Int := prZ (cD n w) e (s1Z (cD n w) n) n
def dtZ (n : Nat) (e : Int → Int → Int) : Int := sumZ (tmZ n e) (n ^ n)
theorem prZ_0 {c : Int → Int} {e : Int → Int → Int} {v : Int} {k : Nat} (h : prZ c e v k = 0) : ∀ m : Nat, k ≤ m → prZ c e v m = 0 := fun m hm => by
  induction m with
  | zero =>
    obtain rfl : k = 0 := by omega
    exact h
  | succ m ih =>
    by_cases q : k = m + 1
    · rw [← q]; exact h
    · show prZ c e v m * _ = 0
      rw [ih (by omega), Int.zero_mul]
theorem tmZ_0 {n : Nat} {e : Int → Int → Int} (w : Nat) (h : (!decide (s1Z (cD n w) n = 0)) = false) : tmZ n e w = 0 := by
  have h : s1Z (cD n w) n = 0 := by simpa using h
  exact prZ_0 (k := 0) h n (by omega)
theorem s2Z_R (c : Int → Int) (k : Int) {v : Int} (hv : -1 ≤ v ∧ v ≤ 1) : ∀ l : Nat, (-1 ≤ s2Z c k v l ∧ s2Z c k v l ≤ 1) ∧ (s2Z c k v l ≠ 0 → v ≠ 0 ∧ ∀ j : Int, 0 ≤ j → j < l → c j ≠ c k)
  | 0 => ⟨hv, fun h => ⟨h, fun j a b => by omega⟩⟩
  | l + 1 => by
    obtain ⟨h1, h2⟩ := s2Z_R c k hv l
    have e : s2Z c k v (l + 1) = if c l = c k then 0 else if c k < c l then -(s2Z c k v l) else s2Z c k v l := rfl
    by_cases q : c l = c k
    · rw [e, if_pos q]; exact ⟨by omega, fun z => absurd rfl z⟩
    · have hj : s2Z c k v l ≠ 0 → v ≠ 0 ∧ ∀ j : Int, 0 ≤ j → j < ((l + 1 : Nat) : Int) → c j ≠ c k := fun z => ⟨(h2 z).1, fun j a b => by
        by_cases e : j = l
        · rw [e]; exact q
        · exact (h2 z).2 j a (by omega)⟩
      rw [e, if_neg q]
      by_cases q2 : c k < c l
      · rw [if_pos q2]; exact ⟨by omega, fun z => hj (by omega)⟩
      · rw [if_neg q2]; exact ⟨by omega, hj⟩
theorem s1Z_R (c : Int → Int) : ∀ k : Nat, (-1 ≤ s1Z c k ∧ s1Z c k ≤ 1) ∧ (s1Z c k ≠ 0 → ∀ i j : Int, 0 ≤ i → i < j → j < k → c i ≠ c j)
  | 0 => ⟨by show -1 ≤ (1 : Int) ∧ (1 : Int) ≤ 1; omega, fun _ i j a b d => by omega⟩
  | k + 1 => by
    obtain ⟨h1, h2⟩ := s1Z_R c k
    obtain ⟨h3, h4⟩ := s2Z_R c k h1 k
    refine ⟨h3, fun z i j a b d => ?_⟩
    have z2 := h4 z
    by_cases e : j = k
    · rw [e]; exact z2.2 i a (by omega)
    · exact h2 z2.1 i j a b (by omega)
/-- products keep within bounds: the other column stands in a way only once -/
theorem prZ_b {c : Int → Int} {e : Int → Int → Int} {n : Nat} {v x : Int} (hn : n ≤ 4) (hv : -1 ≤ v ∧ v ≤ 1) (hc : ∀ i j : Int, 0 ≤ i → i < j → j < n → c i ≠ c j) (hR : ∀ k : Int, 0 ≤ k → k < n → 0 ≤ c k ∧ c k < n) (h1 : ∀ k j : Int, 0 ≤ k → k < n → 0 ≤ j → j < n → j ≠ x → bdZ (e k j) 224) (h2 : ∀ k : Int, 0 ≤ k → k < n → bdZ (e k x) 1600000) : ∀ k : Nat, k ≤ n → ((∀ j : Int, 0 ≤ j → j < k → c j ≠ x) → bdZ (prZ c e v k) (224 ^ k)) ∧ bdZ (prZ c e v k) (1600000 * 224 ^ (k - 1))
  | 0, _ => ⟨fun _ => ⟨by show -(224 ^ 0) ≤ v; omega, by show v ≤ 224 ^ 0; omega⟩, ⟨by show -(1600000 * 224 ^ (0 - 1)) ≤ v; omega, by show v ≤ 1600000 * 224 ^ (0 - 1); omega⟩⟩
  | k + 1, hk => by
    obtain ⟨i1, i2⟩ := prZ_b hn hv hc hR h1 h2 k (by omega)
    have hr := hR k (by omega) (by omega)
    have e1 : prZ c e v (k + 1) = prZ c e v k * e k (c k) := rfl
    have hkk : k = 0 ∨ k = 1 ∨ k = 2 ∨ k = 3 := by omega
    rw [e1]
    by_cases q : c k = x
    · have i3 := i1 (fun j a b z => hc j k a b (by omega) (z.trans q.symm))
      refine ⟨fun z => absurd q (z k (by omega) (by omega)), ?_⟩
      rw [q]
      refine bd_le (bd_mul i3 (h2 k (by omega) (by omega))) ?_
      rcases hkk with rfl | rfl | rfl | rfl <;> decide
    · have hb := h1 k (c k) (by omega) (by omega) hr.1 hr.2 q
      refine ⟨fun z => bd_le (bd_mul (i1 (fun j a b => z j a (by omega))) hb) ?_, ?_⟩
      · rcases hkk with rfl | rfl | rfl | rfl <;> decide
      · by_cases k0 : k = 0
        · subst k0
          refine bd_le (bd_mul (i1 (fun j a b => by omega)) hb) ?_
          decide
        · refine bd_le (bd_mul i2 hb) ?_
          rcases hkk with rfl | rfl | rfl | rfl
          · omega
          · decide
          · decide
          · decide
theorem cD_R {n w : Int} (hn : 0 < n) (k : Int) : 0 ≤ cD n w k ∧ cD n w k < n := ⟨Int.emod_nonneg _ (by omega), Int.emod_lt_of_pos _ hn⟩
/-- one way's product, and the whole sum -/
theorem tm_b {e : Int → Int → Int} {n : Nat} {x : Int} (hn : n ≤ 4) (h1 : ∀ k j : Int, 0 ≤ k → k < n → 0 ≤ j → j < n → j ≠ x → bdZ (e k j) 224) (h2 : ∀ k : Int, 0 ≤ k → k < n → bdZ (e k x) 1600000) (w : Int) : ∀ k : Nat, k ≤ n → bdZ (prZ (cD n w) e (s1Z (cD n w) n) k) 17983078400000 := fun k hk => by
  obtain ⟨hv, hd⟩ := s1Z_R (cD n w) n
  by_cases z : s1Z (cD n w) n = 0
  · rw [z, prZ_0 (k := 0) rfl k (by omega)]; exact ⟨by omega, by omega⟩
  · have hb := (prZ_b hn hv (hd z) (fun k a b => cD_R (by omega) k) h1 h2 k hk).2
    refine bd_le hb ?_
    have hkk : k = 0 ∨ k = 1 ∨ k = 2 ∨ k = 3 ∨ k = 4 := by omega
    rcases hkk with rfl | rfl | rfl | rfl | rfl <;> decide
theorem dt_b {e : Int → Int → Int} {n : Nat} {x : Int} (hn : n ≤ 4) (h1 : ∀ k j : Int, 0 ≤ k → k < n → 0 ≤ j → j < n → j ≠ x → bdZ (e k j) 224) (h2 : ∀ k : Int, 0 ≤ k → k < n → bdZ (e k x) 1600000) : bdZ (dtZ n e) 4603668070400000 := by
  have hw : (n ^ n : Nat) ≤ 256 := by
    have hkk : n = 0 ∨ n = 1 ∨ n = 2 ∨ n = 3 ∨ n = 4 := by omega
    rcases hkk with rfl | rfl | rfl | rfl | rfl <;> decide
  have h := sumZ_bd (f := tmZ n e) (B := 17983078400000) (n ^ n) (fun w _ _ => tm_b hn h1 h2 w n (by omega))
  unfold dtZ bdZ
  omega
theorem tm0 (e : Int → Int → Int) (w : Int) : tmZ 0 e w = s1Z (cD 0 w) 0 := rfl
theorem dt0 (e : Int → Int → Int) : dtZ 0 e = 1 := by
  have hl : (List.range (0 ^ 0)).filter (fun w : Nat => !decide (s1Z (cD (0 : Nat) w) 0 = 0)) = [0] := by decide +kernel
  unfold dtZ
  rw [sumZ_l (tmZ 0 e) (fun w : Nat => !decide (s1Z (cD (0 : Nat) w) 0 = 0)) tmZ_0, hl]
  have t0 : tmZ 0 e ((0 : Nat) : Int) = (1) := by
    rw [tm0, show s1Z (cD 0 ((0 : Nat) : Int)) 0 = 1 by decide +kernel]
  simp only [lsZ, t0]
  first | rfl | (unfold dtZ; grind) | grind
theorem tm1 (e : Int → Int → Int) (w : Int) : tmZ 1 e w = s1Z (cD 1 w) 1 * e 0 (cD 1 w 0) := rfl
theorem dt1 (e : Int → Int → Int) : dtZ 1 e = e 0 0 := by
  have hl : (List.range (1 ^ 1)).filter (fun w : Nat => !decide (s1Z (cD (1 : Nat) w) 1 = 0)) = [0] := by decide +kernel
  unfold dtZ
  rw [sumZ_l (tmZ 1 e) (fun w : Nat => !decide (s1Z (cD (1 : Nat) w) 1 = 0)) tmZ_0, hl]
  have t0 : tmZ 1 e ((0 : Nat) : Int) = (1) * e 0 0 := by
    rw [tm1, show s1Z (cD 1 ((0 : Nat) : Int)) 1 = 1 by decide +kernel, show cD 1 ((0 : Nat) : Int) 0 = 0 by decide +kernel]
  simp only [lsZ, t0]
  first | rfl | (unfold dtZ; grind) | grind
theorem tm2 (e : Int → Int → Int) (w : Int) : tmZ 2 e w = s1Z (cD 2 w) 2 * e 0 (cD 2 w 0) * e 1 (cD 2 w 1) := rfl
theorem dt2 (e : Int → Int → Int) : dtZ 2 e = m2 e 0 1 0 1 := by
  have hl : (List.range (2 ^ 2)).filter (fun w : Nat => !decide (s1Z (cD (2 : Nat) w) 2 = 0)) = [1, 2] := by decide +kernel
  unfold dtZ
  rw [sumZ_l (tmZ 2 e) (fun w : Nat => !decide (s1Z (cD (2 : Nat) w) 2 = 0)) tmZ_0, hl]
  have t1 : tmZ 2 e ((1 : Nat) : Int) = (-1) * e 0 1 * e 1 0 := by
    rw [tm2, show s1Z (cD 2 ((1 : Nat) : Int)) 2 = -1 by decide +kernel, show cD 2 ((1 : Nat) : Int) 0 = 1 by decide +kernel, show cD 2 ((1 : Nat) : Int) 1 = 0 by decide +kernel]
  have t2 : tmZ 2 e ((2 : Nat) : Int) = (1) * e 0 0 * e 1 1 := by
    rw [tm2, show s1Z (cD 2 ((2 : Nat) : Int)) 2 = 1 by decide +kernel, show cD 2 ((2 : Nat) : Int) 0 = 0 by decide +kernel, show cD 2 ((2 : Nat) : Int) 1 = 1 by decide +kernel]
  simp only [lsZ, t1, t2]
  first | rfl | (unfold m2; grind) | grind
theorem tm3 (e : Int → Int → Int) (w : Int) : tmZ 3 e w = s1Z (cD 3 w) 3 * e 0 (cD 3 w 0) * e 1 (cD 3 w 1) * e 2 (cD 3 w 2) := rfl
theorem dt3 (e : Int → Int → Int) : dtZ 3 e = m3 e 0 1 2 0 1 2 := by
  have hl : (List.range (3 ^ 3)).filter (fun w : Nat => !decide (s1Z (cD (3 : Nat) w) 3 = 0)) = [5, 7, 11, 15, 19, 21] := by decide +kernel
  unfold dtZ
  rw [sumZ_l (tmZ 3 e) (fun w : Nat => !decide (s1Z (cD (3 : Nat) w) 3 = 0)) tmZ_0, hl]
  have t5 : tmZ 3 e ((5 : Nat) : Int) = (-1) * e 0 2 * e 1 1 * e 2 0 := by
    rw [tm3, show s1Z (cD 3 ((5 : Nat) : Int)) 3 = -1 by decide +kernel, show cD 3 ((5 : Nat) : Int) 0 = 2 by decide +kernel, show cD 3 ((5 : Nat) : Int) 1 = 1 by decide +kernel, show cD 3 ((5 : Nat) : Int) 2 = 0 by decide +kernel]
  have t7 : tmZ 3 e ((7 : Nat) : Int) = (1) * e 0 1 * e 1 2 * e 2 0 := by
    rw [tm3, show s1Z (cD 3 ((7 : Nat) : Int)) 3 = 1 by decide +kernel, show cD 3 ((7 : Nat) : Int) 0 = 1 by decide +kernel, show cD 3 ((7 : Nat) : Int) 1 = 2 by decide +kernel, show cD 3 ((7 : Nat) : Int) 2 = 0 by decide +kernel]
  have t11 : tmZ 3 e ((11 : Nat) : Int) = (1) * e 0 2 * e 1 0 * e 2 1 := by
    rw [tm3, show s1Z (cD 3 ((11 : Nat) : Int)) 3 = 1 by decide +kernel, show cD 3 ((11 : Nat) : Int) 0 = 2 by decide +kernel, show cD 3 ((11 : Nat) : Int) 1 = 0 by decide +kernel, show cD 3 ((11 : Nat) : Int) 2 = 1 by decide +kernel]
  have t15 : tmZ 3 e ((15 : Nat) : Int) = (-1) * e 0 0 * e 1 2 * e 2 1 := by
    rw [tm3, show s1Z (cD 3 ((15 : Nat) : Int)) 3 = -1 by decide +kernel, show cD 3 ((15 : Nat) : Int) 0 = 0 by decide +kernel, show cD 3 ((15 : Nat) : Int) 1 = 2 by decide +kernel, show cD 3 ((15 : Nat) : Int) 2 = 1 by decide +kernel]
  have t19 : tmZ 3 e ((19 : Nat) : Int) = (-1) * e 0 1 * e 1 0 * e 2 2 := by
    rw [tm3, show s1Z (cD 3 ((19 : Nat) : Int)) 3 = -1 by decide +kernel, show cD 3 ((19 : Nat) : Int) 0 = 1 by decide +kernel, show cD 3 ((19 : Nat) : Int) 1 = 0 by decide +kernel, show cD 3 ((19 : Nat) : Int) 2 = 2 by decide +kernel]
  have t21 : tmZ 3 e ((21 : Nat) : Int) = (1) * e 0 0 * e 1 1 * e 2 2 := by
    rw [tm3, show s1Z (cD 3 ((21 : Nat) : Int)) 3 = 1 by decide +kernel, show cD 3 ((21 : Nat) : Int) 0 = 0 by decide +kernel, show cD 3 ((21 : Nat) : Int) 1 = 1 by decide +kernel, show cD 3 ((21 : Nat) : Int) 2 = 2 by decide +kernel]
  simp only [lsZ, t5, t7, t11, t15, t19, t21]
  first | rfl | (unfold m3 m2; grind) | grind
theorem tm4 (e : Int → Int → Int) (w : Int) : tmZ 4 e w = s1Z (cD 4 w) 4 * e 0 (cD 4 w 0) * e 1 (cD 4 w 1) * e 2 (cD 4 w 2) * e 3 (cD 4 w 3) := rfl
theorem dt4 (e : Int → Int → Int) : dtZ 4 e = m4 e 0 1 2 3 0 1 2 3 := by
  have hl : (List.range (4 ^ 4)).filter (fun w : Nat => !decide (s1Z (cD (4 : Nat) w) 4 = 0)) = [27, 30, 39, 45, 54, 57, 75, 78, 99, 108, 114, 120, 135, 141, 147, 156, 177, 180, 198, 201, 210, 216, 225, 228] := by decide +kernel
  unfold dtZ
  rw [sumZ_l (tmZ 4 e) (fun w : Nat => !decide (s1Z (cD (4 : Nat) w) 4 = 0)) tmZ_0, hl]
  have t27 : tmZ 4 e ((27 : Nat) : Int) = (1) * e 0 3 * e 1 2 * e 2 1 * e 3 0 := by
    rw [tm4, show s1Z (cD 4 ((27 : Nat) : Int)) 4 = 1 by decide +kernel, show cD 4 ((27 : Nat) : Int) 0 = 3 by decide +kernel, show cD 4 ((27 : Nat) : Int) 1 = 2 by decide +kernel, show cD 4 ((27 : Nat) : Int) 2 = 1 by decide +kernel, show cD 4 ((27 : Nat) : Int) 3 = 0 by decide +kernel]
  have t30 : tmZ 4 e ((30 : Nat) : Int) = (-1) * e 0 2 * e 1 3 * e 2 1 * e 3 0 := by
    rw [tm4, show s1Z (cD 4 ((30 : Nat) : Int)) 4 = -1 by decide +kernel, show cD 4 ((30 : Nat) : Int) 0 = 2 by decide +kernel, show cD 4 ((30 : Nat) : Int) 1 = 3 by decide +kernel, show cD 4 ((30 : Nat) : Int) 2 = 1 by decide +kernel, show cD 4 ((30 : Nat) : Int) 3 = 0 by decide +kernel]
  have t39 : tmZ 4 e ((39 : Nat) : Int) = (-1) * e 0 3 * e 1 1 * e 2 2 * e 3 0 := by
    rw [tm4, show s1Z (cD 4 ((39 : Nat) : Int)) 4 = -1 by decide +kernel, show cD 4 ((39 : Nat) : Int) 0 = 3 by decide +kernel, show cD 4 ((39 : Nat) : Int) 1 = 1 by decide +kernel, show cD 4 ((39 : Nat) : Int) 2 = 2 by decide +kernel, show cD 4 ((39 : Nat) : Int) 3 = 0 by decide +kernel]
  have t45 : tmZ 4 e ((45 : Nat) : Int) = (1) * e 0 1 * e 1 3 * e 2 2 * e 3 0 := by
    rw [tm4, show s1Z (cD 4 ((45 : Nat) : Int)) 4 = 1 by decide +kernel, show cD 4 ((45 : Nat) : Int) 0 = 1 by decide +kernel, show cD 4 ((45 : Nat) : Int) 1 = 3 by decide +kernel, show cD 4 ((45 : Nat) : Int) 2 = 2 by decide +kernel, show cD 4 ((45 : Nat) : Int) 3 = 0 by decide +kernel]
  have t54 : tmZ 4 e ((54 : Nat) : Int) = (1) * e 0 2 * e 1 1 * e 2 3 * e 3 0 := by
    rw [tm4, show s1Z (cD 4 ((54 : Nat) : Int)) 4 = 1 by decide +kernel, show cD 4 ((54 : Nat) : Int) 0 = 2 by decide +kernel, show cD 4 ((54 : Nat) : Int) 1 = 1 by decide +kernel, show cD 4 ((54 : Nat) : Int) 2 = 3 by decide +kernel, show cD 4 ((54 : Nat) : Int) 3 = 0 by decide +kernel]
  have t57 : tmZ 4 e ((57 : Nat) : Int) = (-1) * e 0 1 * e 1 2 * e 2 3 * e 3 0 := by
    rw [tm4, show s1Z (cD 4 ((57 : Nat) : Int)) 4 = -1 by decide +kernel, show cD 4 ((57 : Nat) : Int) 0 = 1 by decide +kernel, show cD 4 ((57 : Nat) : Int) 1 = 2 by decide +kernel, show cD 4 ((57 : Nat) : Int) 2 = 3 by decide +kernel, show cD 4 ((57 : Nat) : Int) 3 = 0 by decide +kernel]
  have t75 : tmZ 4 e ((75 : Nat) : Int) = (-1) * e 0 3 * e 1 2 * e 2 0 * e 3 1 := by
    rw [tm4, show s1Z (cD 4 ((75 : Nat) : Int)) 4 = -1 by decide +kernel, show cD 4 ((75 : Nat) : Int) 0 = 3 by decide +kernel, show cD 4 ((75 : Nat) : Int) 1 = 2 by decide +kernel, show cD 4 ((75 : Nat) : Int) 2 = 0 by decide +kernel, show cD 4 ((75 : Nat) : Int) 3 = 1 by decide +kernel]
  have t78 : tmZ 4 e ((78 : Nat) : Int) = (1) * e 0 2 * e 1 3 * e 2 0 * e 3 1 := by
    rw [tm4, show s1Z (cD 4 ((78 : Nat) : Int)) 4 = 1 by decide +kernel, show cD 4 ((78 : Nat) : Int) 0 = 2 by decide +kernel, show cD 4 ((78 : Nat) : Int) 1 = 3 by decide +kernel, show cD 4 ((78 : Nat) : Int) 2 = 0 by decide +kernel, show cD 4 ((78 : Nat) : Int) 3 = 1 by decide +kernel]
  have t99 : tmZ 4 e ((99 : Nat) : Int) = (1) * e 0 3 * e 1 0 * e 2 2 * e 3 1 := by
    rw [tm4, show s1Z (cD 4 ((99 : Nat) : Int)) 4 = 1 by decide +kernel, show cD 4 ((99 : Nat) : Int) 0 = 3 by decide +kernel, show cD 4 ((99 : Nat) : Int) 1 = 0 by decide +kernel, show cD 4 ((99 : Nat) : Int) 2 = 2 by decide +kernel, show cD 4 ((99 : Nat) : Int) 3 = 1 by decide +kernel]
  have t108 : tmZ 4 e ((108 : Nat) : Int) = (-1) * e 0 0 * e 1 3 * e 2 2 * e 3 1 := by
    rw [tm4, show s1Z (cD 4 ((108 : Nat) : Int)) 4 = -1 by decide +kernel, show cD 4 ((108 : Nat) : Int) 0 = 0 by decide +kernel, show cD 4 ((108 : Nat) : Int) 1 = 3 by decide +kernel, show cD 4 ((108 : Nat) : Int) 2 = 2 by decide +kernel, show cD 4 ((108 : Nat) : Int) 3 = 1 by decide +kernel]
  have t114 : tmZ 4 e ((114 : Nat) : Int) = (-1) * e 0 2 * e 1 0 * e 2 3 * e 3 1 := by
    rw [tm4, show s1Z (cD 4 ((114 : Nat) : Int)) 4 = -1 by decide +kernel, show cD 4 ((114 : Nat) : Int) 0 = 2 by decide +kernel, show cD 4 ((114 : Nat) : Int) 1 = 0 by decide +kernel, show cD 4 ((114 : Nat) : Int) 2 = 3 by decide +kernel, show cD 4 ((114 : Nat) : Int) 3 = 1 by decide +kernel]
  have t120 : tmZ 4 e ((120 : Nat) : Int) = (1) * e 0 0 * e 1 2 * e 2 3 * e 3 1 := by
    rw [tm4, show s1Z (cD 4 ((120 : Nat) : Int)) 4 = 1 by decide +kernel, show cD 4 ((120 : Nat) : Int) 0 = 0 by decide +kernel, show cD 4 ((120 : Nat) : Int) 1 = 2 by decide +kernel, show cD 4 ((120 : Nat) : Int) 2 = 3 by decide +kernel, show cD 4 ((120 : Nat) : Int) 3 = 1 by decide +kernel]
  have t135 : tmZ 4 e ((135 : Nat) : Int) = (1) * e 0 3 * e 1 1 * e 2 0 * e 3 2 := by
    rw [tm4, show s1Z (cD 4 ((135 : Nat) : Int)) 4 = 1 by decide +kernel, show cD 4 ((135 : Nat) : Int) 0 = 3 by decide +kernel, show cD 4 ((135 : Nat) : Int) 1 = 1 by decide +kernel, show cD 4 ((135 : Nat) : Int) 2 = 0 by decide +kernel, show cD 4 ((135 : Nat) : Int) 3 = 2 by decide +kernel]
  have t141 : tmZ 4 e ((141 : Nat) : Int) = (-1) * e 0 1 * e 1 3 * e 2 0 * e 3 2 := by
    rw [tm4, show s1Z (cD 4 ((141 : Nat) : Int)) 4 = -1 by decide +kernel, show cD 4 ((141 : Nat) : Int) 0 = 1 by decide +kernel, show cD 4 ((141 : Nat) : Int) 1 = 3 by decide +kernel, show cD 4 ((141 : Nat) : Int) 2 = 0 by decide +kernel, show cD 4 ((141 : Nat) : Int) 3 = 2 by decide +kernel]
  have t147 : tmZ 4 e ((147 : Nat) : Int) = (-1) * e 0 3 * e 1 0 * e 2 1 * e 3 2 := by
    rw [tm4, show s1Z (cD 4 ((147 : Nat) : Int)) 4 = -1 by decide +kernel, show cD 4 ((147 : Nat) : Int) 0 = 3 by decide +kernel, show cD 4 ((147 : Nat) : Int) 1 = 0 by decide +kernel, show cD 4 ((147 : Nat) : Int) 2 = 1 by decide +kernel, show cD 4 ((147 : Nat) : Int) 3 = 2 by decide +kernel]
  have t156 : tmZ 4 e ((156 : Nat) : Int) = (1) * e 0 0 * e 1 3 * e 2 1 * e 3 2 := by
    rw [tm4, show s1Z (cD 4 ((156 : Nat) : Int)) 4 = 1 by decide +kernel, show cD 4 ((156 : Nat) : Int) 0 = 0 by decide +kernel, show cD 4 ((156 : Nat) : Int) 1 = 3 by decide +kernel, show cD 4 ((156 : Nat) : Int) 2 = 1 by decide +kernel, show cD 4 ((156 : Nat) : Int) 3 = 2 by decide +kernel]
  have t177 : tmZ 4 e ((177 : Nat) : Int) = (1) * e 0 1 * e 1 0 * e 2 3 * e 3 2 := by
    rw [tm4, show s1Z (cD 4 ((177 : Nat) : Int)) 4 = 1 by decide +kernel, show cD 4 ((177 : Nat) : Int) 0 = 1 by decide +kernel, show cD 4 ((177 : Nat) : Int) 1 = 0 by decide +kernel, show cD 4 ((177 : Nat) : Int) 2 = 3 by decide +kernel, show cD 4 ((177 : Nat) : Int) 3 = 2 by decide +kernel]
  have t180 : tmZ 4 e ((180 : Nat) : Int) = (-1) * e 0 0 * e 1 1 * e 2 3 * e 3 2 := by
    rw [tm4, show s1Z (cD 4 ((180 : Nat) : Int)) 4 = -1 by decide +kernel, show cD 4 ((180 : Nat) : Int) 0 = 0 by decide +kernel, show cD 4 ((180 : Nat) : Int) 1 = 1 by decide +kernel, show cD 4 ((180 : Nat) : Int) 2 = 3 by decide +kernel, show cD 4 ((180 : Nat) : Int) 3 = 2 by decide +kernel]
  have t198 : tmZ 4 e ((198 : Nat) : Int) = (-1) * e 0 2 * e 1 1 * e 2 0 * e 3 3 := by
    rw [tm4, show s1Z (cD 4 ((198 : Nat) : Int)) 4 = -1 by decide +kernel, show cD 4 ((198 : Nat) : Int) 0 = 2 by decide +kernel, show cD 4 ((198 : Nat) : Int) 1 = 1 by decide +kernel, show cD 4 ((198 : Nat) : Int) 2 = 0 by decide +kernel, show cD 4 ((198 : Nat) : Int) 3 = 3 by decide +kernel]
  have t201 : tmZ 4 e ((201 : Nat) : Int) = (1) * e 0 1 * e 1 2 * e 2 0 * e 3 3 := by
    rw [tm4, show s1Z (cD 4 ((201 : Nat) : Int)) 4 = 1 by decide +kernel, show cD 4 ((201 : Nat) : Int) 0 = 1 by decide +kernel, show cD 4 ((201 : Nat) : Int) 1 = 2 by decide +kernel, show cD 4 ((201 : Nat) : Int) 2 = 0 by decide +kernel, show cD 4 ((201 : Nat) : Int) 3 = 3 by decide +kernel]
  have t210 : tmZ 4 e ((210 : Nat) : Int) = (1) * e 0 2 * e 1 0 * e 2 1 * e 3 3 := by
    rw [tm4, show s1Z (cD 4 ((210 : Nat) : Int)) 4 = 1 by decide +kernel, show cD 4 ((210 : Nat) : Int) 0 = 2 by decide +kernel, show cD 4 ((210 : Nat) : Int) 1 = 0 by decide +kernel, show cD 4 ((210 : Nat) : Int) 2 = 1 by decide +kernel, show cD 4 ((210 : Nat) : Int) 3 = 3 by decide +kernel]
  have t216 : tmZ 4 e ((216 : Nat) : Int) = (-1) * e 0 0 * e 1 2 * e 2 1 * e 3 3 := by
    rw [tm4, show s1Z (cD 4 ((216 : Nat) : Int)) 4 = -1 by decide +kernel, show cD 4 ((216 : Nat) : Int) 0 = 0 by decide +kernel, show cD 4 ((216 : Nat) : Int) 1 = 2 by decide +kernel, show cD 4 ((216 : Nat) : Int) 2 = 1 by decide +kernel, show cD 4 ((216 : Nat) : Int) 3 = 3 by decide +kernel]
  have t225 : tmZ 4 e ((225 : Nat) : Int) = (-1) * e 0 1 * e 1 0 * e 2 2 * e 3 3 := by
    rw [tm4, show s1Z (cD 4 ((225 : Nat) : Int)) 4 = -1 by decide +kernel, show cD 4 ((225 : Nat) : Int) 0 = 1 by decide +kernel, show cD 4 ((225 : Nat) : Int) 1 = 0 by decide +kernel, show cD 4 ((225 : Nat) : Int) 2 = 2 by decide +kernel, show cD 4 ((225 : Nat) : Int) 3 = 3 by decide +kernel]
  have t228 : tmZ 4 e ((228 : Nat) : Int) = (1) * e 0 0 * e 1 1 * e 2 2 * e 3 3 := by
    rw [tm4, show s1Z (cD 4 ((228 : Nat) : Int)) 4 = 1 by decide +kernel, show cD 4 ((228 : Nat) : Int) 0 = 0 by decide +kernel, show cD 4 ((228 : Nat) : Int) 1 = 1 by decide +kernel, show cD 4 ((228 : Nat) : Int) 2 = 2 by decide +kernel, show cD 4 ((228 : Nat) : Int) 3 = 3 by decide +kernel]
  simp only [lsZ, t27, t30, t39, t45, t54, t57, t75, t78, t99, t108, t114, t120, t135, t141, t147, t156, t177, t180, t198, t201, t210, t216, t225, t228]
  first | rfl | (unfold m4 m3 m2; grind) | grind
