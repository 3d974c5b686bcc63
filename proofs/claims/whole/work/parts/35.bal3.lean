/-! the table of doubts as a sum over the roads; its square form is nowhere below 0 -/
theorem sumZ_m (c : Int) (f : Int → Int) : ∀ n : Nat, sumZ (fun i => c * f i) n = c * sumZ f n
  | 0 => by simp [sumZ]
  | n + 1 => by
    show sumZ (fun i => c * f i) n + c * f n = c * (sumZ f n + f n)
    rw [sumZ_m c f n, Int.mul_add]
theorem sumZ_nn {f : Int → Int} : ∀ n : Nat, (∀ j : Int, 0 ≤ j → j < n → 0 ≤ f j) → 0 ≤ sumZ f n
  | 0, _ => by simp [sumZ]
  | n + 1, h => by
    have := sumZ_nn n (fun j a b => h j a (by omega))
    have h2 := h n (by omega) (by omega)
    show 0 ≤ sumZ f n + f n
    omega
theorem sumZ_z {f : Int → Int} : ∀ n : Nat, (∀ j : Int, 0 ≤ j → j < n → 0 ≤ f j) → sumZ f n = 0 → ∀ j : Int, 0 ≤ j → j < n → f j = 0
  | 0, _, _ => fun j a b => by omega
  | n + 1, h, hz => fun j a b => by
    have h1 := sumZ_nn n (fun j a b => h j a (by omega))
    have h2 := h n (by omega) (by omega)
    have hz : sumZ f n + f n = 0 := hz
    by_cases e : j = n
    · rw [e]; omega
    · exact sumZ_z n (fun j a b => h j a (by omega)) (by omega) j a (by omega)
theorem sumZ_0 {f : Int → Int} {n : Nat} (h : ∀ j : Int, 0 ≤ j → j < n → f j = 0) : sumZ f n = 0 := by
  rw [sumZ_congr (g := fun _ => 0) n h]
  induction n with
  | zero => rfl
  | succ n ih => show sumZ (fun _ => 0) n + 0 = 0; rw [ih (fun j a b => h j a (by omega))]; rfl
theorem sumZ_bd {f : Int → Int} {B : Int} : ∀ n : Nat, (∀ j : Int, 0 ≤ j → j < n → -B ≤ f j ∧ f j ≤ B) → -(n * B) ≤ sumZ f n ∧ sumZ f n ≤ n * B
  | 0, _ => by simp [sumZ]
  | n + 1, h => by
    have h1 := sumZ_bd n (fun j a b => h j a (by omega))
    have h2 := h n (by omega) (by omega)
    have e : ((n + 1 : Nat) : Int) * B = (n : Int) * B + B := by rw [Int.natCast_add, Int.add_mul]; simp
    rw [e]
    show -((n : Int) * B + B) ≤ sumZ f n + f n ∧ sumZ f n + f n ≤ _
    omega
theorem d4_sum (u : Int → Int) (g : Int → Int → Int) : ∀ n : Nat, d4 u (fun i => sumZ (fun r => g r i) n) = sumZ (fun r => d4 u (g r)) n
  | 0 => by simp [d4, sumZ]
  | n + 1 => by
    have e := d4_sum u g n
    show d4 u (fun i => sumZ (fun r => g r i) n + g n i) = sumZ (fun r => d4 u (g r)) n + d4 u (g n)
    rw [← e]
    unfold d4
    dsimp only
    grind
theorem d4_c (u v : Int → Int) : d4 u v = d4 v u := by unfold d4; grind
theorem d4_congr {u v v' : Int → Int} (h : ∀ i, 0 ≤ i → i < 4 → v i = v' i) : d4 u v = d4 u v' := by
  unfold d4
  rw [h 0 (by omega) (by omega), h 1 (by omega) (by omega), h 2 (by omega) (by omega), h 3 (by omega) (by omega)]
theorem sqn (x : Int) : 0 ≤ x * x := by
  by_cases h : 0 ≤ x
  · exact Int.mul_nonneg h h
  · have : 0 ≤ (-x) * (-x) := Int.mul_nonneg (by omega) (by omega)
    rwa [Int.neg_mul_neg] at this
section EN
variable {a : Int → Int → Int} {w f ex : Int → Int} {b : Int → Int → Int}
theorem rA_s (hA : ∀ i j, 0 ≤ i → i < 4 → 0 ≤ j → j < 4 → a i j = sumZ (fun r => w r * b r i * b r j) 16) (u : Int → Int) {j : Int} (h0 : 0 ≤ j) (h4 : j < 4) : rA a u j = sumZ (fun r => w r * d4 u (b r) * b r j) 16 := by
  show d4 u (fun i => a i j) = _
  rw [d4_congr (v' := fun i => sumZ (fun r => w r * b r i * b r j) 16) (fun i a b => hA i j a b h0 h4), d4_sum u (fun r i => w r * b r i * b r j)]
  exact sumZ_congr 16 (fun r _ _ => by unfold d4; dsimp only; grind)
theorem en_s (hA : ∀ i j, 0 ≤ i → i < 4 → 0 ≤ j → j < 4 → a i j = sumZ (fun r => w r * b r i * b r j) 16) (u : Int → Int) : d4 (rA a u) u = sumZ (fun r => w r * (d4 u (b r) * d4 u (b r))) 16 := by
  rw [d4_c, d4_congr (v' := fun j => sumZ (fun r => w r * d4 u (b r) * b r j) 16) (fun j h0 h4 => rA_s hA u h0 h4), d4_sum u (fun r j => w r * d4 u (b r) * b r j)]
  exact sumZ_congr 16 (fun r _ _ => by
    have : ∀ x : Int, d4 u (fun j => w r * x * b r j) = w r * x * d4 u (b r) := fun x => by unfold d4; dsimp only; grind
    show d4 u (fun j => w r * d4 u (b r) * b r j) = _
    rw [this, Int.mul_assoc])
theorem en_P (hA : ∀ i j, 0 ≤ i → i < 4 → 0 ≤ j → j < 4 → a i j = sumZ (fun r => w r * b r i * b r j) 16) (hw : ∀ r, 0 ≤ r → r < 16 → 0 ≤ w r) (u : Int → Int) : 0 ≤ d4 (rA a u) u := by
  rw [en_s hA u]
  exact sumZ_nn 16 (fun r a b => Int.mul_nonneg (hw r a (by omega)) (sqn _))
theorem en_b (hA : ∀ i j, 0 ≤ i → i < 4 → 0 ≤ j → j < 4 → a i j = sumZ (fun r => w r * b r i * b r j) 16) (hw : ∀ r, 0 ≤ r → r < 16 → 0 ≤ w r) {u : Int → Int} (h : d4 (rA a u) u = 0) {r : Int} (r0 : 0 ≤ r) (r16 : r < 16) (hr : w r ≠ 0) : d4 u (b r) = 0 := by
  rw [en_s hA u] at h
  have := sumZ_z 16 (fun r a b => Int.mul_nonneg (hw r a (by omega)) (sqn _)) h r r0 (by omega)
  rcases Int.mul_eq_zero.mp this with q | q
  · exact absurd q hr
  · rcases Int.mul_eq_zero.mp q with q | q <;> exact q
theorem en_Z (hA : ∀ i j, 0 ≤ i → i < 4 → 0 ≤ j → j < 4 → a i j = sumZ (fun r => w r * b r i * b r j) 16) (hw : ∀ r, 0 ≤ r → r < 16 → 0 ≤ w r) (u : Int → Int) (h : d4 (rA a u) u = 0) : ∀ j, 0 ≤ j → j < 4 → rA a u j = 0 := fun j j0 j4 => by
  rw [rA_s hA u j0 j4]
  refine sumZ_0 (fun r r0 r16 => ?_)
  by_cases q : w r = 0
  · rw [q]; simp
  · rw [en_b hA hw h r0 (by omega) q]; simp
theorem en_X (hA : ∀ i j, 0 ≤ i → i < 4 → 0 ≤ j → j < 4 → a i j = sumZ (fun r => w r * b r i * b r j) 16) (hw : ∀ r, 0 ≤ r → r < 16 → 0 ≤ w r) (hf : ∀ r, 0 ≤ r → r < 16 → w r = 0 → f r = 0) (hx : ∀ i, 0 ≤ i → i < 4 → ex i = sumZ (fun r => f r * b r i) 16) (u : Int → Int) (h : ∀ j, 0 ≤ j → j < 4 → rA a u j = 0) : d4 u ex = 0 := by
  have he : d4 (rA a u) u = 0 := by
    rw [d4_c, d4_congr (v' := fun _ => 0) h]; simp [d4]
  rw [d4_congr (v' := fun i => sumZ (fun r => f r * b r i) 16) hx, d4_sum u (fun r i => f r * b r i)]
  refine sumZ_0 (fun r r0 r16 => ?_)
  have e : d4 u (fun i => f r * b r i) = f r * d4 u (b r) := by unfold d4; dsimp only; grind
  show d4 u (fun i => f r * b r i) = 0
  rw [e]
  by_cases q : w r = 0
  · rw [hf r r0 (by omega) q, Int.zero_mul]
  · rw [en_b hA hw he r0 (by omega) q, Int.mul_zero]
/-- two solutions differ by nothing along a road -/
theorem en_U (hA : ∀ i j, 0 ≤ i → i < 4 → 0 ≤ j → j < 4 → a i j = sumZ (fun r => w r * b r i * b r j) 16) (hw : ∀ r, 0 ≤ r → r < 16 → 0 ≤ w r) {P y : Int → Int} {d D : Int} (hP : ∀ i, 0 ≤ i → i < 4 → rA a P i = d * ex i) (hy : ∀ i, 0 ≤ i → i < 4 → rA a y i = D * ex i) {r : Int} (r0 : 0 ≤ r) (r16 : r < 16) (hr : w r ≠ 0) : D * d4 P (b r) = d * d4 y (b r) := by
  have hz : ∀ i, 0 ≤ i → i < 4 → rA a (fun i => D * P i - d * y i) i = 0 := fun i i0 i4 => by
    have e : rA a (fun i => D * P i - d * y i) i = D * rA a P i - d * rA a y i := by unfold rA d4; dsimp only; grind
    rw [e, hP i i0 i4, hy i i0 i4]; grind
  have he : d4 (rA a (fun i => D * P i - d * y i)) (fun i => D * P i - d * y i) = 0 := by
    rw [d4_c, d4_congr (v' := fun _ => 0) hz]; simp [d4]
  have := en_b hA hw he r0 r16 hr
  have e : d4 (fun i => D * P i - d * y i) (b r) = D * d4 P (b r) - d * d4 y (b r) := by unfold d4; dsimp only; grind
  omega
end EN
def beZ (x y i : Int) : Int := (if y = i then 1 else 0) - (if x = i then 1 else 0)
theorem arZ_be {x y d i j : Int} (hi : i < 4) (hj : j < 4) (hxy : x ≠ y) : arZ x y d i j = d * beZ x y i * beZ x y j := by
  unfold arZ beZ
  by_cases q1 : x = i <;> by_cases q2 : y = i <;> by_cases q3 : x = j <;> by_cases q4 : y = j <;> (try subst q1) <;> (try subst q2) <;> (try subst q3) <;> (try subst q4) <;> simp_all <;> omega
def wZ (fl db : Int → Int) (r : Int) : Int := if fl r = -1 then 0 else db r
def fZ (fl : Int → Int) (r : Int) : Int := if fl r = -1 then 0 else fl r
section LP
variable {fl rs rg db : Int → Int}
theorem lp_A (hne : ∀ i, 0 ≤ i → i < 16 → fl i ≠ -1 → rs i ≠ rg i) : ∀ i j, 0 ≤ i → i < 4 → 0 ≤ j → j < 4 → lpZ fl rs rg db 16 i j = sumZ (fun r => wZ fl db r * beZ (rs r) (rg r) i * beZ (rs r) (rg r) j) 16 := fun i j i0 i4 j0 j4 => by
  unfold lpZ
  rw [if_neg (by omega), if_pos j4, Int.zero_add]
  refine sumZ_congr 16 (fun r r0 r16 => ?_)
  unfold wZ
  by_cases q : fl r = -1
  · rw [if_pos q, if_pos q]; simp
  · rw [if_neg q, if_neg q]
    exact arZ_be i4 j4 (hne r r0 (by omega) q)
theorem lp_I : ∀ r i, 0 ≤ r → r < 4 → 0 ≤ i → i < 4 → lpZ fl rs rg db 16 r (4 + i) = if i = r then 1 else 0 := fun r i r0 r4 i0 i4 => by
  unfold lpZ
  rw [if_neg (c := 4 + i < 4) (by omega), Int.add_zero]
  by_cases q : i = r
  · rw [if_pos q, if_pos (by omega)]
  · rw [if_neg q, if_neg (by omega)]
theorem ex_f : ∀ c : Int, exZ fl rs rg c 16 = sumZ (fun r => fZ fl r * beZ (rs r) (rg r) c) 16 := fun c => by
  unfold exZ
  refine sumZ_congr 16 (fun r r0 r16 => ?_)
  unfold fZ beZ
  by_cases q : fl r = -1
  · rw [if_pos q, if_pos q]; simp
  · rw [if_neg q, if_neg q]
    (repeat' split) <;> omega
theorem lp_S (hne : ∀ i, 0 ≤ i → i < 16 → fl i ≠ -1 → rs i ≠ rg i) : ∀ i j, 0 ≤ i → i < 4 → 0 ≤ j → j < 4 → lpZ fl rs rg db 16 i j = lpZ fl rs rg db 16 j i := fun i j i0 i4 j0 j4 => by
  rw [lp_A hne i j i0 i4 j0 j4, lp_A hne j i j0 j4 i0 i4]
  exact sumZ_congr 16 (fun r _ _ => by grind)
theorem lp_BI (hne : ∀ i, 0 ≤ i → i < 16 → fl i ≠ -1 → rs i ≠ rg i) (hd : ∀ i, 0 ≤ i → i < 16 → fl i ≠ -1 → 1 ≤ db i ∧ db i ≤ 14) : ∀ k : Nat, k ≤ 4 → ∃ S, BI (lpZ fl rs rg db 16) k S (itT (lpZ fl rs rg db 16) 1 k).1 (itT (lpZ fl rs rg db 16) 1 k).2 := by
  have hw : ∀ r, 0 ≤ r → r < 16 → 0 ≤ wZ fl db r := fun r a b => by
    unfold wZ
    split
    · omega
    · rename_i q; have := hd r a b q; omega
  exact BI_it lp_I (en_P (lp_A hne) hw) (en_Z (lp_A hne) hw)
theorem lp_P (hne : ∀ i, 0 ≤ i → i < 16 → fl i ≠ -1 → rs i ≠ rg i) (hd : ∀ i, 0 ≤ i → i < 16 → fl i ≠ -1 → 1 ≤ db i ∧ db i ≤ 14) : ∀ i, 0 ≤ i → i < 4 → rA (lpZ fl rs rg db 16) (plZ (itT (lpZ fl rs rg db 16) 1 4).1 (fun c => exZ fl rs rg c 16)) i = (itT (lpZ fl rs rg db 16) 1 4).2 * exZ fl rs rg i 16 := by
  obtain ⟨S, h⟩ := lp_BI hne hd 4 (by omega)
  have hw : ∀ r, 0 ≤ r → r < 16 → 0 ≤ wZ fl db r := fun r a b => by
    unfold wZ
    split
    · omega
    · rename_i q; have := hd r a b q; omega
  exact BI_P (ex := fun c => exZ fl rs rg c 16) (en_X (lp_A hne) hw (f := fZ fl) (fun r a b z => by
    unfold wZ at z; unfold fZ
    by_cases q : fl r = -1
    · rw [if_pos q]
    · rw [if_neg q] at z; have := hd r a b q; omega) (fun i _ _ => ex_f i)) (lp_S hne) h
end LP
