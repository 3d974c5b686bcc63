/-! the turning over: what holds after each crossing -/
def d4 (u v : Int → Int) : Int := u 0 * v 0 + u 1 * v 1 + u 2 * v 2 + u 3 * v 3
def rA (a : Int → Int → Int) (u : Int → Int) : Int → Int := fun j => d4 u (fun i => a i j)
def bst (a : Int → Int → Int) (S : List Int) (T : Int → Int → Int) (d : Int) : Prop := match S with
  | [] => d = 1 ∧ ∀ r j, T r j = a r j
  | [s] => d = a s s ∧ (∀ j, T s j = a s j) ∧ ∀ r j, r ≠ s → T r j = m2 a s r s j
  | [s, t] => d = m2 a s t s t ∧ (∀ j, T s j = m2 a s t j t) ∧ (∀ j, T t j = m2 a s t s j) ∧ ∀ r j, r ≠ s → r ≠ t → T r j = m3 a s t r s t j
  | [s, t, u] => d = m3 a s t u s t u ∧ (∀ j, T s j = m3 a s t u j t u) ∧ (∀ j, T t j = m3 a s t u s j u) ∧ (∀ j, T u j = m3 a s t u s t j) ∧ ∀ r j, r ≠ s → r ≠ t → r ≠ u → T r j = m4 a s t u r s t u j
  | [s, t, u, v] => d = m4 a s t u v s t u v ∧ (∀ j, T s j = m4 a s t u v j t u v) ∧ (∀ j, T t j = m4 a s t u v s j u v) ∧ (∀ j, T u j = m4 a s t u v s t j v) ∧ (∀ j, T v j = m4 a s t u v s t u j)
  | _ => False
theorem tq {d x y : Int} (hd : d ≠ 0) (h : y = d * x) : y.tdiv d = x := by rw [h]; exact Int.mul_tdiv_cancel_left _ hd
theorem toT_o {T : Int → Int → Int} {d c r j x : Int} (hd : d ≠ 0) (hr : r ≠ c) (h : T c c * T r j - T r c * T c j = d * x) : toT T d c r j = x := by
  unfold toT
  rw [if_neg hr]
  exact tq hd h
theorem toT_c {T : Int → Int → Int} {d c j : Int} : toT T d c c j = T c j := by unfold toT; rw [if_pos rfl]
/-- a step: the division is even, and minors come of minors -/
theorem bst_s {a : Int → Int → Int} {S : List Int} {T : Int → Int → Int} {d c : Int} (h : bst a S T d) (hn : (c :: S).Nodup) (hr : ∀ x ∈ c :: S, 0 ≤ x ∧ x < 4) (hd : d ≠ 0) : bst a (S ++ [c]) (toT T d c) (T c c) ∧ ∀ r j, 0 ≤ r → r < 4 → r ≠ c → d * toT T d c r j = T c c * T r j - T r c * T c j := by
  match S, h, hn, hr with
  | [], h, hn, hr =>
    obtain ⟨rfl, h1⟩ := h
    have e : ∀ r j, r ≠ c → T c c * T r j - T r c * T c j = 1 * m2 a c r c j := fun r j _ => by
      rw [h1, h1, h1, h1, Int.one_mul]; unfold m2; grind
    refine ⟨⟨h1 c c, fun j => by rw [toT_c]; exact h1 c j, fun r j q => toT_o hd q (e r j q)⟩, fun r j _ _ q => by rw [toT_o hd q (e r j q)]; exact (e r j q).symm⟩
  | [s], h, hn, hr =>
    obtain ⟨rfl, h1, h2⟩ := h
    have hcs : c ≠ s := by simp at hn; exact hn
    have es : ∀ j, T c c * T s j - T s c * T c j = a s s * m2 a s c j c := fun j => by
      rw [h1, h1, h2 c c hcs, h2 c j hcs]; exact mi1b a s c j
    have e : ∀ r j, r ≠ s → T c c * T r j - T r c * T c j = a s s * m3 a s c r s c j := fun r j q => by
      rw [h2 c c hcs, h2 c j hcs, h2 r c q, h2 r j q]; exact mi1a a s c r j
    refine ⟨⟨h2 c c hcs, fun j => toT_o hd hcs.symm (es j), fun j => by rw [toT_c]; exact h2 c j hcs, fun r j q1 q2 => toT_o hd q2 (e r j q1)⟩, fun r j _ _ q => ?_⟩
    by_cases z : r = s
    · subst z; rw [toT_o hd q (es j)]; exact (es j).symm
    · rw [toT_o hd q (e r j z)]; exact (e r j z).symm
  | [s, t], h, hn, hr =>
    obtain ⟨rfl, h1, h2, h3⟩ := h
    have hq : c ≠ s ∧ c ≠ t ∧ s ≠ t := by simp at hn; exact ⟨hn.1.1, hn.1.2, hn.2⟩
    obtain ⟨q1, q2, q3⟩ := hq
    have es : ∀ j, T c c * T s j - T s c * T c j = m2 a s t s t * m3 a s t c j t c := fun j => by
      rw [h1, h1, h3 c c q1 q2, h3 c j q1 q2]; exact mi2b a s t c j
    have et : ∀ j, T c c * T t j - T t c * T c j = m2 a s t s t * m3 a s t c s j c := fun j => by
      rw [h2, h2, h3 c c q1 q2, h3 c j q1 q2]; exact mi2c a s t c j
    have e : ∀ r j, r ≠ s → r ≠ t → T c c * T r j - T r c * T c j = m2 a s t s t * m4 a s t c r s t c j := fun r j z1 z2 => by
      rw [h3 c c q1 q2, h3 c j q1 q2, h3 r c z1 z2, h3 r j z1 z2]; exact mi2a a s t c r j
    refine ⟨⟨h3 c c q1 q2, fun j => toT_o hd q1.symm (es j), fun j => toT_o hd q2.symm (et j), fun j => by rw [toT_c]; exact h3 c j q1 q2, fun r j z1 z2 z3 => toT_o hd z3 (e r j z1 z2)⟩, fun r j _ _ q => ?_⟩
    by_cases z : r = s
    · subst z; rw [toT_o hd q (es j)]; exact (es j).symm
    · by_cases z2 : r = t
      · subst z2; rw [toT_o hd q (et j)]; exact (et j).symm
      · rw [toT_o hd q (e r j z z2)]; exact (e r j z z2).symm
  | [s, t, u], h, hn, hr =>
    obtain ⟨rfl, h1, h2, h3, h4⟩ := h
    have hq : c ≠ s ∧ c ≠ t ∧ c ≠ u ∧ s ≠ t ∧ s ≠ u ∧ t ≠ u := by simp at hn; exact ⟨hn.1.1, hn.1.2.1, hn.1.2.2, hn.2.1.1, hn.2.1.2, hn.2.2⟩
    obtain ⟨q1, q2, q3, q4, q5, q6⟩ := hq
    have b1 := hr c (by simp)
    have b2 := hr s (by simp)
    have b3 := hr t (by simp)
    have b4 := hr u (by simp)
    have es : ∀ j, T c c * T s j - T s c * T c j = m3 a s t u s t u * m4 a s t u c j t u c := fun j => by
      rw [h1, h1, h4 c c q1 q2 q3, h4 c j q1 q2 q3]; exact mi3a a s t u c j
    have et : ∀ j, T c c * T t j - T t c * T c j = m3 a s t u s t u * m4 a s t u c s j u c := fun j => by
      rw [h2, h2, h4 c c q1 q2 q3, h4 c j q1 q2 q3]; exact mi3b a s t u c j
    have eu : ∀ j, T c c * T u j - T u c * T c j = m3 a s t u s t u * m4 a s t u c s t j c := fun j => by
      rw [h3, h3, h4 c c q1 q2 q3, h4 c j q1 q2 q3]; exact mi3c a s t u c j
    refine ⟨⟨h4 c c q1 q2 q3, fun j => toT_o hd q1.symm (es j), fun j => toT_o hd q2.symm (et j), fun j => toT_o hd q3.symm (eu j), fun j => by rw [toT_c]; exact h4 c j q1 q2 q3⟩, fun r j ra rb q => ?_⟩
    by_cases z : r = s
    · subst z; rw [toT_o hd q (es j)]; exact (es j).symm
    · by_cases z2 : r = t
      · subst z2; rw [toT_o hd q (et j)]; exact (et j).symm
      · obtain rfl : r = u := by omega
        rw [toT_o hd q (eu j)]; exact (eu j).symm
  | s :: t :: u :: v :: w, h, hn, hr =>
    exfalso
    have b1 := hr c (by simp)
    have b2 := hr s (by simp)
    have b3 := hr t (by simp)
    have b4 := hr u (by simp)
    have b5 := hr v (by simp)
    simp at hn
    omega
def BI (a : Int → Int → Int) (k : Nat) (S : List Int) (T : Int → Int → Int) (d : Int) : Prop := (bst a S T d) ∧ (∀ c ∈ S, 0 ≤ c ∧ c < k) ∧ (S.Nodup) ∧ (0 < d) ∧ (∀ c ∈ S, ∀ r, 0 ≤ r → r < 4 → T r c = if r = c then d else 0) ∧ (∀ r, 0 ≤ r → r < 4 → ∀ j, 0 ≤ j → j < 4 → T r j = d4 (fun i => T r (4 + i)) (fun i => a i j)) ∧ (∀ r, 0 ≤ r → r < 4 → r ∉ S → T r (4 + r) = d) ∧ (∀ r i, 0 ≤ r → r < 4 → 0 ≤ i → i < 4 → i ∉ S → i ≠ r → T r (4 + i) = 0) ∧ (∀ q : Int → Int, (∀ r, 0 ≤ r → r < 4 → d4 (fun i => T r (4 + i)) q = 0) → ∀ i, 0 ≤ i → i < 4 → q i = 0) ∧ (∀ c : Int, 0 ≤ c → c < k → c ∉ S → ∀ j, 0 ≤ j → j < 4 → T c j = 0)
section BIP
variable {a : Int → Int → Int} {k : Nat} {S : List Int} {T : Int → Int → Int} {d : Int}
theorem BI.b (h : BI a k S T d) : bst a S T d := h.1
theorem BI.r (h : BI a k S T d) : ∀ c ∈ S, 0 ≤ c ∧ c < k := h.2.1
theorem BI.nd (h : BI a k S T d) : S.Nodup := h.2.2.1
theorem BI.p (h : BI a k S T d) : 0 < d := h.2.2.2.1
theorem BI.c3 (h : BI a k S T d) : ∀ c ∈ S, ∀ r, 0 ≤ r → r < 4 → T r c = if r = c then d else 0 := h.2.2.2.2.1
theorem BI.c2 (h : BI a k S T d) : ∀ r, 0 ≤ r → r < 4 → ∀ j, 0 ≤ j → j < 4 → T r j = d4 (fun i => T r (4 + i)) (fun i => a i j) := h.2.2.2.2.2.1
theorem BI.c4 (h : BI a k S T d) : ∀ r, 0 ≤ r → r < 4 → r ∉ S → T r (4 + r) = d := h.2.2.2.2.2.2.1
theorem BI.c5 (h : BI a k S T d) : ∀ r i, 0 ≤ r → r < 4 → 0 ≤ i → i < 4 → i ∉ S → i ≠ r → T r (4 + i) = 0 := h.2.2.2.2.2.2.2.1
theorem BI.c7 (h : BI a k S T d) : ∀ q : Int → Int, (∀ r, 0 ≤ r → r < 4 → d4 (fun i => T r (4 + i)) q = 0) → ∀ i, 0 ≤ i → i < 4 → q i = 0 := h.2.2.2.2.2.2.2.2.1
theorem BI.c6 (h : BI a k S T d) : ∀ c : Int, 0 ≤ c → c < k → c ∉ S → ∀ j, 0 ≤ j → j < 4 → T c j = 0 := h.2.2.2.2.2.2.2.2.2
end BIP
theorem mz {d x : Int} (hd : 0 < d) (h : d * x = 0) : x = 0 := by
  rcases Int.mul_eq_zero.mp h with q | q
  · omega
  · exact q
theorem mc {d x y : Int} (hd : 0 < d) (h : d * x = d * y) : x = y := Int.eq_of_mul_eq_mul_left (by omega) h
theorem BI_s {a : Int → Int → Int} {k : Nat} {S : List Int} {T : Int → Int → Int} {d : Int} (h : BI a k S T d) (hk : k < 4) (hp : 0 < T k k) : BI a (k + 1) (S ++ [(k : Int)]) (toT T d k) (T k k) := by
  have hkS : (k : Int) ∉ S := fun z => by have := h.r _ z; omega
  have hnd : ((k : Int) :: S).Nodup := List.nodup_cons.mpr ⟨hkS, h.nd⟩
  obtain ⟨b1, hx⟩ := bst_s h.b hnd (fun x hx => by
    rcases List.mem_cons.mp hx with rfl | z
    · omega
    · have := h.r _ z; omega) (by have := h.p; omega)
  have hd := h.p
  have mem : ∀ c, c ∈ S ++ [(k : Int)] ↔ (c ∈ S ∨ c = k) := fun c => by simp
  refine ⟨b1, ?_, ?_, hp, ?_, ?_, ?_, ?_, ?_, ?_⟩
  · intro c hc
    rcases (mem c).mp hc with z | rfl
    · have := h.r _ z; omega
    · omega
  · rw [List.nodup_append]
    refine ⟨h.nd, by simp, fun x hx y hy => ?_⟩
    simp at hy
    subst hy
    intro e
    exact hkS (e ▸ hx)
  · intro c hc r r0 r4
    rcases (mem c).mp hc with z | rfl
    · have e1 := h.c3 c z r r0 r4
      have e2 := h.c3 c z k (by omega) (by omega)
      have hkc : (k : Int) ≠ c := fun e => hkS (e ▸ z)
      rw [if_neg hkc] at e2
      by_cases q : r = k
      · subst q
        rw [toT_c, e2, if_neg hkc]
      · have := hx r c r0 r4 q
        rw [e1, e2] at this
        by_cases q2 : r = c
        · rw [if_pos q2] at this ⊢
          exact mc hd (by grind)
        · rw [if_neg q2] at this ⊢
          exact mz hd (by grind)
    · by_cases q : r = k
      · subst q
        rw [toT_c, if_pos rfl]
      · have := hx r k r0 r4 q
        rw [if_neg q]
        exact mz hd (by grind)
  · intro r r0 r4 j j0 j4
    by_cases q : r = k
    · subst q
      simp only [toT_c]
      exact h.c2 k r0 r4 j j0 j4
    · have e1 := h.c2 r r0 r4 j j0 j4
      have e2 := h.c2 k (by omega) (by omega) j j0 j4
      have x0 := hx r j r0 r4 q
      have x1 := hx r (4 + 0) r0 r4 q
      have x2 := hx r (4 + 1) r0 r4 q
      have x3 := hx r (4 + 2) r0 r4 q
      have x4 := hx r (4 + 3) r0 r4 q
      refine mc hd ?_
      unfold d4 at e1 e2 ⊢
      rw [x0, e1, e2]
      dsimp only
      grind
  · intro r r0 r4 hr
    have hr' : r ∉ S ∧ r ≠ k := ⟨fun z => hr ((mem r).mpr (Or.inl z)), fun z => hr ((mem r).mpr (Or.inr z))⟩
    have := hx r (4 + r) r0 r4 hr'.2
    rw [h.c4 r r0 r4 hr'.1, h.c5 k r (by omega) (by omega) r0 r4 hr'.1 hr'.2] at this
    exact mc hd (by grind)
  · intro r i r0 r4 i0 i4 hi hir
    have hi' : i ∉ S ∧ i ≠ k := ⟨fun z => hi ((mem i).mpr (Or.inl z)), fun z => hi ((mem i).mpr (Or.inr z))⟩
    by_cases q : r = k
    · subst q
      rw [toT_c]
      exact h.c5 k i r0 r4 i0 i4 hi'.1 hir
    · have := hx r (4 + i) r0 r4 q
      rw [h.c5 r i r0 r4 i0 i4 hi'.1 hir, h.c5 k i (by omega) (by omega) i0 i4 hi'.1 hi'.2] at this
      exact mz hd (by grind)
  · intro ρ hρ
    have hk0 := hρ k (by omega) (by omega)
    simp only [toT_c] at hk0
    refine h.c7 ρ (fun r r0 r4 => ?_)
    by_cases q : r = k
    · subst q; exact hk0
    · have e := hρ r r0 r4
      have x1 := hx r (4 + 0) r0 r4 q
      have x2 := hx r (4 + 1) r0 r4 q
      have x3 := hx r (4 + 2) r0 r4 q
      have x4 := hx r (4 + 3) r0 r4 q
      refine mz hp ?_
      unfold d4 at e hk0 ⊢
      dsimp only at e hk0 ⊢
      grind
  · intro c c0 ck hc j j0 j4
    have hc' : c ∉ S ∧ c ≠ k := ⟨fun z => hc ((mem c).mpr (Or.inl z)), fun z => hc ((mem c).mpr (Or.inr z))⟩
    have e1 := h.c6 c c0 (by omega) hc'.1 j j0 j4
    have e2 := h.c6 c c0 (by omega) hc'.1 k (by omega) (by omega)
    have := hx c j c0 (by omega) hc'.2
    rw [e1, e2] at this
    exact mz hd (by grind)
/-- a diagonal that isn't above 0: the row is 0 -/
theorem BI_k {a : Int → Int → Int} {k : Nat} {S : List Int} {T : Int → Int → Int} {d : Int} (hP : ∀ u : Int → Int, 0 ≤ d4 (rA a u) u) (hZ : ∀ u : Int → Int, d4 (rA a u) u = 0 → ∀ j, 0 ≤ j → j < 4 → rA a u j = 0) (h : BI a k S T d) (hk : k < 4) (hp : ¬ 0 < T k k) : BI a (k + 1) S T d := by
  have hkS : (k : Int) ∉ S := fun z => by have := h.r _ z; omega
  have hd := h.p
  have e2 : ∀ j, 0 ≤ j → j < 4 → rA a (fun i => T k (4 + i)) j = T k j := fun j j0 j4 => (h.c2 k (by omega) (by omega) j j0 j4).symm
  have et : ∀ j : Int, 0 ≤ j → j < 4 → T k j * T k (4 + j) = if j = k then T k k * d else 0 := fun j j0 j4 => by
    by_cases q : j = k
    · subst q
      rw [if_pos rfl, h.c4 k j0 j4 hkS]
    · rw [if_neg q]
      by_cases z : j ∈ S
      · rw [h.c3 j z k (by omega) (by omega), if_neg (Ne.symm q), Int.zero_mul]
      · rw [h.c5 k j (by omega) (by omega) j0 j4 z q, Int.mul_zero]
  have hen : d4 (rA a (fun i => T k (4 + i))) (fun i => T k (4 + i)) = T k k * d := by
    have e : d4 (rA a (fun i => T k (4 + i))) (fun i => T k (4 + i)) = T k 0 * T k (4 + 0) + T k 1 * T k (4 + 1) + T k 2 * T k (4 + 2) + T k 3 * T k (4 + 3) := by
      rw [← e2 0 (by omega) (by omega), ← e2 1 (by omega) (by omega), ← e2 2 (by omega) (by omega), ← e2 3 (by omega) (by omega)]
      rfl
    rw [e, et 0 (by omega) (by omega), et 1 (by omega) (by omega), et 2 (by omega) (by omega), et 3 (by omega) (by omega)]
    have : k = 0 ∨ k = 1 ∨ k = 2 ∨ k = 3 := by omega
    rcases this with rfl | rfl | rfl | rfl <;> simp
  have h0 := hP (fun i => T k (4 + i))
  have hkk : T k k = 0 := by
    have : ¬ T k k < 0 := fun z => by
      have := Int.mul_neg_of_neg_of_pos z hd
      omega
    omega
  have hz := hZ (fun i => T k (4 + i)) (by rw [hen, hkk, Int.zero_mul])
  refine ⟨h.b, fun c hc => by have := h.r c hc; omega, h.nd, hd, h.c3, h.c2, h.c4, h.c5, h.c7, fun c c0 ck hc j j0 j4 => ?_⟩
  by_cases q : c = k
  · subst q
    rw [← e2 j j0 j4]
    exact hz j j0 j4
  · exact h.c6 c c0 (by omega) hc j j0 j4
theorem BI_it {a : Int → Int → Int} (hI : ∀ r i, 0 ≤ r → r < 4 → 0 ≤ i → i < 4 → a r (4 + i) = if i = r then 1 else 0) (hP : ∀ u : Int → Int, 0 ≤ d4 (rA a u) u) (hZ : ∀ u : Int → Int, d4 (rA a u) u = 0 → ∀ j, 0 ≤ j → j < 4 → rA a u j = 0) : ∀ k : Nat, k ≤ 4 → ∃ S, BI a k S (itT a 1 k).1 (itT a 1 k).2
  | 0, _ => by
    refine ⟨[], ⟨rfl, fun _ _ => rfl⟩, by simp, by simp, Int.one_pos, by simp, ?_, ?_, ?_, ?_, fun c _ _ => by omega⟩
    · intro r r0 r4 j j0 j4
      show a r j = d4 (fun i => a r (4 + i)) (fun i => a i j)
      unfold d4
      dsimp only
      rw [hI r 0 r0 r4 (by omega) (by omega), hI r 1 r0 r4 (by omega) (by omega), hI r 2 r0 r4 (by omega) (by omega), hI r 3 r0 r4 (by omega) (by omega)]
      have : r = 0 ∨ r = 1 ∨ r = 2 ∨ r = 3 := by omega
      rcases this with rfl | rfl | rfl | rfl <;> simp
    · intro r r0 r4 _
      show a r (4 + r) = 1
      rw [hI r r r0 r4 r0 r4, if_pos rfl]
    · intro r i r0 r4 i0 i4 _ q
      show a r (4 + i) = 0
      rw [hI r i r0 r4 i0 i4, if_neg q]
    · intro ρ hρ i i0 i4
      have e := hρ i i0 i4
      have e : d4 (fun j => a i (4 + j)) ρ = 0 := e
      unfold d4 at e
      dsimp only at e
      rw [hI i 0 i0 i4 (by omega) (by omega), hI i 1 i0 i4 (by omega) (by omega), hI i 2 i0 i4 (by omega) (by omega), hI i 3 i0 i4 (by omega) (by omega)] at e
      have : i = 0 ∨ i = 1 ∨ i = 2 ∨ i = 3 := by omega
      rcases this with rfl | rfl | rfl | rfl <;> simpa using e
  | k + 1, hk => by
    obtain ⟨S, h⟩ := BI_it hI hP hZ k (by omega)
    show ∃ S, BI a (k + 1) S (stT (itT a 1 k) k).1 (stT (itT a 1 k) k).2
    unfold stT
    by_cases q : 0 < (itT a 1 k).1 k k
    · rw [if_pos q]
      exact ⟨_, BI_s h (by omega) q⟩
    · rw [if_neg q]
      exact ⟨S, BI_k hP hZ h (by omega) q⟩
/-- the pulls solve the equations -/
theorem BI_P {a : Int → Int → Int} {S : List Int} {T : Int → Int → Int} {d : Int} {ex : Int → Int} (hX : ∀ u : Int → Int, (∀ j, 0 ≤ j → j < 4 → rA a u j = 0) → d4 u ex = 0) (hS : ∀ i j, 0 ≤ i → i < 4 → 0 ≤ j → j < 4 → a i j = a j i) (h : BI a 4 S T d) : ∀ i, 0 ≤ i → i < 4 → rA a (plZ T ex) i = d * ex i := by
  have hd := h.p
  have hp1 : ∀ c ∈ S, plZ T ex c = d4 (fun i => T c (4 + i)) ex := fun c hc => by
    have hr := h.r c hc
    have := h.c3 c hc c (by omega) (by omega)
    unfold plZ
    rw [if_pos (by rw [this, if_pos rfl]; exact hd)]
    simp [sumZ, d4]
  have hp0 : ∀ c, 0 ≤ c → c < 4 → c ∉ S → plZ T ex c = 0 := fun c c0 c4 hc => by
    unfold plZ
    rw [if_neg (by rw [h.c6 c c0 (by omega) hc c c0 c4]; omega)]
  have key : ∀ r, 0 ≤ r → r < 4 → d4 (fun i => T r (4 + i)) (fun i => rA a (plZ T ex) i - d * ex i) = d4 (T r) (plZ T ex) - d * d4 (fun i => T r (4 + i)) ex := fun r r0 r4 => by
    have e0 := h.c2 r r0 r4 0 (by omega) (by omega)
    have e1 := h.c2 r r0 r4 1 (by omega) (by omega)
    have e2 := h.c2 r r0 r4 2 (by omega) (by omega)
    have e3 := h.c2 r r0 r4 3 (by omega) (by omega)
    have s01 := hS 0 1 (by omega) (by omega) (by omega) (by omega)
    have s02 := hS 0 2 (by omega) (by omega) (by omega) (by omega)
    have s03 := hS 0 3 (by omega) (by omega) (by omega) (by omega)
    have s12 := hS 1 2 (by omega) (by omega) (by omega) (by omega)
    have s13 := hS 1 3 (by omega) (by omega) (by omega) (by omega)
    have s23 := hS 2 3 (by omega) (by omega) (by omega) (by omega)
    unfold d4 rA d4 at *
    dsimp only at e0 e1 e2 e3 ⊢
    rw [e0, e1, e2, e3, s01, s02, s03, s12, s13, s23]
    grind
  intro i i0 i4
  have := h.c7 (fun i => rA a (plZ T ex) i - d * ex i) (fun r r0 r4 => ?_) i i0 i4
  · have this : rA a (plZ T ex) i - d * ex i = 0 := this
    omega
  · rw [key r r0 r4]
    by_cases q : r ∈ S
    · have et : ∀ j, 0 ≤ j → j < 4 → T r j * plZ T ex j = if j = r then d * plZ T ex r else 0 := fun j j0 j4 => by
        by_cases z : j ∈ S
        · rw [h.c3 j z r r0 r4]
          by_cases y : j = r
          · subst y; rw [if_pos rfl, if_pos rfl]
          · rw [if_neg (Ne.symm y), if_neg y, Int.zero_mul]
        · rw [hp0 j j0 j4 z, Int.mul_zero, if_neg (fun y : j = r => z (y ▸ q))]
      have e : d4 (T r) (plZ T ex) = d * plZ T ex r := by
        unfold d4
        rw [et 0 (by omega) (by omega), et 1 (by omega) (by omega), et 2 (by omega) (by omega), et 3 (by omega) (by omega)]
        have : r = 0 ∨ r = 1 ∨ r = 2 ∨ r = 3 := by omega
        rcases this with rfl | rfl | rfl | rfl <;> simp
      rw [e, hp1 r q]
      omega
    · have ez : ∀ j, 0 ≤ j → j < 4 → T r j = 0 := fun j j0 j4 => h.c6 r r0 (by omega) q j j0 j4
      have e : d4 (T r) (plZ T ex) = 0 := by
        unfold d4
        rw [ez 0 (by omega) (by omega), ez 1 (by omega) (by omega), ez 2 (by omega) (by omega), ez 3 (by omega) (by omega)]
        omega
      have ex0 := hX (fun i => T r (4 + i)) (fun j j0 j4 => (h.c2 r r0 r4 j j0 j4).symm.trans (ez j j0 j4))
      rw [e, ex0]
      omega
