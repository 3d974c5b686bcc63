/-! bounds of the minors -/
def bdZ (x B : Int) : Prop := -B ≤ x ∧ x ≤ B
theorem bd_mul {x y A B : Int} (hx : bdZ x A) (hy : bdZ y B) : bdZ (x * y) (A * B) := by
  unfold bdZ at *
  have h1 := Int.mul_nonneg (a := A - x) (b := B + y) (by omega) (by omega)
  have h2 := Int.mul_nonneg (a := A + x) (b := B - y) (by omega) (by omega)
  have h3 := Int.mul_nonneg (a := A - x) (b := B - y) (by omega) (by omega)
  have h4 := Int.mul_nonneg (a := A + x) (b := B + y) (by omega) (by omega)
  have e1 : (A - x) * (B + y) + (A + x) * (B - y) = 2 * (A * B) - 2 * (x * y) := by grind
  have e2 : (A - x) * (B - y) + (A + x) * (B + y) = 2 * (A * B) + 2 * (x * y) := by grind
  omega
theorem bd_le {x A B : Int} (h : bdZ x A) (hl : A ≤ B) : bdZ x B := ⟨by have := h.1; omega, by have := h.2; omega⟩
theorem bd_add {x y A B C : Int} (hx : bdZ x A) (hy : bdZ y B) (h : A + B = C) : bdZ (x + y) C := by unfold bdZ at *; omega
theorem bd_sub {x y A B C : Int} (hx : bdZ x A) (hy : bdZ y B) (h : A + B = C) : bdZ (x - y) C := by unfold bdZ at *; omega
def cB (j : Int) : Int := if j < 4 then 224 else 1
section MB
variable {a : Int → Int → Int}
theorem m2_b (hB : ∀ r j, 0 ≤ r → r < 4 → 0 ≤ j → j < 8 → bdZ (a r j) (cB j)) {r s i j : Int} (hr : 0 ≤ r ∧ r < 4) (hs : 0 ≤ s ∧ s < 4) (hi : 0 ≤ i ∧ i < 8) (hj : 0 ≤ j ∧ j < 8) : bdZ (m2 a r s i j) (2 * (cB i * cB j)) := by
  unfold m2
  exact bd_sub (bd_mul (hB r i hr.1 hr.2 hi.1 hi.2) (hB s j hs.1 hs.2 hj.1 hj.2)) (bd_mul (hB r j hr.1 hr.2 hj.1 hj.2) (hB s i hs.1 hs.2 hi.1 hi.2)) (by grind)
theorem m3_b (hB : ∀ r j, 0 ≤ r → r < 4 → 0 ≤ j → j < 8 → bdZ (a r j) (cB j)) {r s t i j k : Int} (hr : 0 ≤ r ∧ r < 4) (hs : 0 ≤ s ∧ s < 4) (ht : 0 ≤ t ∧ t < 4) (hi : 0 ≤ i ∧ i < 8) (hj : 0 ≤ j ∧ j < 8) (hk : 0 ≤ k ∧ k < 8) : bdZ (m3 a r s t i j k) (6 * (cB i * cB j * cB k)) := by
  unfold m3
  refine bd_add (bd_sub (bd_mul (hB r i hr.1 hr.2 hi.1 hi.2) (m2_b hB hs ht hj hk)) (bd_mul (hB r j hr.1 hr.2 hj.1 hj.2) (m2_b hB hs ht hi hk)) rfl) (bd_mul (hB r k hr.1 hr.2 hk.1 hk.2) (m2_b hB hs ht hi hj)) ?_
  grind
theorem m4_b (hB : ∀ r j, 0 ≤ r → r < 4 → 0 ≤ j → j < 8 → bdZ (a r j) (cB j)) {r s t u i j k l : Int} (hr : 0 ≤ r ∧ r < 4) (hs : 0 ≤ s ∧ s < 4) (ht : 0 ≤ t ∧ t < 4) (hu : 0 ≤ u ∧ u < 4) (hi : 0 ≤ i ∧ i < 8) (hj : 0 ≤ j ∧ j < 8) (hk : 0 ≤ k ∧ k < 8) (hl : 0 ≤ l ∧ l < 8) : bdZ (m4 a r s t u i j k l) (24 * (cB i * cB j * cB k * cB l)) := by
  unfold m4
  refine bd_sub (bd_add (bd_sub (bd_mul (hB r i hr.1 hr.2 hi.1 hi.2) (m3_b hB hs ht hu hj hk hl)) (bd_mul (hB r j hr.1 hr.2 hj.1 hj.2) (m3_b hB hs ht hu hi hk hl)) rfl) (bd_mul (hB r k hr.1 hr.2 hk.1 hk.2) (m3_b hB hs ht hu hi hj hl)) rfl) (bd_mul (hB r l hr.1 hr.2 hl.1 hl.2) (m3_b hB hs ht hu hi hj hk)) ?_
  grind
end MB
theorem cB_4 {j : Int} (h : j < 4) : cB j = 224 := if_pos h
theorem cB_8 {j : Int} (h : 4 ≤ j) : cB j = 1 := if_neg (by omega)
theorem cB_R (j : Int) : 1 ≤ cB j ∧ cB j ≤ 224 ∧ (4 ≤ j → cB j = 1) := by unfold cB; split <;> omega
/-- what a table is bounded by: B in all columns, C in those that turn over -/
def tbR (T : Int → Int → Int) (B C : Int) (r : Int) : Prop := ∀ j, 0 ≤ j → j < 8 → bdZ (T r j) B ∧ (4 ≤ j → bdZ (T r j) C)
theorem bst_R {a : Int → Int → Int} (hB : ∀ r j, 0 ≤ r → r < 4 → 0 ≤ j → j < 8 → bdZ (a r j) (cB j)) {S : List Int} {T : Int → Int → Int} {d : Int} (h : bst a S T d) (hn : S.Nodup) (hr : ∀ x ∈ S, 0 ≤ x ∧ x < 4) : (∀ r, 0 ≤ r → r < 4 → tbR T 60423143424 269746176 r) ∧ bdZ d 60423143424 ∧ (S.length ≤ 2 → ∀ r, 0 ≤ r → r < 4 → ∀ j, 0 ≤ j → j < 8 → bdZ (T r j) 67436544) ∧ (∀ r ∈ S, S.length ≤ 3 → ∀ j, 0 ≤ j → j < 8 → bdZ (T r j) 67436544) := by
  match S, h, hn, hr with
  | [], h, hn, hr =>
    obtain ⟨rfl, h1⟩ := h
    have q : ∀ r j, 0 ≤ r → r < 4 → 0 ≤ j → j < 8 → bdZ (T r j) 224 := fun r j r0 r4 j0 j8 => by
      rw [h1]; have := cB_R j; exact bd_le (hB r j r0 r4 j0 j8) (by omega)
    exact ⟨fun r r0 r4 j j0 j8 => ⟨bd_le (q r j r0 r4 j0 j8) (by omega), fun _ => bd_le (q r j r0 r4 j0 j8) (by omega)⟩, ⟨by omega, by omega⟩, fun _ r r0 r4 j j0 j8 => bd_le (q r j r0 r4 j0 j8) (by omega), fun r hr => by simp at hr⟩
  | [s], h, hn, hr =>
    obtain ⟨rfl, h1, h2⟩ := h
    have bs := hr s (by simp)
    have q : ∀ r j, 0 ≤ r → r < 4 → 0 ≤ j → j < 8 → bdZ (T r j) 100352 := fun r j r0 r4 j0 j8 => by
      have cj := cB_R j
      by_cases z : r = s
      · rw [z, h1]; exact bd_le (hB s j bs.1 bs.2 j0 j8) (by omega)
      · rw [h2 r j z]; exact bd_le (m2_b hB bs ⟨r0, r4⟩ ⟨bs.1, by omega⟩ ⟨j0, j8⟩) (by rw [cB_4 bs.2]; omega)
    exact ⟨fun r r0 r4 j j0 j8 => ⟨bd_le (q r j r0 r4 j0 j8) (by omega), fun _ => bd_le (q r j r0 r4 j0 j8) (by omega)⟩, by rw [← h1]; exact bd_le (q s s bs.1 bs.2 bs.1 (by omega)) (by omega), fun _ r r0 r4 j j0 j8 => bd_le (q r j r0 r4 j0 j8) (by omega), fun r hr2 _ j j0 j8 => bd_le (q r j (hr r hr2).1 (hr r hr2).2 j0 j8) (by omega)⟩
  | [s, t], h, hn, hr =>
    obtain ⟨rfl, h1, h2, h3⟩ := h
    have bs := hr s (by simp)
    have bt := hr t (by simp)
    have q : ∀ r j, 0 ≤ r → r < 4 → 0 ≤ j → j < 8 → bdZ (T r j) 67436544 := fun r j r0 r4 j0 j8 => by
      have cj := cB_R j
      by_cases z : r = s
      · rw [z, h1]; exact bd_le (m2_b hB bs bt ⟨j0, j8⟩ ⟨bt.1, by omega⟩) (by rw [cB_4 bt.2]; omega)
      · by_cases z2 : r = t
        · rw [z2, h2]; exact bd_le (m2_b hB bs bt ⟨bs.1, by omega⟩ ⟨j0, j8⟩) (by rw [cB_4 bs.2]; omega)
        · rw [h3 r j z z2]; exact bd_le (m3_b hB bs bt ⟨r0, r4⟩ ⟨bs.1, by omega⟩ ⟨bt.1, by omega⟩ ⟨j0, j8⟩) (by rw [cB_4 bs.2, cB_4 bt.2]; omega)
    refine ⟨fun r r0 r4 j j0 j8 => ⟨bd_le (q r j r0 r4 j0 j8) (by omega), fun _ => bd_le (q r j r0 r4 j0 j8) (by omega)⟩, ?_, fun _ r r0 r4 j j0 j8 => q r j r0 r4 j0 j8, fun r hr2 _ j j0 j8 => q r j (hr r hr2).1 (hr r hr2).2 j0 j8⟩
    rw [← h1]; exact bd_le (q s s bs.1 bs.2 bs.1 (by omega)) (by omega)
  | [s, t, u], h, hn, hr =>
    obtain ⟨rfl, h1, h2, h3, h4⟩ := h
    have bs := hr s (by simp)
    have bt := hr t (by simp)
    have bu := hr u (by simp)
    have q : ∀ r ∈ [s, t, u], ∀ j, 0 ≤ j → j < 8 → bdZ (T r j) 67436544 := fun r hr j j0 j8 => by
      have cj := cB_R j
      simp only [List.mem_cons, List.not_mem_nil, or_false] at hr
      rcases hr with z | z | z
      · rw [z, h1]; exact bd_le (m3_b hB bs bt bu ⟨j0, j8⟩ ⟨bt.1, by omega⟩ ⟨bu.1, by omega⟩) (by rw [cB_4 bt.2, cB_4 bu.2]; omega)
      · rw [z, h2]; exact bd_le (m3_b hB bs bt bu ⟨bs.1, by omega⟩ ⟨j0, j8⟩ ⟨bu.1, by omega⟩) (by rw [cB_4 bs.2, cB_4 bu.2]; omega)
      · rw [z, h3]; exact bd_le (m3_b hB bs bt bu ⟨bs.1, by omega⟩ ⟨bt.1, by omega⟩ ⟨j0, j8⟩) (by rw [cB_4 bs.2, cB_4 bt.2]; omega)
    refine ⟨fun r r0 r4 => ?_, ?_, fun z => by simp at z, fun r hr2 _ j j0 j8 => q r hr2 j j0 j8⟩
    · by_cases z : r ∈ [s, t, u]
      · exact fun j j0 j8 => ⟨bd_le (q r z j j0 j8) (by omega), fun _ => bd_le (q r z j j0 j8) (by omega)⟩
      · simp only [List.mem_cons, List.not_mem_nil, or_false, not_or] at z
        intro j j0 j8
        have cj := cB_R j
        have := m4_b hB bs bt bu ⟨r0, r4⟩ ⟨bs.1, by omega⟩ ⟨bt.1, by omega⟩ ⟨bu.1, by omega⟩ ⟨j0, j8⟩
        rw [cB_4 bs.2, cB_4 bt.2, cB_4 bu.2] at this
        rw [h4 r j z.1 z.2.1 z.2.2]
        exact ⟨bd_le this (by omega), fun z => bd_le this (by have := cj.2.2 z; omega)⟩
    · rw [← h1]; exact bd_le (q s (by simp) s bs.1 (by omega)) (by omega)
  | [s, t, u, v], h, hn, hr =>
    obtain ⟨rfl, h1, h2, h3, h4⟩ := h
    have bs := hr s (by simp)
    have bt := hr t (by simp)
    have bu := hr u (by simp)
    have bv := hr v (by simp)
    have q : ∀ r, 0 ≤ r → r < 4 → ∀ j, 0 ≤ j → j < 8 → bdZ (T r j) (269746176 * cB j) := fun r r0 r4 j j0 j8 => by
      have hrs : r = s ∨ r = t ∨ r = u ∨ r = v := by
        simp at hn
        omega
      rcases hrs with z | z | z | z
      · rw [z, h1]; exact bd_le (m4_b hB bs bt bu bv ⟨j0, j8⟩ ⟨bt.1, by omega⟩ ⟨bu.1, by omega⟩ ⟨bv.1, by omega⟩) (by rw [cB_4 bt.2, cB_4 bu.2, cB_4 bv.2]; omega)
      · rw [z, h2]; exact bd_le (m4_b hB bs bt bu bv ⟨bs.1, by omega⟩ ⟨j0, j8⟩ ⟨bu.1, by omega⟩ ⟨bv.1, by omega⟩) (by rw [cB_4 bs.2, cB_4 bu.2, cB_4 bv.2]; omega)
      · rw [z, h3]; exact bd_le (m4_b hB bs bt bu bv ⟨bs.1, by omega⟩ ⟨bt.1, by omega⟩ ⟨j0, j8⟩ ⟨bv.1, by omega⟩) (by rw [cB_4 bs.2, cB_4 bt.2, cB_4 bv.2]; omega)
      · rw [z, h4]; exact bd_le (m4_b hB bs bt bu bv ⟨bs.1, by omega⟩ ⟨bt.1, by omega⟩ ⟨bu.1, by omega⟩ ⟨j0, j8⟩) (by rw [cB_4 bs.2, cB_4 bt.2, cB_4 bu.2]; omega)
    refine ⟨fun r r0 r4 j j0 j8 => ⟨bd_le (q r r0 r4 j j0 j8) (by have := cB_R j; omega), fun z => bd_le (q r r0 r4 j j0 j8) (by have := (cB_R j).2.2 z; omega)⟩, ?_, fun z => by simp at z, fun r _ z => by simp at z⟩
    rw [← h1]; exact bd_le (q s bs.1 bs.2 s bs.1 (by omega)) (by have := cB_R s; omega)
theorem BI_seB {a : Int → Int → Int} (hB : ∀ r j, 0 ≤ r → r < 4 → 0 ≤ j → j < 8 → bdZ (a r j) (cB j)) (h : ∀ k : Nat, k ≤ 4 → ∃ S, BI a k S (itT a 1 k).1 (itT a 1 k).2) : seB a := by
  have lr : ∀ x, bdZ x 60423143424 → lR x := fun x q => ⟨by have := q.1; omega, by have := q.2; omega⟩
  refine ⟨fun k hk => ?_, fun c c0 c4 => ?_⟩
  · obtain ⟨S, hI⟩ := h k (by omega)
    have hS : ∀ x ∈ S, (0 : Int) ≤ x ∧ x < 4 := fun x hx => by have := hI.r x hx; omega
    obtain ⟨b1, b2, b3, b4⟩ := bst_R hB hI.b hI.nd hS
    have hkk := (b1 k (by omega) (by omega) k (by omega) (by omega)).1
    refine ⟨lr _ hkk, fun hp => ⟨⟨lr _ b2, by have := hI.p; omega⟩, fun r i r0 r4 i0 i8 => ?_⟩⟩
    by_cases z : S.length ≤ 2
    · have := bd_sub (bd_mul (b3 z k (by omega) (by omega) k (by omega) (by omega)) (b3 z r r0 r4 i i0 i8)) (bd_mul (b3 z r r0 r4 k (by omega) (by omega)) (b3 z k (by omega) (by omega) i i0 i8)) rfl
      exact ⟨by have := this.1; omega, by have := this.2; omega⟩
    · by_cases zr : r = k
      · subst zr
        rw [Int.sub_self]; exact ⟨by omega, by omega⟩
      · have hz : r ∈ S ∧ S.length ≤ 3 := by
          match S, hI, hS, z with
          | [], _, _, z => simp at z
          | [_], _, _, z => simp at z
          | [_, _], _, _, z => simp at z
          | [s, t, u], hI, hS, z =>
            have r1 := hI.r s (by simp)
            have r2 := hI.r t (by simp)
            have r3 := hI.r u (by simp)
            have nd := hI.nd
            simp at nd
            simp
            omega
          | s :: t :: u :: v :: w, hI, hS, z =>
            exfalso
            have r1 := hI.r s (by simp)
            have r2 := hI.r t (by simp)
            have r3 := hI.r u (by simp)
            have r4 := hI.r v (by simp)
            have nd := hI.nd
            simp at nd
            omega
        have := bd_sub (bd_mul hkk (b4 r hz.1 hz.2 i i0 i8)) (bd_mul (b4 r hz.1 hz.2 k (by omega) (by omega)) (b1 k (by omega) (by omega) i i0 i8).1) rfl
        exact ⟨by have := this.1; omega, by have := this.2; omega⟩
  · obtain ⟨S, hI⟩ := h 4 (by omega)
    obtain ⟨b1, -⟩ := bst_R hB hI.b hI.nd (fun x hx => (show 0 ≤ x ∧ x < 4 by have := hI.r x hx; omega))
    exact lr _ (b1 c c0 c4 c (by omega) (by omega)).1
theorem BI_PR {a : Int → Int → Int} (hB : ∀ r j, 0 ≤ r → r < 4 → 0 ≤ j → j < 8 → bdZ (a r j) (cB j)) {S : List Int} {T : Int → Int → Int} {d : Int} {ex : Int → Int} (hI : BI a 4 S T d) (hx : ∀ i, 0 ≤ i → i < 4 → bdZ (ex i) 1600000) : (0 < d ∧ d ≤ 60423143424) ∧ ∀ c, 0 ≤ c → c < 4 → bdZ (plZ T ex c) 1726375526400000 := by
  obtain ⟨b1, b2, -⟩ := bst_R hB hI.b hI.nd (fun x hx => (show 0 ≤ x ∧ x < 4 by have := hI.r x hx; omega))
  refine ⟨⟨hI.p, b2.2⟩, fun c c0 c4 => ?_⟩
  unfold plZ
  split
  · have := sumZ_bd (f := fun i => T c (4 + i) * ex i) (B := 431593881600000) 4 (fun i i0 i4 => bd_mul ((b1 c c0 c4 (4 + i) (by omega) (by omega)).2 (by omega)) (hx i i0 (by omega)))
    exact ⟨by have := this.1; omega, by have := this.2; omega⟩
  · exact ⟨by omega, by omega⟩
section LP2
variable {fl rs rg db : Int → Int}
theorem be_R {x y i : Int} : bdZ (beZ x y i) 1 := by unfold beZ bdZ; (repeat' split) <;> omega
theorem lp_B (hne : ∀ i, 0 ≤ i → i < 16 → fl i ≠ -1 → rs i ≠ rg i) (hd : ∀ i, 0 ≤ i → i < 16 → fl i ≠ -1 → 1 ≤ db i ∧ db i ≤ 14) : ∀ r j, 0 ≤ r → r < 4 → 0 ≤ j → j < 8 → bdZ (lpZ fl rs rg db 16 r j) (cB j) := fun r j r0 r4 j0 j8 => by
  by_cases q : j < 4
  · rw [cB_4 q, lp_A hne r j r0 r4 j0 q]
    have := sumZ_bd (f := fun r2 => wZ fl db r2 * beZ (rs r2) (rg r2) r * beZ (rs r2) (rg r2) j) (B := 14) 16 (fun i i0 i16 => by
      have hw : bdZ (wZ fl db i) 14 := by
        unfold wZ
        split
        · exact ⟨by omega, by omega⟩
        · rename_i q; have := hd i i0 (by omega) q; exact ⟨by omega, by omega⟩
      exact bd_le (bd_mul (bd_mul hw be_R) be_R) (by omega))
    exact ⟨by have := this.1; omega, by have := this.2; omega⟩
  · rw [cB_8 (by omega)]
    have := lp_I (fl := fl) (rs := rs) (rg := rg) (db := db) r (j - 4) r0 r4 (by omega) (by omega)
    rw [show 4 + (j - 4) = j by omega] at this
    rw [this]
    split <;> exact ⟨by omega, by omega⟩
theorem lp_seB (hne : ∀ i, 0 ≤ i → i < 16 → fl i ≠ -1 → rs i ≠ rg i) (hd : ∀ i, 0 ≤ i → i < 16 → fl i ≠ -1 → 1 ≤ db i ∧ db i ≤ 14) : seB (lpZ fl rs rg db 16) := BI_seB (lp_B hne hd) (lp_BI hne hd)
/-- the agreed flow, above and below the stroke -/
def agD (fl rs rg db : Int → Int) : Int := (itT (lpZ fl rs rg db 16) 1 4).2
def agP (fl rs rg db : Int → Int) : Int → Int := plZ (itT (lpZ fl rs rg db 16) 1 4).1 (fun c => exZ fl rs rg c 16)
def agT (fl rs rg db : Int → Int) (r : Int) : Int := fl r * agD fl rs rg db - db r * d4 (agP fl rs rg db) (beZ (rs r) (rg r))
theorem ag_R (hf : ∀ i, 0 ≤ i → i < 16 → -1 ≤ fl i ∧ fl i ≤ 100000) (hne : ∀ i, 0 ≤ i → i < 16 → fl i ≠ -1 → rs i ≠ rg i) (hd : ∀ i, 0 ≤ i → i < 16 → fl i ≠ -1 → 1 ≤ db i ∧ db i ≤ 14) : (0 < agD fl rs rg db ∧ agD fl rs rg db ≤ 60423143424) ∧ (∀ c, 0 ≤ c → c < 4 → bdZ (agP fl rs rg db c) 1726375526400000) ∧ ∀ r, 0 ≤ r → r < 16 → fl r ≠ -1 → bdZ (agT fl rs rg db r) 200000000000000000 := by
  obtain ⟨S, hI⟩ := lp_BI hne hd 4 (by omega)
  obtain ⟨h1, h2⟩ := BI_PR (lp_B hne hd) hI (ex := fun c => exZ fl rs rg c 16) (fun i i0 i4 => by
    have := exZ_R (rs := rs) (rg := rg) hf (c := i) 16 (by omega)
    exact ⟨by have := this.1; omega, by have := this.2; omega⟩)
  refine ⟨h1, h2, fun r r0 r16 hr => ?_⟩
  have b1 : bdZ (fl r * agD fl rs rg db) (100000 * 60423143424) := bd_mul ⟨by have := hf r r0 r16; omega, by have := hf r r0 r16; omega⟩ ⟨by have := h1.1; unfold agD; omega, h1.2⟩
  have bp : ∀ c, 0 ≤ c → c < 4 → bdZ (agP fl rs rg db c * beZ (rs r) (rg r) c) 1726375526400000 := fun c c0 c4 => bd_le (bd_mul (h2 c c0 c4) be_R) (by omega)
  have b2 : bdZ (d4 (agP fl rs rg db) (beZ (rs r) (rg r))) 6905502105600000 := by
    unfold d4
    exact bd_add (bd_add (bd_add (bp 0 (by omega) (by omega)) (bp 1 (by omega) (by omega)) rfl) (bp 2 (by omega) (by omega)) rfl) (bp 3 (by omega) (by omega)) (by omega)
  have b3 := bd_mul (x := db r) (A := 14) ⟨by have := hd r r0 r16 hr; omega, by have := hd r r0 r16 hr; omega⟩ b2
  unfold agT
  exact bd_le (bd_sub b1 b3 rfl) (by omega)
theorem d4_be {P pu : Int → Int} (h1 : ∀ c, 0 ≤ c → c < 4 → pu c = P c) (h2 : ∀ c, 4 ≤ c → c < 8 → pu c = 0) {x y : Int} (hx : 0 ≤ x ∧ x < 8) (hy : 0 ≤ y ∧ y < 8) : pu y - pu x = d4 P (beZ x y) := by
  have e : ∀ z : Int, 0 ≤ z ∧ z < 8 → pu z = d4 P (fun i => if z = i then 1 else 0) := fun z hz => by
    by_cases q : z < 4
    · rw [h1 z hz.1 q]
      have : z = 0 ∨ z = 1 ∨ z = 2 ∨ z = 3 := by omega
      rcases this with rfl | rfl | rfl | rfl <;> simp [d4]
    · rw [h2 z (by omega) hz.2]
      unfold d4
      dsimp only
      rw [if_neg (by omega), if_neg (by omega), if_neg (by omega), if_neg (by omega)]; omega
  rw [e x hx, e y hy]
  unfold d4 beZ
  dsimp only
  grind
end LP2
