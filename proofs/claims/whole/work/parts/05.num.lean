/-! Java's ints and longs by whole numbers -/
def iZ (z : Int) : Int32 := Int32.ofInt z
def lZ (z : Int) : Int64 := Int64.ofInt z
abbrev vi (z : Int) : Value := .int (iZ z)
abbrev vl (z : Int) : Value := .long (lZ z)
abbrev iR (z : Int) : Prop := -2147483648 ≤ z ∧ z < 2147483648
abbrev lR (z : Int) : Prop := -9223372036854775808 ≤ z ∧ z < 9223372036854775808
theorem iZ_self (x : Int32) : iZ x.toInt = x := Int32.ofInt_toInt x
theorem lZ_self (x : Int64) : lZ x.toInt = x := Int64.ofInt_toInt x
theorem iZ_R (x : Int32) : iR x.toInt := ⟨Int32.le_toInt x, Int32.toInt_lt x⟩
theorem lZ_R (x : Int64) : lR x.toInt := ⟨Int64.le_toInt x, Int64.toInt_lt x⟩
theorem iZ_toInt {z : Int} (h : iR z) : (iZ z).toInt = z := Int32.toInt_ofInt_of_le h.1 h.2
theorem lZ_toInt {z : Int} (h : lR z) : (lZ z).toInt = z := Int64.toInt_ofInt_of_le h.1 h.2
theorem iZ_add (a b : Int) : iZ a + iZ b = iZ (a + b) := (Int32.ofInt_add a b).symm
theorem iZ_sub (a b : Int) : iZ a - iZ b = iZ (a - b) := (Int32.ofInt_sub a b).symm
theorem iZ_mul (a b : Int) : iZ a * iZ b = iZ (a * b) := (Int32.ofInt_mul a b).symm
theorem iZ_neg (a : Int) : -iZ a = iZ (-a) := (Int32.ofInt_neg a).symm
theorem lZ_add (a b : Int) : lZ a + lZ b = lZ (a + b) := (Int64.ofInt_add a b).symm
theorem lZ_sub (a b : Int) : lZ a - lZ b = lZ (a - b) := (Int64.ofInt_sub a b).symm
theorem lZ_mul (a b : Int) : lZ a * lZ b = lZ (a * b) := (Int64.ofInt_mul a b).symm
theorem lZ_neg (a : Int) : -lZ a = lZ (-a) := (Int64.ofInt_neg a).symm
theorem iZ_lt {a b : Int} (ha : iR a) (hb : iR b) : iZ a < iZ b ↔ a < b := by rw [Int32.lt_iff_toInt_lt, iZ_toInt ha, iZ_toInt hb]
theorem iZ_le {a b : Int} (ha : iR a) (hb : iR b) : iZ a ≤ iZ b ↔ a ≤ b := by rw [Int32.le_iff_toInt_le, iZ_toInt ha, iZ_toInt hb]
theorem iZ_eq {a b : Int} (ha : iR a) (hb : iR b) : iZ a = iZ b ↔ a = b := by rw [← Int32.toInt_inj, iZ_toInt ha, iZ_toInt hb]
theorem lZ_lt {a b : Int} (ha : lR a) (hb : lR b) : lZ a < lZ b ↔ a < b := by rw [Int64.lt_iff_toInt_lt, lZ_toInt ha, lZ_toInt hb]
theorem lZ_eq {a b : Int} (ha : lR a) (hb : lR b) : lZ a = lZ b ↔ a = b := by rw [← Int64.toInt_inj, lZ_toInt ha, lZ_toInt hb]
theorem iZ_div {a b : Int} (ha : iR a) (hb : iR b) : iZ a / iZ b = iZ (a.tdiv b) := by
  apply Int32.toInt_inj.mp
  rw [Int32.toInt_div, iZ_toInt ha, iZ_toInt hb]
  exact Int32.toInt_ofInt.symm
theorem lZ_div {a b : Int} (ha : lR a) (hb : lR b) : lZ a / lZ b = lZ (a.tdiv b) := by
  apply Int64.toInt_inj.mp
  rw [Int64.toInt_div, lZ_toInt ha, lZ_toInt hb]
  exact Int64.toInt_ofInt.symm
theorem iZ_rem {a b : Int} (ha : iR a) (hb : iR b) : iZ a - iZ a / iZ b * iZ b = iZ (a.tmod b) := by
  rw [iZ_div ha hb, iZ_mul, iZ_sub]
  congr 1
  have := Int.tmod_add_mul_tdiv a b
  rw [Int.mul_comm] at this
  omega
theorem lZ_rem {a b : Int} (ha : lR a) (hb : lR b) : lZ a - lZ a / lZ b * lZ b = lZ (a.tmod b) := by
  rw [lZ_div ha hb, lZ_mul, lZ_sub]
  congr 1
  have := Int.tmod_add_mul_tdiv a b
  rw [Int.mul_comm] at this
  omega
theorem iZ_l {z : Int} (h : iR z) : (iZ z).toInt64 = lZ z := by
  apply Int64.toInt_inj.mp
  have h1 := h.1
  have h2 := h.2
  rw [Int32.toInt_toInt64, iZ_toInt h, lZ_toInt ⟨by omega, by omega⟩]
theorem lZ_i (z : Int) : (lZ z).toInt32 = iZ z := by
  unfold lZ iZ
  simp
theorem iZ_ne0 {z : Int} (h : iR z) (h0 : z ≠ 0) : ¬ iZ z = 0 := fun e => h0 ((iZ_eq h ⟨by decide, by decide⟩).mp (e.trans (by rfl)))
theorem lZ_ne0 {z : Int} (h : lR z) (h0 : z ≠ 0) : ¬ lZ z = 0 := fun e => h0 ((lZ_eq h ⟨by decide, by decide⟩).mp (e.trans (by rfl)))
theorem iZ_clamp {z : Int} (h : iR z) : (iZ z).toNatClampNeg = z.toNat := by
  show (iZ z).toInt.toNat = z.toNat
  rw [iZ_toInt h]
theorem iZ_ix {z : Int} {n : Nat} (h0 : 0 ≤ z) (h1 : z < n) (hn : n < 2147483648) : vp_in (iZ z) n := by
  rw [vp_in_iff, iZ_toInt ⟨by omega, by omega⟩]
  exact ⟨h0, h1⟩
/-- what lcmp answers -/
def zcmp (a b : Int) : Int := if a < b then -1 else if a = b then 0 else 1
theorem zcmp_lt {a b : Int} : zcmp a b < 0 ↔ a < b := by unfold zcmp; split <;> (try split) <;> omega
theorem zcmp_le {a b : Int} : zcmp a b ≤ 0 ↔ a ≤ b := by unfold zcmp; split <;> (try split) <;> omega
theorem zcmp_gt {a b : Int} : 0 < zcmp a b ↔ b < a := by unfold zcmp; split <;> (try split) <;> omega
theorem zcmp_ge {a b : Int} : 0 ≤ zcmp a b ↔ b ≤ a := by unfold zcmp; split <;> (try split) <;> omega
theorem zcmp_eq {a b : Int} : zcmp a b = 0 ↔ a = b := by unfold zcmp; split <;> (try split) <;> omega
theorem zcmp_R {a b : Int} : iR (zcmp a b) := by unfold zcmp iR; split <;> (try split) <;> omega
theorem lZ_cmp {a b : Int} (ha : lR a) (hb : lR b) : lg_cmp (lZ a) (lZ b) = iZ (zcmp a b) := by
  unfold lg_cmp zcmp
  simp only [gt_iff_lt, lZ_lt hb ha, lZ_eq ha hb]
  by_cases h1 : b < a
  · rw [if_pos h1, if_neg (by omega), if_neg (by omega)]; rfl
  · rw [if_neg h1]
    by_cases h2 : a = b
    · rw [if_pos h2, if_neg (by omega), if_pos h2]; rfl
    · rw [if_neg h2, if_pos (by omega)]; rfl
/-- a row of an array, changed at a place -/
def uZ (g : Int → Int) (i v : Int) : Int → Int := fun j => if j = i then v else g j
theorem uZ_s {g : Int → Int} {i v : Int} : uZ g i v i = v := if_pos rfl
theorem uZ_n {g : Int → Int} {i j v : Int} (h : j ≠ i) : uZ g i v j = g j := if_neg h
/-- rows of ints, longs, in the machine's words -/
def fI (g : Int → Int) : Nat → Int32 := fun k => iZ (g (k : Int))
def fJ (g : Int → Int) : Nat → Int64 := fun k => lZ (g (k : Int))
theorem fI_u {g : Int → Int} {i v : Int} (h : 0 ≤ i) (k : Nat) (hk : k = i.toNat) : upd (fI g) k (iZ v) = fI (uZ g i v) := by
  funext j
  unfold upd fI uZ
  subst hk
  by_cases e : j = i.toNat
  · rw [if_pos e, if_pos (by omega)]
  · rw [if_neg e, if_neg (by omega)]
theorem fJ_u {g : Int → Int} {i v : Int} (h : 0 ≤ i) (k : Nat) (hk : k = i.toNat) : vp_updL (fJ g) k (lZ v) = fJ (uZ g i v) := by
  funext j
  unfold vp_updL fJ uZ
  subst hk
  by_cases e : j = i.toNat
  · rw [if_pos e, if_pos (by omega)]
  · rw [if_neg e, if_neg (by omega)]
theorem fI_at {g : Int → Int} {i : Int} (h : 0 ≤ i) : fI g i.toNat = iZ (g i) := by unfold fI; rw [Int.toNat_of_nonneg h]
theorem fJ_at {g : Int → Int} {i : Int} (h : 0 ≤ i) : fJ g i.toNat = lZ (g i) := by unfold fJ; rw [Int.toNat_of_nonneg h]
