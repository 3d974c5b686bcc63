/-- the table and its divisor behind m of Bareiss' steps; a 0 in the diagonal is passed over -/
def stT (S : (Int → Int → Int) × Int) (c : Int) : (Int → Int → Int) × Int := if 0 < S.1 c c then (toT S.1 S.2 c, S.1 c c) else S
def itT (T : Int → Int → Int) (dv : Int) : Nat → (Int → Int → Int) × Int
  | 0 => (T, dv)
  | k + 1 => stT (itT T dv k) k
theorem toT_congr {T T2 : Int → Int → Int} {dv c : Int} (hc : 0 ≤ c ∧ c < 4) (h : eqT T T2) : eqT (toT T dv c) (toT T2 dv c) := fun r i a b a2 b2 => by
  unfold toT
  rw [h c i hc.1 hc.2 a2 b2, h c c hc.1 hc.2 (by omega) (by omega), h r i a b a2 b2, h r c a b (by omega) (by omega)]
theorem eqT_trans {T T2 T3 : Int → Int → Int} (h : eqT T T2) (h2 : eqT T2 T3) : eqT T T3 := fun r i a b a2 b2 => (h r i a b a2 b2).trans (h2 r i a b a2 b2)
/-- all that settle computes fits a long -/
def seB (T : Int → Int → Int) : Prop := (∀ k : Nat, k < 4 → lR ((itT T 1 k).1 k k) ∧ (0 < (itT T 1 k).1 k k → (lR (itT T 1 k).2 ∧ (itT T 1 k).2 ≠ 0) ∧ ∀ r i : Int, 0 ≤ r → r < 4 → 0 ≤ i → i < 8 → lR ((itT T 1 k).1 k k * (itT T 1 k).1 r i - (itT T 1 k).1 r k * (itT T 1 k).1 k i))) ∧ ∀ c : Int, 0 ≤ c → c < 4 → lR ((itT T 1 4).1 c c)
def plZ (T : Int → Int → Int) (ex : Int → Int) (c : Int) : Int := if 0 < T c c then sumZ (fun i => T c (4 + i) * ex i) 4 else 0
theorem l_X0_settle2 {G : zG} {n : Nat} {h : zH} {Post : Option Value → Nat → zH → Prop} {dv : Int} {T S : Int → Int → Int} {ex pu : Int → Int} (h30 : h 30 = some oTb) (hT : eqT T S) (hl : ∀ c : Int, 0 ≤ c → c < 4 → lR (S c c)) (kk : ∀ pu2 : Int → Int, (∀ c, 0 ≤ c → c < 4 → pu2 c = plZ S ex c) → (∀ c, 4 ≤ c → pu2 c = pu c) → Post none n (hB h dv T ex pu2)) : ∀ (k : Nat) (m : Int) (pu2 : Int → Int), 4 - m ≤ k → 0 ≤ m → m ≤ 4 → (∀ c, 0 ≤ c → c < m → pu2 c = plZ S ex c) → (∀ c, m ≤ c → pu2 c = pu c) → zAW G mX0_settle zTT (zF G mX0_settle Post) 20 [some (.ref 29), some (vi m)] [] n (hB h dv T ex pu2) 0 0 := by
  intro k
  induction k with
  | zero =>
    intro m pu2 hk h0 hm hp hp2
    obtain rfl : m = 4 := by omega
    refine zr_iload_n (pc := 20)  (i := 1) rfl rfl dX0_settle_20 ?_
    refine zr_iconst (pc := 21)  dX0_settle_21 ?_
    refine zr_icmp_ge (pc := 22)  (tgt := 59) ⟨by omega, by omega⟩ ⟨by omega, by omega⟩ (by decide) dX0_settle_22 (fun q22 => ?_) (fun q22 => ?_)
    · refine zr_vreturn (pc := 59)  rfl (by decide) (by decide) dX0_settle_59 ?_
      exact kk _ hp hp2
    · exact absurd q22 (by omega)
  | succ k ih =>
    intro m pu2 hk h0 hm hp hp2
    have step : m < 4 → ∀ v, v = plZ S ex m → zAW G mX0_settle zTT (zF G mX0_settle Post) 20 [some (.ref 29), some (vi (m + 1))] [] n (hB h dv T ex (uZ pu2 m v)) 0 0 := fun hm4 v hv => ih (m + 1) _ (by omega) (by omega) (by omega) (fun c a b => by
      by_cases e : c = m
      · rw [e, uZ_s, hv]
      · rw [uZ_n e]; exact hp c a (by omega)) (fun c a => by rw [uZ_n (by omega)]; exact hp2 c (by omega))
    refine zr_iload_n (pc := 20)  (i := 1) rfl rfl dX0_settle_20 ?_
    refine zr_iconst (pc := 21)  dX0_settle_21 ?_
    refine zr_icmp_ge (pc := 22)  (tgt := 59) ⟨by omega, by omega⟩ ⟨by omega, by omega⟩ (by decide) dX0_settle_22 (fun q22 => ?_) (fun q22 => ?_)
    · refine zr_vreturn (pc := 59)  rfl (by decide) (by decide) dX0_settle_59 ?_
      exact kk _ (fun c a b => hp c a (by omega)) (fun c a => hp2 c (by omega))
    · have e1 := hT m m h0 (by omega) h0 (by omega)
      have hlm := hl m h0 (by omega)
      refine zr_aload_n (pc := 25)  (i := 0) rfl rfl dX0_settle_25 ?_
      refine zr_get (pc := 26)  fl_X0_20 (by first | assumption | rfl | exact hB_row ⟨by omega, by omega⟩) rfl dX0_settle_26 ?_
      refine zr_iload_n (pc := 29)  (i := 1) rfl rfl dX0_settle_29 ?_
      refine zr_aload_n (pc := 30)  (i := 0) rfl rfl dX0_settle_30 ?_
      refine zr_get (pc := 31)  fl_X0_11 (by first | assumption | rfl | exact hB_row ⟨by omega, by omega⟩) rfl dX0_settle_31 ?_
      refine zr_iload_n (pc := 34)  (i := 1) rfl rfl dX0_settle_34 ?_
      refine zr_aald (pc := 35)  (by first | assumption | rfl | exact hB_row ⟨by omega, by omega⟩) ⟨by omega, by omega⟩ (by decide) (by exact oTb_at ⟨by omega, by omega⟩) dX0_settle_35 ?_
      refine zr_iload_n (pc := 36)  (i := 1) rfl rfl dX0_settle_36 ?_
      refine zr_lald (pc := 37)  (by first | assumption | rfl | exact hB_row ⟨by omega, by omega⟩) ⟨by omega, by omega⟩ (by decide) dX0_settle_37 ?_
      refine zr_lconst (pc := 38)  (z := 0) (by decide) dX0_settle_38 ?_
      refine zr_lcmp_le (pc := 39)  (tgt := 51) ⟨by omega, by omega⟩ ⟨by omega, by omega⟩ (by decide) dX0_settle_39 dX0_settle_40 (fun q40 => ?_) (fun q40 => ?_)
      · refine zr_lconst (pc := 51)  (z := 0) (by decide) dX0_settle_51 ?_
        refine zr_last (pc := 52)  (by first | assumption | rfl | exact hB_row ⟨by omega, by omega⟩) ⟨by omega, by omega⟩ (by decide) dX0_settle_52 ?_
        refine zr_heap hB_36 ?_
        refine zs_iinc_1 (pc := 53)  (by first | exact zn_i | exact zn_r | exact zn_0) (by decide) dX0_settle_53 ?_
        refine zr_goto (pc := 56)  (tgt := 20) (by decide) dX0_settle_56 ?_
        first | exact step (by omega) 0 (by unfold plZ; rw [if_neg (by omega)]) | exact step (by omega) _ (by unfold plZ; rw [if_pos (by omega)]; exact sumZ_congr 4 (fun j a b => by rw [hT m (4 + j) h0 (by omega) (by omega) (by omega)]))
      · refine zr_aload_n (pc := 43)  (i := 0) rfl rfl dX0_settle_43 ?_
        refine zr_iload_n (pc := 44)  (i := 1) rfl rfl dX0_settle_44 ?_
        refine zv_call1 (pc := 45)  cv_X0_settle_37 (by first | assumption | rfl | exact hB_row ⟨by omega, by omega⟩) ⟨_, rfl, rfl⟩ (Nat.le_of_ble_eq_true rfl) (by decide) dX0_settle_45 ?_
        refine k_X0_pullAt h30 ⟨by omega, by omega⟩ ?_
        dsimp only [Option.toList, List.cons_append, List.nil_append]
        refine zr_goto (pc := 48)  (tgt := 52) (by decide) dX0_settle_48 ?_
        refine zr_last (pc := 52)  (by first | assumption | rfl | exact hB_row ⟨by omega, by omega⟩) ⟨by omega, by omega⟩ (by decide) dX0_settle_52 ?_
        refine zr_heap hB_36 ?_
        refine zs_iinc_1 (pc := 53)  (by first | exact zn_i | exact zn_r | exact zn_0) (by decide) dX0_settle_53 ?_
        refine zr_goto (pc := 56)  (tgt := 20) (by decide) dX0_settle_56 ?_
        first | exact step (by omega) 0 (by unfold plZ; rw [if_neg (by omega)]) | exact step (by omega) _ (by unfold plZ; rw [if_pos (by omega)]; exact sumZ_congr 4 (fun j a b => by rw [hT m (4 + j) h0 (by omega) (by omega) (by omega)]))
/-- the divisor stays above 0 -/
theorem itT_pos {T : Int → Int → Int} : ∀ k : Nat, 0 < (itT T 1 k).2
  | 0 => by show (0 : Int) < 1; decide
  | k + 1 => by
    show 0 < (stT (itT T 1 k) k).2
    unfold stT
    split
    · assumption
    · exact itT_pos k
theorem stT_congr {T T2 : Int → Int → Int} {dv c : Int} (hc : 0 ≤ c ∧ c < 4) (h : eqT T T2) : eqT (stT (T, dv) c).1 (stT (T2, dv) c).1 ∧ (stT (T, dv) c).2 = (stT (T2, dv) c).2 := by
  have e := h c c hc.1 hc.2 hc.1 (by omega)
  by_cases hp : 0 < T2 c c
  · have e1 : stT (T, dv) c = (toT T dv c, T c c) := if_pos (by rw [← e] at hp; exact hp)
    have e2 : stT (T2, dv) c = (toT T2 dv c, T2 c c) := if_pos hp
    rw [e1, e2]
    exact ⟨toT_congr hc h, e⟩
  · have e1 : stT (T, dv) c = (T, dv) := if_neg (by rw [← e] at hp; exact hp)
    have e2 : stT (T2, dv) c = (T2, dv) := if_neg hp
    rw [e1, e2]
    exact ⟨h, rfl⟩
theorem k_X0_turnOverS {G : zG} {n : Nat} {h : zH} {Post : Option Value → Nat → zH → Prop} {c dv : Int} {T : Int → Int → Int} {ex pu : Int → Int} (h30 : h 30 = some oTb) (hc : 0 ≤ c ∧ c < 4) (hl : lR (T c c)) (hdv : 0 < T c c → lR dv ∧ 0 < dv) (hn : 0 < T c c → ∀ r i, 0 ≤ r → r < 4 → 0 ≤ i → i < 8 → lR (T c c * T r i - T r c * T c i)) (k : ∀ T2 : Int → Int → Int, eqT T2 (stT (T, dv) c).1 → Post none n (hB h (stT (T, dv) c).2 T2 ex pu)) : zMP G mX0_turnOver [.ref 29, vi c] n (hB h dv T ex pu) Post :=
  k_X0_turnOver h30 hc hl hdv hn (fun hp T2 h2 => by
    have e : stT (T, dv) c = (toT T dv c, T c c) := if_pos hp
    have L := k T2
    rw [e] at L
    exact L h2) (fun hz => by
    have e : stT (T, dv) c = (T, dv) := if_neg hz
    have L := k T
    rw [e] at L
    exact L (fun _ _ _ _ _ _ => rfl))
theorem l_X0_settle1 {G : zG} {n : Nat} {h : zH} {Post : Option Value → Nat → zH → Prop} {T : Int → Int → Int} {ex pu : Int → Int} (h30 : h 30 = some oTb) (hb : seB T) (kk : ∀ (T2 : Int → Int → Int) (pu2 : Int → Int), eqT T2 (itT T 1 4).1 → (∀ c, 0 ≤ c → c < 4 → pu2 c = plZ (itT T 1 4).1 ex c) → (∀ c, 4 ≤ c → pu2 c = pu c) → Post none n (hB h (itT T 1 4).2 T2 ex pu2)) : ∀ (k m : Nat) (T2 : Int → Int → Int), 4 - m ≤ k → m ≤ 4 → eqT T2 (itT T 1 m).1 → zAW G mX0_settle zTT (zF G mX0_settle Post) 2 [some (.ref 29), some (vi m)] [] n (hB h (itT T 1 m).2 T2 ex pu) 0 0 := by
  intro k
  induction k with
  | zero =>
    intro m T2 hk hm hT
    obtain rfl : m = 4 := by omega
    refine zr_iload_n (pc := 2)  (i := 1) rfl rfl dX0_settle_2 ?_
    refine zr_iconst (pc := 3)  dX0_settle_3 ?_
    refine zr_icmp_ge (pc := 4)  (tgt := 18) ⟨by omega, by omega⟩ ⟨by omega, by omega⟩ (by decide) dX0_settle_4 (fun q4 => ?_) (fun q4 => ?_)
    · refine zr_iconst (pc := 18)  dX0_settle_18 ?_
      refine zs_istore_n_1 (pc := 19)  (by first | exact zn_i | exact zn_r | exact zn_0) (by decide) dX0_settle_19 ?_
      exact l_X0_settle2 h30 hT hb.2 (fun pu2 a b => kk _ _ hT a b) 4 0 pu (by omega) (by omega) (by omega) (fun c a b => by omega) (fun c _ => rfl)
    · exact absurd q4 (by omega)
  | succ k ih =>
    intro m T2 hk hm hT
    refine zr_iload_n (pc := 2)  (i := 1) rfl rfl dX0_settle_2 ?_
    refine zr_iconst (pc := 3)  dX0_settle_3 ?_
    refine zr_icmp_ge (pc := 4)  (tgt := 18) ⟨by omega, by omega⟩ ⟨by omega, by omega⟩ (by decide) dX0_settle_4 (fun q4 => ?_) (fun q4 => ?_)
    · obtain rfl : m = 4 := by omega
      refine zr_iconst (pc := 18)  dX0_settle_18 ?_
      refine zs_istore_n_1 (pc := 19)  (by first | exact zn_i | exact zn_r | exact zn_0) (by decide) dX0_settle_19 ?_
      exact l_X0_settle2 h30 hT hb.2 (fun pu2 a b => kk _ _ hT a b) 4 0 pu (by omega) (by omega) (by omega) (fun c a b => by omega) (fun c _ => rfl)
    · have e1 := hT m m (by omega) (by omega) (by omega) (by omega)
      have hbm := hb.1 m (by omega)
      refine zr_aload_n (pc := 7)  (i := 0) rfl rfl dX0_settle_7 ?_
      refine zr_iload_n (pc := 8)  (i := 1) rfl rfl dX0_settle_8 ?_
      refine zv_call1 (pc := 9)  cv_X0_settle_33 (by first | assumption | rfl | exact hB_row ⟨by omega, by omega⟩) ⟨_, rfl, rfl⟩ (Nat.le_of_ble_eq_true rfl) (by decide) dX0_settle_9 ?_
      refine k_X0_turnOverS h30 ⟨by omega, by omega⟩ (by rw [e1]; exact hbm.1) (fun hp => ⟨(hbm.2 (by omega)).1.1, itT_pos m⟩) (fun hp r i a b a2 b2 => by rw [e1, hT r i a b a2 b2, hT r m a b (by omega) (by omega), hT m i (by omega) (by omega) a2 b2]; exact (hbm.2 (by omega)).2 r i a b a2 b2) (fun T3 hT3 => ?_)
      rw [(stT_congr ⟨by omega, by omega⟩ hT).2]
      dsimp only [Option.toList, List.cons_append, List.nil_append]
      refine zs_iinc_1 (pc := 12)  (by first | exact zn_i | exact zn_r | exact zn_0) (by decide) dX0_settle_12 ?_
      refine zr_goto (pc := 15)  (tgt := 2) (by decide) dX0_settle_15 ?_
      exact ih (m + 1) T3 (by omega) (by omega) (eqT_trans hT3 (stT_congr ⟨by omega, by omega⟩ hT).1)
theorem k_X0_settle {G : zG} {n : Nat} {h : zH} {Post : Option Value → Nat → zH → Prop} {T : Int → Int → Int} {ex pu : Int → Int} (h30 : h 30 = some oTb) (hb : seB T) (k : ∀ (T2 : Int → Int → Int) (pu2 : Int → Int), eqT T2 (itT T 1 4).1 → (∀ c, 0 ≤ c → c < 4 → pu2 c = plZ (itT T 1 4).1 ex c) → (∀ c, 4 ≤ c → pu2 c = pu c) → Post none n (hB h (itT T 1 4).2 T2 ex pu2)) : zMP G mX0_settle [.ref 29] n (hB h 1 T ex pu) Post := by
  refine zMP_of (by decide) [some _, none] (Nat.le_of_ble_eq_true rfl) rfl ?_
  refine zr_iconst (pc := 0)  dX0_settle_0 ?_
  refine zs_istore_n_1 (pc := 1)  (by first | exact zn_i | exact zn_r | exact zn_0) (by decide) dX0_settle_1 ?_
  exact l_X0_settle1 h30 hb k 4 0 T (by omega) (by omega) (fun _ _ _ _ _ _ => rfl)
