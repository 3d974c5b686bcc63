/-! sums of a group, a sample -/
theorem cntP_stop {q : Int → Prop} {k : Nat} (h : 4 ≤ cntP q k) : ∀ m : Nat, k ≤ m → cntP q m = cntP q k ∧ ∀ F, sumP q F m = sumP q F k := by
  intro m hm
  induction m with
  | zero =>
    obtain rfl : k = 0 := by omega
    exact ⟨rfl, fun _ => rfl⟩
  | succ m ih =>
    by_cases e : k = m + 1
    · rw [e]; exact ⟨rfl, fun _ => rfl⟩
    · obtain ⟨i1, i2⟩ := ih (by omega)
      have e2 : ¬ (q m ∧ cntP q m < 4) := fun z => by rw [i1] at z; omega
      refine ⟨?_, fun F => ?_⟩
      · rw [show cntP q (m + 1) = cntP q m + ind (q m ∧ cntP q m < 4) from rfl, ind_f e2, i1]; omega
      · rw [show sumP q F (m + 1) = sumP q F m + ind (q m ∧ cntP q m < 4) * F m from rfl, ind_f e2, i2 F]; omega
theorem sumP_0 {q : Int → Prop} {F : Int → Int} : ∀ k : Nat, cntP q k = 0 → sumP q F k = 0
  | 0, _ => rfl
  | k + 1, h => by
    have h : cntP q k + ind (q k ∧ cntP q k < 4) = 0 := h
    have h1 := (cntP_R q k).1
    have h2 := ind_R (q k ∧ cntP q k < 4)
    show sumP q F k + ind (q k ∧ cntP q k < 4) * F k = 0
    rw [sumP_0 k (by omega), show ind (q k ∧ cntP q k < 4) = 0 by omega, Int.zero_mul]; rfl
theorem th_iff {s rk gr : Int → Int} (hs : ∀ p, s p ≤ 50) {g w : Int} : 0 < TS s rk gr g w ↔ thS s rk gr g w := by
  have hR := S_R (rk := rk) (gr := gr) hs g w
  unfold thS
  constructor
  · intro h
    refine ⟨?_, by omega⟩
    have h0 : CS s rk gr g w ≠ 0 := fun e => by
      have := sumP_0 (F := fun r => sumZ (dyS s r) 84) 16 e
      unfold TS at h
      omega
    omega
  · intro h
    omega
theorem cnD_0 {f : Int → Int} : ∀ k : Nat, cnD f 0 k = 0
  | 0 => rfl
  | k + 1 => by
    have := cnD_0 (f := f) k
    show cnD f 0 k + ind (cnD f 0 k < 0 ∧ 0 ≤ f k) = 0
    rw [this, ind_f (by omega)]; rfl
def smS (s rk gr : Int → Int) (g w : Int) (bw bm : Int → Int) : Prop := (∀ i, 0 ≤ i → i < 7 → bw i = WS s rk gr g w i) ∧ ∀ i, 0 ≤ i → i < 12 → bm i = MS s rk gr g w i
def hU (h : zH) (o : va_E) (bw bm : Int → Int) : zH := zup (zup (zup h 52 (aJ 7 bw)) 53 (aJ 12 bm)) 38 o
section HU
variable {h : zH} {o o2 : va_E} {bw bm b2 : Int → Int}
theorem hU_52 : zup (hU h o bw bm) 52 (aJ 7 b2) = hU h o b2 bm := by
  funext j
  simp only [hU, zup]
  (repeat' split) <;> first | rfl | omega
theorem hU_53 : zup (hU h o bw bm) 53 (aJ 12 b2) = hU h o bw b2 := by
  funext j
  simp only [hU, zup]
  (repeat' split) <;> first | rfl | omega
theorem hU_38 : zup (hU h o bw bm) 38 o2 = hU h o2 bw bm := by unfold hU; rw [zup_zup]
theorem hU_fr {j : Nat} (hj : j < 38 ∨ (38 < j ∧ j < 52) ∨ 53 < j) : hU h o bw bm j = h j := by unfold hU; rw [zup_n (by omega), zup_n (by omega), zup_n (by omega)]
end HU
section MOD
variable {G : zG} {n : Nat} {h : zH} {Post : Option Value → Nat → zH → Prop} {th len now al pm pd sq up lw : Int} {tb rk rs rg gr bt bc ek ap pl : Int → Int} {N : Nat}
variable {s sn iw : Int → Int}
theorem k_X8_sampleOf {r : Int} (m38 : h 38 = some (oMod th len N now al pm pd sq up lw)) (m50 : h 50 = some (aI 1344 sn)) (m51 : h 51 = some (aZ 16 iw)) (hl : lkS s rk gr sn iw) (hs : ∀ p, -3 ≤ s p ∧ s p ≤ 50) (hr : (0 ≤ r ∧ r < 16) ∧ rk r = 1) (k : Post (some (vi (cnD (dyS s r) (lmS s rk gr r) 84))) n h) : zMP G mX8_sampleOf [.ref 38, vi r] n h Post := by
  have kp := k
  have hwr := hl.2.1 r hr.1.1 hr.1.2
  have hzr := hl.2.2 r
  have main : ∀ (k m : Nat) (ct : Int), 84 - m ≤ k → m ≤ 84 → ct = cnD (dyS s r) (lmS s rk gr r) m → zAW G mX8_sampleOf zTT (zF G mX8_sampleOf Post) 4 [some (.ref 38), some (vi r), some (vi ct), some (vi m)] [] n h 0 0 := by
    intro k
    induction k with
    | zero =>
      intro m ct hk hm hT
      obtain rfl : m = 84 := by omega
      rw [← hT] at kp
      refine zr_iload_n (pc := 4)  (i := 3) rfl rfl dX8_sampleOf_4 ?_
      refine zr_bipush (pc := 5)  (by decide) dX8_sampleOf_5 ?_
      refine zr_icmp_ge (pc := 7)  (tgt := 53) ⟨by omega, by omega⟩ ⟨by omega, by omega⟩ (by decide) dX8_sampleOf_7 (fun q7 => ?_) (fun q7 => ?_)
      · refine zr_iload_n (pc := 53)  (i := 2) rfl rfl dX8_sampleOf_53 ?_
        refine zr_ireturn (pc := 54)  rfl (by decide) (by decide) dX8_sampleOf_54 ?_
        exact kp
      · exact absurd q7 (by omega)
    | succ k ih =>
      intro m ct hk hm hT
      have hsd := hs (r * 84 + m)
      have hsn : m < 84 → sn (84 * r + m) = s (r * 84 + m) := fun z => by rw [Int.mul_comm 84 r]; exact hl.1 (r * 84 + m) (by omega) (by omega) (by rw [show (r * 84 + (m : Int)) / 84 = r by omega]; exact hr.2)
      have hc := cnD_R (dyS s r) (lmS_R (s := s) (rk := rk) (gr := gr) (r := r)).1 m
      have hlm : lmS s rk gr r = if iw r = 1 then 0 else 14 := by
        unfold lmS
        by_cases q : iw r = 1
        · rw [if_pos q, if_pos (hwr.mp q)]
        · rw [if_neg q, if_neg (fun z => q (hwr.mpr z))]
      have es : cnD (dyS s r) (lmS s rk gr r) (m + 1) = ct + ind (ct < lmS s rk gr r ∧ 0 ≤ s (r * 84 + m)) := by rw [hT]; rfl
      have hst : lmS s rk gr r ≤ ct → cnD (dyS s r) (lmS s rk gr r) 84 = ct := fun z => by rw [hT]; exact (cnD_stop (by rw [← hT]; exact z) 84 hm).1
      have hlc : lmS s rk gr r = 0 ∨ lmS s rk gr r = 14 := by rw [hlm]; split <;> omega
      rw [← hT] at hc
      refine zr_iload_n (pc := 4)  (i := 3) rfl rfl dX8_sampleOf_4 ?_
      refine zr_bipush (pc := 5)  (by decide) dX8_sampleOf_5 ?_
      refine zr_icmp_ge (pc := 7)  (tgt := 53) ⟨by omega, by omega⟩ ⟨by omega, by omega⟩ (by decide) dX8_sampleOf_7 (fun q7 => ?_) (fun q7 => ?_)
      · have e : cnD (dyS s r) (lmS s rk gr r) 84 = ct := by first | (have e : m = 84 := (by omega); subst e; exact hT.symm) | exact hst (by omega) | (rw [if_pos (by omega)] at hlm; exact hst (by omega))
        refine zr_iload_n (pc := 53)  (i := 2) rfl rfl dX8_sampleOf_53 ?_
        refine zr_ireturn (pc := 54)  rfl (by decide) (by decide) dX8_sampleOf_54 ?_
        rw [e] at kp
        exact kp
      · refine zr_iload_n (pc := 10)  (i := 2) rfl rfl dX8_sampleOf_10 ?_
        refine zr_bipush (pc := 11)  (by decide) dX8_sampleOf_11 ?_
        refine zr_icmp_ge (pc := 13)  (tgt := 53) ⟨by omega, by omega⟩ ⟨by omega, by omega⟩ (by decide) dX8_sampleOf_13 (fun q13 => ?_) (fun q13 => ?_)
        · have e : cnD (dyS s r) (lmS s rk gr r) 84 = ct := by first | (have e : m = 84 := (by omega); subst e; exact hT.symm) | exact hst (by omega) | (rw [if_pos (by omega)] at hlm; exact hst (by omega))
          refine zr_iload_n (pc := 53)  (i := 2) rfl rfl dX8_sampleOf_53 ?_
          refine zr_ireturn (pc := 54)  rfl (by decide) (by decide) dX8_sampleOf_54 ?_
          rw [e] at kp
          exact kp
        · refine zr_aload_n (pc := 16)  (i := 0) rfl rfl dX8_sampleOf_16 ?_
          refine zr_get (pc := 17)  fl_X8_48 (by first | assumption | rfl | (repeat (first | assumption | exact zup_s | refine zup_g (by decide) ?_))) rfl dX8_sampleOf_17 ?_
          refine zr_iload_n (pc := 20)  (i := 1) rfl rfl dX8_sampleOf_20 ?_
          refine zr_zald (pc := 21)  (by first | assumption | rfl | (repeat (first | assumption | exact zup_s | refine zup_g (by decide) ?_))) ⟨by omega, by omega⟩ (by decide) dX8_sampleOf_21 ?_
          refine zr_if_ne (pc := 22)  (tgt := 53) ⟨by omega, by omega⟩ (by decide) dX8_sampleOf_22 (fun q22 => ?_) (fun q22 => ?_)
          · have e : cnD (dyS s r) (lmS s rk gr r) 84 = ct := by first | (have e : m = 84 := (by omega); subst e; exact hT.symm) | exact hst (by omega) | (rw [if_pos (by omega)] at hlm; exact hst (by omega))
            refine zr_iload_n (pc := 53)  (i := 2) rfl rfl dX8_sampleOf_53 ?_
            refine zr_ireturn (pc := 54)  rfl (by decide) (by decide) dX8_sampleOf_54 ?_
            rw [e] at kp
            exact kp
          · have hl14 : lmS s rk gr r = 14 := by rw [hlm, if_neg (by omega)]
            have hsn' := hsn (by omega)
            refine zr_iload_n (pc := 25)  (i := 2) rfl rfl dX8_sampleOf_25 ?_
            refine zr_aload_n (pc := 26)  (i := 0) rfl rfl dX8_sampleOf_26 ?_
            refine zr_get (pc := 27)  fl_X8_45 (by first | assumption | rfl | (repeat (first | assumption | exact zup_s | refine zup_g (by decide) ?_))) rfl dX8_sampleOf_27 ?_
            refine zr_bipush (pc := 30)  (by decide) dX8_sampleOf_30 ?_
            refine zr_iload_n (pc := 32)  (i := 1) rfl rfl dX8_sampleOf_32 ?_
            refine zr_imul (pc := 33)  dX8_sampleOf_33 ?_
            refine zr_iload_n (pc := 34)  (i := 3) rfl rfl dX8_sampleOf_34 ?_
            refine zr_iadd (pc := 35)  dX8_sampleOf_35 ?_
            refine zr_iald (pc := 36)  (by first | assumption | rfl | (repeat (first | assumption | exact zup_s | refine zup_g (by decide) ?_))) ⟨by omega, by omega⟩ (by decide) dX8_sampleOf_36 ?_
            refine zr_if_lt (pc := 37)  (tgt := 44) ⟨by omega, by omega⟩ (by decide) dX8_sampleOf_37 (fun q37 => ?_) (fun q37 => ?_)
            · refine zr_iconst (pc := 44)  dX8_sampleOf_44 ?_
              refine zr_iadd (pc := 45)  dX8_sampleOf_45 ?_
              refine zs_istore_n_2 (pc := 46)  (by first | exact zn_i | exact zn_r | exact zn_0) (by decide) dX8_sampleOf_46 ?_
              refine zs_iinc_3 (pc := 47)  (by first | exact zn_i | exact zn_r | exact zn_0) (by decide) dX8_sampleOf_47 ?_
              refine zr_goto (pc := 50)  (tgt := 4) (by decide) dX8_sampleOf_50 ?_
              first | exact ih (m + 1) _ (by omega) (by omega) (by rw [es, ind_f (by omega)]) | exact ih (m + 1) _ (by omega) (by omega) (by rw [es, ind_t (by omega)])
            · refine zr_iconst (pc := 40)  dX8_sampleOf_40 ?_
              refine zr_goto (pc := 41)  (tgt := 45) (by decide) dX8_sampleOf_41 ?_
              refine zr_iadd (pc := 45)  dX8_sampleOf_45 ?_
              refine zs_istore_n_2 (pc := 46)  (by first | exact zn_i | exact zn_r | exact zn_0) (by decide) dX8_sampleOf_46 ?_
              refine zs_iinc_3 (pc := 47)  (by first | exact zn_i | exact zn_r | exact zn_0) (by decide) dX8_sampleOf_47 ?_
              refine zr_goto (pc := 50)  (tgt := 4) (by decide) dX8_sampleOf_50 ?_
              first | exact ih (m + 1) _ (by omega) (by omega) (by rw [es, ind_f (by omega)]) | exact ih (m + 1) _ (by omega) (by omega) (by rw [es, ind_t (by omega)])
  refine zMP_of (by decide) [some _, some _, none, none] (Nat.le_of_ble_eq_true rfl) rfl ?_
  refine zr_iconst (pc := 0)  dX8_sampleOf_0 ?_
  refine zs_istore_n_2 (pc := 1)  (by first | exact zn_i | exact zn_r | exact zn_0) (by decide) dX8_sampleOf_1 ?_
  refine zr_iconst (pc := 2)  dX8_sampleOf_2 ?_
  refine zs_istore_n_3 (pc := 3)  (by first | exact zn_i | exact zn_r | exact zn_0) (by decide) dX8_sampleOf_3 ?_
  exact main 84 0 0 (by omega) (by omega) rfl
theorem k_X8_worthOf {bw bm : Int → Int} {d : Int} (m38 : h 38 = some (oMod th len N now al pm pd sq up lw)) (m52 : h 52 = some (aJ 7 bw)) (m53 : h 53 = some (aJ 12 bm)) (hd : 0 ≤ d ∧ d < 84) (k : Post (some (vl (bw (d % 7) * bm (d / 7)))) n h) : zMP G mX8_worthOf [.ref 38, vi d] n h Post := by
  refine zMP_of (by decide) [some _, some _] (Nat.le_of_ble_eq_true rfl) rfl ?_
  refine zr_aload_n (pc := 0)  (i := 0) rfl rfl dX8_worthOf_0 ?_
  refine zr_get (pc := 1)  fl_X8_51 (by first | assumption | rfl | (repeat (first | assumption | exact zup_s | refine zup_g (by decide) ?_))) rfl dX8_worthOf_1 ?_
  refine zr_iload_n (pc := 4)  (i := 1) rfl rfl dX8_worthOf_4 ?_
  refine zr_bipush (pc := 5)  (by decide) dX8_worthOf_5 ?_
  refine zr_iremN (pc := 7)  ⟨by omega, by omega⟩ ⟨by omega, by omega⟩ dX8_worthOf_7 ?_
  refine zr_lald (pc := 8)  (by first | assumption | rfl | (repeat (first | assumption | exact zup_s | refine zup_g (by decide) ?_))) ⟨by omega, by omega⟩ (by decide) dX8_worthOf_8 ?_
  refine zr_aload_n (pc := 9)  (i := 0) rfl rfl dX8_worthOf_9 ?_
  refine zr_get (pc := 10)  fl_X8_55 (by first | assumption | rfl | (repeat (first | assumption | exact zup_s | refine zup_g (by decide) ?_))) rfl dX8_worthOf_10 ?_
  refine zr_iload_n (pc := 13)  (i := 1) rfl rfl dX8_worthOf_13 ?_
  refine zr_bipush (pc := 14)  (by decide) dX8_worthOf_14 ?_
  refine zr_idivN (pc := 16)  ⟨by omega, by omega⟩ ⟨by omega, by omega⟩ dX8_worthOf_16 ?_
  refine zr_lald (pc := 17)  (by first | assumption | rfl | (repeat (first | assumption | exact zup_s | refine zup_g (by decide) ?_))) ⟨by omega, by omega⟩ (by decide) dX8_worthOf_17 ?_
  refine zr_lmul (pc := 18)  dX8_worthOf_18 ?_
  refine zr_lreturn (pc := 19)  rfl (by decide) (by decide) dX8_worthOf_19 ?_
  exact k
theorem l_X8_sums4 {g w r : Int} (m50 : h 50 = some (aI 1344 sn)) (hl : lkS s rk gr sn iw) (hs : ∀ p, -3 ≤ s p ∧ s p ≤ 50) (hr : (0 ≤ r ∧ r < 16) ∧ rk r = 1) {B M : Int → Int} {A : Int} (kk : ∀ bw bm : Int → Int, (∀ i, 0 ≤ i → i < 7 → bw i = B i + wsum (dyS s r) i 84) → (∀ i, 0 ≤ i → i < 12 → bm i = M i + msum (dyS s r) i 84) → zAW G mX8_sums zTT (zF G mX8_sums Post) 195 [some (.ref 38), some (vi g), some (vi w), some (vi r), some (vi 84)] [] n (hU h (oMod th len N now (A + sumZ (dyS s r) 84) pm pd sq up lw) bw bm) 0 0) : ∀ (k m : Nat) (bw bm : Int → Int) (al : Int), 84 - m ≤ k → m ≤ 84 → (∀ i, 0 ≤ i → i < 7 → bw i = B i + wsum (dyS s r) i m) → (∀ i, 0 ≤ i → i < 12 → bm i = M i + msum (dyS s r) i m) → al = A + sumZ (dyS s r) m → zAW G mX8_sums zTT (zF G mX8_sums Post) 108 [some (.ref 38), some (vi g), some (vi w), some (vi r), some (vi m)] [] n (hU h (oMod th len N now al pm pd sq up lw) bw bm) 0 0 := by
  intro k
  induction k with
  | zero =>
    intro m bw bm al hk hm h1 h2 h3
    obtain rfl : m = 84 := by omega
    subst h3
    refine zr_iload (pc := 108)  rfl dX8_sums_108 ?_
    refine zr_bipush (pc := 110)  (by decide) dX8_sums_110 ?_
    refine zr_icmp_ge (pc := 112)  (tgt := 195) ⟨by omega, by omega⟩ ⟨by omega, by omega⟩ (by decide) dX8_sums_112 (fun q112 => ?_) (fun q112 => ?_)
    · exact kk bw bm h1 h2
    · exact absurd q112 (by omega)
  | succ k ih =>
    intro m bw bm al hk hm h1 h2 h3
    have hsd := hs (r * 84 + m)
    have hsn : m < 84 → sn (84 * r + m) = s (r * 84 + m) := fun z => by rw [Int.mul_comm 84 r]; exact hl.1 (r * 84 + m) (by omega) (by omega) (by rw [show (r * 84 + (m : Int)) / 84 = r by omega]; exact hr.2)
    have w1 : ∀ i, wsum (dyS s r) i (m + 1) = wsum (dyS s r) i m + (if (m : Int) % 7 = i then s (r * 84 + m) else 0) := fun i => rfl
    have w2 : ∀ i, msum (dyS s r) i (m + 1) = msum (dyS s r) i m + (if (m : Int) / 7 = i then s (r * 84 + m) else 0) := fun i => rfl
    have w3 : sumZ (dyS s r) (m + 1) = sumZ (dyS s r) m + s (r * 84 + m) := rfl
    refine zr_iload (pc := 108)  rfl dX8_sums_108 ?_
    refine zr_bipush (pc := 110)  (by decide) dX8_sums_110 ?_
    refine zr_icmp_ge (pc := 112)  (tgt := 195) ⟨by omega, by omega⟩ ⟨by omega, by omega⟩ (by decide) dX8_sums_112 (fun q112 => ?_) (fun q112 => ?_)
    · obtain rfl : m = 84 := by omega
      subst h3
      exact kk bw bm h1 h2
    · have hsn' := hsn (by omega)
      refine zr_aload_n (pc := 115)  (i := 0) rfl rfl dX8_sums_115 ?_
      refine zr_get (pc := 116)  fl_X8_51 (by first | assumption | rfl | (repeat (first | assumption | exact zup_s | refine zup_g (by decide) ?_))) rfl dX8_sums_116 ?_
      refine zr_iload (pc := 119)  rfl dX8_sums_119 ?_
      refine zr_bipush (pc := 121)  (by decide) dX8_sums_121 ?_
      refine zr_iremN (pc := 123)  ⟨by omega, by omega⟩ ⟨by omega, by omega⟩ dX8_sums_123 ?_
      first | refine zr_dup2 (pc := 124)  rfl rfl dX8_sums_124 ?_ | refine zr_dup2L (pc := 124)  rfl dX8_sums_124 ?_
      refine zr_lald (pc := 125)  (by first | assumption | rfl | (repeat (first | assumption | exact zup_s | refine zup_g (by decide) ?_))) ⟨by omega, by omega⟩ (by decide) dX8_sums_125 ?_
      refine zr_aload_n (pc := 126)  (i := 0) rfl rfl dX8_sums_126 ?_
      refine zr_get (pc := 127)  fl_X8_45 (by first | assumption | rfl | (repeat (first | assumption | exact zup_s | refine zup_g (by decide) ?_))) rfl dX8_sums_127 ?_
      refine zr_bipush (pc := 130)  (by decide) dX8_sums_130 ?_
      refine zr_iload_n (pc := 132)  (i := 3) rfl rfl dX8_sums_132 ?_
      refine zr_imul (pc := 133)  dX8_sums_133 ?_
      refine zr_iload (pc := 134)  rfl dX8_sums_134 ?_
      refine zr_iadd (pc := 136)  dX8_sums_136 ?_
      refine zr_iald (pc := 137)  (by first | assumption | rfl | (repeat (first | assumption | exact zup_s | refine zup_g (by decide) ?_))) ⟨by omega, by omega⟩ (by decide) dX8_sums_137 ?_
      rw [hsn']
      refine zr_i2l (pc := 138)  ⟨by omega, by omega⟩ dX8_sums_138 ?_
      refine zr_ladd (pc := 139)  dX8_sums_139 ?_
      refine zr_last (pc := 140)  (by first | assumption | rfl | (repeat (first | assumption | exact zup_s | refine zup_g (by decide) ?_))) ⟨by omega, by omega⟩ (by decide) dX8_sums_140 ?_
      refine zr_heap hU_52 ?_
      refine zr_aload_n (pc := 141)  (i := 0) rfl rfl dX8_sums_141 ?_
      refine zr_get (pc := 142)  fl_X8_55 (by first | assumption | rfl | (repeat (first | assumption | exact zup_s | refine zup_g (by decide) ?_))) rfl dX8_sums_142 ?_
      refine zr_iload (pc := 145)  rfl dX8_sums_145 ?_
      refine zr_bipush (pc := 147)  (by decide) dX8_sums_147 ?_
      refine zr_idivN (pc := 149)  ⟨by omega, by omega⟩ ⟨by omega, by omega⟩ dX8_sums_149 ?_
      first | refine zr_dup2 (pc := 150)  rfl rfl dX8_sums_150 ?_ | refine zr_dup2L (pc := 150)  rfl dX8_sums_150 ?_
      refine zr_lald (pc := 151)  (by first | assumption | rfl | (repeat (first | assumption | exact zup_s | refine zup_g (by decide) ?_))) ⟨by omega, by omega⟩ (by decide) dX8_sums_151 ?_
      refine zr_aload_n (pc := 152)  (i := 0) rfl rfl dX8_sums_152 ?_
      refine zr_get (pc := 153)  fl_X8_45 (by first | assumption | rfl | (repeat (first | assumption | exact zup_s | refine zup_g (by decide) ?_))) rfl dX8_sums_153 ?_
      refine zr_bipush (pc := 156)  (by decide) dX8_sums_156 ?_
      refine zr_iload_n (pc := 158)  (i := 3) rfl rfl dX8_sums_158 ?_
      refine zr_imul (pc := 159)  dX8_sums_159 ?_
      refine zr_iload (pc := 160)  rfl dX8_sums_160 ?_
      refine zr_iadd (pc := 162)  dX8_sums_162 ?_
      refine zr_iald (pc := 163)  (by first | assumption | rfl | (repeat (first | assumption | exact zup_s | refine zup_g (by decide) ?_))) ⟨by omega, by omega⟩ (by decide) dX8_sums_163 ?_
      rw [hsn']
      refine zr_i2l (pc := 164)  ⟨by omega, by omega⟩ dX8_sums_164 ?_
      refine zr_ladd (pc := 165)  dX8_sums_165 ?_
      refine zr_last (pc := 166)  (by first | assumption | rfl | (repeat (first | assumption | exact zup_s | refine zup_g (by decide) ?_))) ⟨by omega, by omega⟩ (by decide) dX8_sums_166 ?_
      refine zr_heap hU_53 ?_
      refine zr_aload_n (pc := 167)  (i := 0) rfl rfl dX8_sums_167 ?_
      refine zr_dup (pc := 168)  rfl dX8_sums_168 ?_
      refine zr_get (pc := 169)  fl_X8_137 (by first | assumption | rfl | (repeat (first | assumption | exact zup_s | refine zup_g (by decide) ?_))) rfl dX8_sums_169 ?_
      refine zr_aload_n (pc := 172)  (i := 0) rfl rfl dX8_sums_172 ?_
      refine zr_get (pc := 173)  fl_X8_45 (by first | assumption | rfl | (repeat (first | assumption | exact zup_s | refine zup_g (by decide) ?_))) rfl dX8_sums_173 ?_
      refine zr_bipush (pc := 176)  (by decide) dX8_sums_176 ?_
      refine zr_iload_n (pc := 178)  (i := 3) rfl rfl dX8_sums_178 ?_
      refine zr_imul (pc := 179)  dX8_sums_179 ?_
      refine zr_iload (pc := 180)  rfl dX8_sums_180 ?_
      refine zr_iadd (pc := 182)  dX8_sums_182 ?_
      refine zr_iald (pc := 183)  (by first | assumption | rfl | (repeat (first | assumption | exact zup_s | refine zup_g (by decide) ?_))) ⟨by omega, by omega⟩ (by decide) dX8_sums_183 ?_
      rw [hsn']
      refine zr_i2l (pc := 184)  ⟨by omega, by omega⟩ dX8_sums_184 ?_
      refine zr_ladd (pc := 185)  dX8_sums_185 ?_
      refine zr_put (pc := 186)  (oMod _ _ _ _ _ _ _ _ _ _) (fp_X8_137 rfl) (by first | assumption | rfl | (repeat (first | assumption | exact zup_s | refine zup_g (by decide) ?_))) (Nat.le_of_ble_eq_true rfl) rfl rfl rfl dX8_sums_186 ?_
      refine zr_heap hU_38 ?_
      refine zs_iinc_4 (pc := 189)  (by first | exact zn_i | exact zn_r | exact zn_0) (by decide) dX8_sums_189 ?_
      refine zr_goto (pc := 192)  (tgt := 108) (by decide) dX8_sums_192 ?_
      refine ih (m + 1) _ _ _ (by omega) (by omega) (fun i a b => ?_) (fun i a b => ?_) (by rw [w3, h3]; omega)
      (rw [w1]; unfold uZ; split; (rename_i q; subst q; rw [h1 _ a b, if_pos rfl]; omega); (rename_i q; rw [h1 _ a b, if_neg (fun z => q z.symm)]; omega))
      (rw [w2]; unfold uZ; split; (rename_i q; subst q; rw [h2 _ a b, if_pos rfl]; omega); (rename_i q; rw [h2 _ a b, if_neg (fun z => q z.symm)]; omega))
theorem l_X8_sums3 {g w : Int} (m44 : h 44 = some (aI 16 gr)) (m50 : h 50 = some (aI 1344 sn)) (m51 : h 51 = some (aZ 16 iw)) (hl : lkS s rk gr sn iw) (hs : ∀ p, -3 ≤ s p ∧ s p ≤ 50) (i7 : ∀ i, -1 ≤ gr i ∧ gr i < 4) (hg : iR g) (hw : iR w) (kT : ∀ bw bm, smS s rk gr g w bw bm → 0 < TS s rk gr g w → Post (some (vi 1)) n (hU h (oMod th len N now (TS s rk gr g w) (CS s rk gr g w) pd sq up lw) bw bm)) (kF : ∀ bw bm, smS s rk gr g w bw bm → ¬ 0 < TS s rk gr g w → Post (some (vi 0)) n (hU h (oMod th len N now (TS s rk gr g w) (CS s rk gr g w) pd sq up lw) bw bm)) : ∀ (k m : Nat) (bw bm : Int → Int) (al pm : Int) (x4 : Option Value), 16 - m ≤ k → m ≤ 16 → (∀ i, 0 ≤ i → i < 7 → bw i = sumP (qS s rk gr g w) (fun r => wsum (dyS s r) i 84) m) → (∀ i, 0 ≤ i → i < 12 → bm i = sumP (qS s rk gr g w) (fun r => msum (dyS s r) i 84) m) → al = sumP (qS s rk gr g w) (fun r => sumZ (dyS s r) 84) m → pm = cntP (qS s rk gr g w) m → zAW G mX8_sums zTT (zF G mX8_sums Post) 54 [some (.ref 38), some (vi g), some (vi w), some (vi m), x4] [] n (hU h (oMod th len N now al pm pd sq up lw) bw bm) 0 0 := by
  have hR := S_R (rk := rk) (gr := gr) (fun p => (hs p).2) g w
  have fin : ∀ (bw bm : Int → Int) (al pm : Int) (lo : List (Option Value)), smS s rk gr g w bw bm → al = TS s rk gr g w → pm = CS s rk gr g w → zAW G mX8_sums zTT (zF G mX8_sums Post) 201 (some (.ref 38) :: lo) [] n (hU h (oMod th len N now al pm pd sq up lw) bw bm) 0 0 := fun bw bm al pm lo h1 h2 h3 => by
    subst h2
    subst h3
    refine zr_aload_n (pc := 201)  (i := 0) rfl rfl dX8_sums_201 ?_
    refine zr_get (pc := 202)  fl_X8_137 (by first | assumption | rfl | (repeat (first | assumption | exact zup_s | refine zup_g (by decide) ?_))) rfl dX8_sums_202 ?_
    refine zr_lconst (pc := 205)  (z := 0) (by decide) dX8_sums_205 ?_
    refine zr_lcmp_le (pc := 206)  (tgt := 214) ⟨by omega, by omega⟩ ⟨by omega, by omega⟩ (by decide) dX8_sums_206 dX8_sums_207 (fun q207 => ?_) (fun q207 => ?_)
    · refine zr_iconst (pc := 214)  dX8_sums_214 ?_
      refine zr_zreturn (pc := 215)  rfl (by omega) (by decide) (by decide) dX8_sums_215 ?_
      first | exact kT bw bm h1 (by omega) | exact kF bw bm h1 (by omega)
    · refine zr_iconst (pc := 210)  dX8_sums_210 ?_
      refine zr_goto (pc := 211)  (tgt := 215) (by decide) dX8_sums_211 ?_
      refine zr_zreturn (pc := 215)  rfl (by omega) (by decide) (by decide) dX8_sums_215 ?_
      first | exact kT bw bm h1 (by omega) | exact kF bw bm h1 (by omega)
  intro k
  induction k with
  | zero =>
    intro m bw bm al pm x4 hk hm h1 h2 h3 h4
    obtain rfl : m = 16 := by omega
    refine zr_iload_n (pc := 54)  (i := 3) rfl rfl dX8_sums_54 ?_
    refine zr_bipush (pc := 55)  (by decide) dX8_sums_55 ?_
    refine zr_icmp_ge (pc := 57)  (tgt := 201) ⟨by omega, by omega⟩ ⟨by omega, by omega⟩ (by decide) dX8_sums_57 (fun q57 => ?_) (fun q57 => ?_)
    · exact fin bw bm al pm _ ⟨h1, h2⟩ h3 h4
    · exact absurd q57 (by omega)
  | succ k ih =>
    intro m bw bm al pm x4 hk hm h1 h2 h3 h4
    have hcR := cntP_R (qS s rk gr g w) m
    rw [← h4] at hcR
    have i7m := i7 m
    have hzm := hl.2.2 m
    have skip : ¬ qS s rk gr g w m → m < 16 → zAW G mX8_sums zTT (zF G mX8_sums Post) 54 [some (.ref 38), some (vi g), some (vi w), some (vi ((m : Int) + 1)), x4] [] n (hU h (oMod th len N now al pm pd sq up lw) bw bm) 0 0 := fun q hm => by
      have e : ¬ (qS s rk gr g w m ∧ cntP (qS s rk gr g w) m < 4) := fun z => q z.1
      have es : ∀ F, sumP (qS s rk gr g w) F (m + 1) = sumP (qS s rk gr g w) F m := fun F => by rw [show sumP (qS s rk gr g w) F (m + 1) = sumP (qS s rk gr g w) F m + ind (qS s rk gr g w m ∧ cntP (qS s rk gr g w) m < 4) * F m from rfl, ind_f e]; omega
      have ec : cntP (qS s rk gr g w) (m + 1) = cntP (qS s rk gr g w) m := by rw [show cntP (qS s rk gr g w) (m + 1) = cntP (qS s rk gr g w) m + ind (qS s rk gr g w m ∧ cntP (qS s rk gr g w) m < 4) from rfl, ind_f e]; omega
      exact ih (m + 1) bw bm al pm x4 (by omega) (by omega) (fun i a b => by rw [es]; exact h1 i a b) (fun i a b => by rw [es]; exact h2 i a b) (by rw [es]; exact h3) (by rw [ec]; exact h4)
    have take : qS s rk gr g w m → pm < 4 → m < 16 → zAW G mX8_sums zTT (zF G mX8_sums Post) 108 [some (.ref 38), some (vi g), some (vi w), some (vi m), some (vi 0)] [] n (hU h (oMod th len N now al (pm + 1) pd sq up lw) bw bm) 0 0 := fun q hp hm => by
      have e : qS s rk gr g w m ∧ cntP (qS s rk gr g w) m < 4 := ⟨q, by rw [← h4]; exact hp⟩
      have es : ∀ F : Int → Int, sumP (qS s rk gr g w) F (m + 1) = sumP (qS s rk gr g w) F m + F m := fun F => by rw [show sumP (qS s rk gr g w) F (m + 1) = sumP (qS s rk gr g w) F m + ind (qS s rk gr g w m ∧ cntP (qS s rk gr g w) m < 4) * F m from rfl, ind_t e]; omega
      have ec : cntP (qS s rk gr g w) (m + 1) = cntP (qS s rk gr g w) m + 1 := by rw [show cntP (qS s rk gr g w) (m + 1) = cntP (qS s rk gr g w) m + ind (qS s rk gr g w m ∧ cntP (qS s rk gr g w) m < 4) from rfl, ind_t e]
      refine l_X8_sums4 m50 hl hs ⟨⟨by omega, by omega⟩, q.2.1.1.1.2⟩ (B := bw) (M := bm) (A := al) (fun bw2 bm2 k1 k2 => ?_) 84 0 bw bm al (by omega) (by omega) (fun i _ _ => (Int.add_zero _).symm) (fun i _ _ => (Int.add_zero _).symm) (Int.add_zero _).symm
      refine zs_iinc_3 (pc := 195)  (by first | exact zn_i | exact zn_r | exact zn_0) (by decide) dX8_sums_195 ?_
      refine zr_goto (pc := 198)  (tgt := 54) (by decide) dX8_sums_198 ?_
      exact ih (m + 1) bw2 bm2 _ _ _ (by omega) (by omega) (fun i a b => by rw [es, k1 i a b, h1 i a b]) (fun i a b => by rw [es, k2 i a b, h2 i a b]) (by rw [es, h3]) (by rw [ec, h4])
    refine zr_iload_n (pc := 54)  (i := 3) rfl rfl dX8_sums_54 ?_
    refine zr_bipush (pc := 55)  (by decide) dX8_sums_55 ?_
    refine zr_icmp_ge (pc := 57)  (tgt := 201) ⟨by omega, by omega⟩ ⟨by omega, by omega⟩ (by decide) dX8_sums_57 (fun q57 => ?_) (fun q57 => ?_)
    · first | (have e : m = 16 := (by omega); subst e; exact fin bw bm al pm _ ⟨h1, h2⟩ h3 h4) | (have z := cntP_stop (q := qS s rk gr g w) (k := m) (by rw [← h4]; omega) 16 hm; exact fin bw bm al pm _ ⟨fun i a b => (h1 i a b).trans (z.2 _).symm, fun i a b => (h2 i a b).trans (z.2 _).symm⟩ (h3.trans (z.2 _).symm) (h4.trans z.1.symm))
    · refine zr_aload_n (pc := 60)  (i := 0) rfl rfl dX8_sums_60 ?_
      refine zr_get (pc := 61)  fl_X8_141 (by first | assumption | rfl | (repeat (first | assumption | exact zup_s | refine zup_g (by decide) ?_))) rfl dX8_sums_61 ?_
      refine zr_iconst (pc := 64)  dX8_sums_64 ?_
      refine zr_icmp_ge (pc := 65)  (tgt := 201) ⟨by omega, by omega⟩ ⟨by omega, by omega⟩ (by decide) dX8_sums_65 (fun q65 => ?_) (fun q65 => ?_)
      · first | (have e : m = 16 := (by omega); subst e; exact fin bw bm al pm _ ⟨h1, h2⟩ h3 h4) | (have z := cntP_stop (q := qS s rk gr g w) (k := m) (by rw [← h4]; omega) 16 hm; exact fin bw bm al pm _ ⟨fun i a b => (h1 i a b).trans (z.2 _).symm, fun i a b => (h2 i a b).trans (z.2 _).symm⟩ (h3.trans (z.2 _).symm) (h4.trans z.1.symm))
      · refine zr_iload_n (pc := 68)  (i := 3) rfl rfl dX8_sums_68 ?_
        refine zr_iload_n (pc := 69)  (i := 2) rfl rfl dX8_sums_69 ?_
        refine zr_icmp_eq (pc := 70)  (tgt := 195) ⟨by omega, by omega⟩ ⟨by omega, by omega⟩ (by decide) dX8_sums_70 (fun q70 => ?_) (fun q70 => ?_)
        · refine zs_iinc_3 (pc := 195)  (by first | exact zn_i | exact zn_r | exact zn_0) (by decide) dX8_sums_195 ?_
          refine zr_goto (pc := 198)  (tgt := 54) (by decide) dX8_sums_198 ?_
          first | exact skip (fun z => by have := z.1; omega) (by omega) | exact skip (fun z => by have := (hl.2.1 m (by omega) (by omega)).mpr z.2.1; omega) (by omega) | exact skip (fun z => by have := z.2.2; omega) (by omega)
        · refine zr_aload_n (pc := 73)  (i := 0) rfl rfl dX8_sums_73 ?_
          refine zr_get (pc := 74)  fl_X8_48 (by first | assumption | rfl | (repeat (first | assumption | exact zup_s | refine zup_g (by decide) ?_))) rfl dX8_sums_74 ?_
          refine zr_iload_n (pc := 77)  (i := 3) rfl rfl dX8_sums_77 ?_
          refine zr_zald (pc := 78)  (by first | assumption | rfl | (repeat (first | assumption | exact zup_s | refine zup_g (by decide) ?_))) ⟨by omega, by omega⟩ (by decide) dX8_sums_78 ?_
          refine zr_if_eq (pc := 79)  (tgt := 195) ⟨by omega, by omega⟩ (by decide) dX8_sums_79 (fun q79 => ?_) (fun q79 => ?_)
          · refine zs_iinc_3 (pc := 195)  (by first | exact zn_i | exact zn_r | exact zn_0) (by decide) dX8_sums_195 ?_
            refine zr_goto (pc := 198)  (tgt := 54) (by decide) dX8_sums_198 ?_
            first | exact skip (fun z => by have := z.1; omega) (by omega) | exact skip (fun z => by have := (hl.2.1 m (by omega) (by omega)).mpr z.2.1; omega) (by omega) | exact skip (fun z => by have := z.2.2; omega) (by omega)
          · refine zr_aload_n (pc := 82)  (i := 0) rfl rfl dX8_sums_82 ?_
            refine zr_get (pc := 83)  fl_X8_27 (by first | assumption | rfl | (repeat (first | assumption | exact zup_s | refine zup_g (by decide) ?_))) rfl dX8_sums_83 ?_
            refine zr_iload_n (pc := 86)  (i := 3) rfl rfl dX8_sums_86 ?_
            refine zr_iald (pc := 87)  (by first | assumption | rfl | (repeat (first | assumption | exact zup_s | refine zup_g (by decide) ?_))) ⟨by omega, by omega⟩ (by decide) dX8_sums_87 ?_
            refine zr_iload_n (pc := 88)  (i := 1) rfl rfl dX8_sums_88 ?_
            refine zr_icmp_eq (pc := 89)  (tgt := 95) ⟨by omega, by omega⟩ ⟨by omega, by omega⟩ (by decide) dX8_sums_89 (fun q89 => ?_) (fun q89 => ?_)
            · refine zr_aload_n (pc := 95)  (i := 0) rfl rfl dX8_sums_95 ?_
              refine zr_dup (pc := 96)  rfl dX8_sums_96 ?_
              refine zr_get (pc := 97)  fl_X8_141 (by first | assumption | rfl | (repeat (first | assumption | exact zup_s | refine zup_g (by decide) ?_))) rfl dX8_sums_97 ?_
              refine zr_iconst (pc := 100)  dX8_sums_100 ?_
              refine zr_iadd (pc := 101)  dX8_sums_101 ?_
              refine zr_put (pc := 102)  (oMod _ _ _ _ _ _ _ _ _ _) (fp_X8_141 rfl) (by first | assumption | rfl | (repeat (first | assumption | exact zup_s | refine zup_g (by decide) ?_))) (Nat.le_of_ble_eq_true rfl) rfl rfl rfl dX8_sums_102 ?_
              refine zr_heap hU_38 ?_
              refine zr_iconst (pc := 105)  dX8_sums_105 ?_
              refine zs_istore_4 (pc := 106)  (by first | exact zn_i | exact zn_r | exact zn_0) (by decide) dX8_sums_106 ?_
              exact take ⟨by omega, (hl.2.1 m (by omega) (by omega)).mp (by omega), by omega⟩ (by omega) (by omega)
            · refine zr_goto (pc := 92)  (tgt := 195) (by decide) dX8_sums_92 ?_
              refine zs_iinc_3 (pc := 195)  (by first | exact zn_i | exact zn_r | exact zn_0) (by decide) dX8_sums_195 ?_
              refine zr_goto (pc := 198)  (tgt := 54) (by decide) dX8_sums_198 ?_
              first | exact skip (fun z => by have := z.1; omega) (by omega) | exact skip (fun z => by have := (hl.2.1 m (by omega) (by omega)).mpr z.2.1; omega) (by omega) | exact skip (fun z => by have := z.2.2; omega) (by omega)
theorem k_X8_sums {g w : Int} {bw0 bm0 : Int → Int} (m38 : h 38 = some (oMod th len N now al pm pd sq up lw)) (m44 : h 44 = some (aI 16 gr)) (m50 : h 50 = some (aI 1344 sn)) (m51 : h 51 = some (aZ 16 iw)) (m52 : h 52 = some (aJ 7 bw0)) (m53 : h 53 = some (aJ 12 bm0)) (hl : lkS s rk gr sn iw) (hs : ∀ p, -3 ≤ s p ∧ s p ≤ 50) (i7 : ∀ i, -1 ≤ gr i ∧ gr i < 4) (hg : iR g) (hw : iR w) (kT : ∀ bw bm, smS s rk gr g w bw bm → 0 < TS s rk gr g w → Post (some (vi 1)) n (hU h (oMod th len N now (TS s rk gr g w) (CS s rk gr g w) pd sq up lw) bw bm)) (kF : ∀ bw bm, smS s rk gr g w bw bm → ¬ 0 < TS s rk gr g w → Post (some (vi 0)) n (hU h (oMod th len N now (TS s rk gr g w) (CS s rk gr g w) pd sq up lw) bw bm)) : zMP G mX8_sums [.ref 38, vi g, vi w] n h Post := by
  have self : h = hU h (oMod th len N now al pm pd sq up lw) bw0 bm0 := by unfold hU; rw [zup_self m52, zup_self m53, zup_self m38]
  have l2 : ∀ (k : Nat) (m : Int) (bw bm : Int → Int) (x4 : Option Value), 12 - m ≤ k → 0 ≤ m → m ≤ 12 → (∀ i, 0 ≤ i → i < 7 → bw i = 0) → (∀ i, 0 ≤ i → i < m → bm i = 0) → zAW G mX8_sums zTT (zF G mX8_sums Post) 23 [some (.ref 38), some (vi g), some (vi w), some (vi m), x4] [] n (hU h (oMod th len N now al pm pd sq up lw) bw bm) 0 0 := by
    intro k
    induction k with
    | zero =>
      intro m bw bm x4 hk h0 hm h1 h2
      obtain rfl : m = 12 := by omega
      refine zr_iload_n (pc := 23)  (i := 3) rfl rfl dX8_sums_23 ?_
      refine zr_bipush (pc := 24)  (by decide) dX8_sums_24 ?_
      refine zr_icmp_ge (pc := 26)  (tgt := 42) ⟨by omega, by omega⟩ ⟨by omega, by omega⟩ (by decide) dX8_sums_26 (fun q26 => ?_) (fun q26 => ?_)
      · refine zr_aload_n (pc := 42)  (i := 0) rfl rfl dX8_sums_42 ?_
        refine zr_lconst (pc := 43)  (z := 0) (by decide) dX8_sums_43 ?_
        refine zr_put (pc := 44)  (oMod _ _ _ _ _ _ _ _ _ _) (fp_X8_137 rfl) (by first | assumption | rfl | (repeat (first | assumption | exact zup_s | refine zup_g (by decide) ?_))) (Nat.le_of_ble_eq_true rfl) rfl rfl rfl dX8_sums_44 ?_
        refine zr_heap hU_38 ?_
        refine zr_aload_n (pc := 47)  (i := 0) rfl rfl dX8_sums_47 ?_
        refine zr_iconst (pc := 48)  dX8_sums_48 ?_
        refine zr_put (pc := 49)  (oMod _ _ _ _ _ _ _ _ _ _) (fp_X8_141 rfl) (by first | assumption | rfl | (repeat (first | assumption | exact zup_s | refine zup_g (by decide) ?_))) (Nat.le_of_ble_eq_true rfl) rfl rfl rfl dX8_sums_49 ?_
        refine zr_heap hU_38 ?_
        refine zr_iconst (pc := 52)  dX8_sums_52 ?_
        refine zs_istore_n_3 (pc := 53)  (by first | exact zn_i | exact zn_r | exact zn_0) (by decide) dX8_sums_53 ?_
        exact l_X8_sums3 m44 m50 m51 hl hs i7 hg hw kT kF 16 0 bw bm 0 0 _ (by omega) (by omega) (fun i a b => h1 i a b) (fun i a b => h2 i a (by omega)) rfl rfl
      · exact absurd q26 (by omega)
    | succ k ih =>
      intro m bw bm x4 hk h0 hm h1 h2
      refine zr_iload_n (pc := 23)  (i := 3) rfl rfl dX8_sums_23 ?_
      refine zr_bipush (pc := 24)  (by decide) dX8_sums_24 ?_
      refine zr_icmp_ge (pc := 26)  (tgt := 42) ⟨by omega, by omega⟩ ⟨by omega, by omega⟩ (by decide) dX8_sums_26 (fun q26 => ?_) (fun q26 => ?_)
      · refine zr_aload_n (pc := 42)  (i := 0) rfl rfl dX8_sums_42 ?_
        refine zr_lconst (pc := 43)  (z := 0) (by decide) dX8_sums_43 ?_
        refine zr_put (pc := 44)  (oMod _ _ _ _ _ _ _ _ _ _) (fp_X8_137 rfl) (by first | assumption | rfl | (repeat (first | assumption | exact zup_s | refine zup_g (by decide) ?_))) (Nat.le_of_ble_eq_true rfl) rfl rfl rfl dX8_sums_44 ?_
        refine zr_heap hU_38 ?_
        refine zr_aload_n (pc := 47)  (i := 0) rfl rfl dX8_sums_47 ?_
        refine zr_iconst (pc := 48)  dX8_sums_48 ?_
        refine zr_put (pc := 49)  (oMod _ _ _ _ _ _ _ _ _ _) (fp_X8_141 rfl) (by first | assumption | rfl | (repeat (first | assumption | exact zup_s | refine zup_g (by decide) ?_))) (Nat.le_of_ble_eq_true rfl) rfl rfl rfl dX8_sums_49 ?_
        refine zr_heap hU_38 ?_
        refine zr_iconst (pc := 52)  dX8_sums_52 ?_
        refine zs_istore_n_3 (pc := 53)  (by first | exact zn_i | exact zn_r | exact zn_0) (by decide) dX8_sums_53 ?_
        exact l_X8_sums3 m44 m50 m51 hl hs i7 hg hw kT kF 16 0 bw bm 0 0 _ (by omega) (by omega) (fun i a b => h1 i a b) (fun i a b => h2 i a (by omega)) rfl rfl
      · refine zr_aload_n (pc := 29)  (i := 0) rfl rfl dX8_sums_29 ?_
        refine zr_get (pc := 30)  fl_X8_55 (by first | assumption | rfl | (repeat (first | assumption | exact zup_s | refine zup_g (by decide) ?_))) rfl dX8_sums_30 ?_
        refine zr_iload_n (pc := 33)  (i := 3) rfl rfl dX8_sums_33 ?_
        refine zr_lconst (pc := 34)  (z := 0) (by decide) dX8_sums_34 ?_
        refine zr_last (pc := 35)  (by first | assumption | rfl | (repeat (first | assumption | exact zup_s | refine zup_g (by decide) ?_))) ⟨by omega, by omega⟩ (by decide) dX8_sums_35 ?_
        refine zr_heap hU_53 ?_
        refine zs_iinc_3 (pc := 36)  (by first | exact zn_i | exact zn_r | exact zn_0) (by decide) dX8_sums_36 ?_
        refine zr_goto (pc := 39)  (tgt := 23) (by decide) dX8_sums_39 ?_
        exact ih (m + 1) bw _ x4 (by omega) (by omega) (by omega) h1 (fun i a b => by by_cases e : i = m; (rw [e, uZ_s]); (rw [uZ_n e]; exact h2 i a (by omega)))
  have l1 : ∀ (k : Nat) (m : Int) (bw : Int → Int) (x4 : Option Value), 7 - m ≤ k → 0 ≤ m → m ≤ 7 → (∀ i, 0 ≤ i → i < m → bw i = 0) → zAW G mX8_sums zTT (zF G mX8_sums Post) 2 [some (.ref 38), some (vi g), some (vi w), some (vi m), x4] [] n (hU h (oMod th len N now al pm pd sq up lw) bw bm0) 0 0 := by
    intro k
    induction k with
    | zero =>
      intro m bw x4 hk h0 hm h1
      obtain rfl : m = 7 := by omega
      refine zr_iload_n (pc := 2)  (i := 3) rfl rfl dX8_sums_2 ?_
      refine zr_bipush (pc := 3)  (by decide) dX8_sums_3 ?_
      refine zr_icmp_ge (pc := 5)  (tgt := 21) ⟨by omega, by omega⟩ ⟨by omega, by omega⟩ (by decide) dX8_sums_5 (fun q5 => ?_) (fun q5 => ?_)
      · refine zr_iconst (pc := 21)  dX8_sums_21 ?_
        refine zs_istore_n_3 (pc := 22)  (by first | exact zn_i | exact zn_r | exact zn_0) (by decide) dX8_sums_22 ?_
        exact l2 12 0 bw bm0 x4 (by omega) (by omega) (by omega) h1 (fun i a b => by omega)
      · exact absurd q5 (by omega)
    | succ k ih =>
      intro m bw x4 hk h0 hm h1
      refine zr_iload_n (pc := 2)  (i := 3) rfl rfl dX8_sums_2 ?_
      refine zr_bipush (pc := 3)  (by decide) dX8_sums_3 ?_
      refine zr_icmp_ge (pc := 5)  (tgt := 21) ⟨by omega, by omega⟩ ⟨by omega, by omega⟩ (by decide) dX8_sums_5 (fun q5 => ?_) (fun q5 => ?_)
      · refine zr_iconst (pc := 21)  dX8_sums_21 ?_
        refine zs_istore_n_3 (pc := 22)  (by first | exact zn_i | exact zn_r | exact zn_0) (by decide) dX8_sums_22 ?_
        exact l2 12 0 bw bm0 x4 (by omega) (by omega) (by omega) (fun i a b => h1 i a (by omega)) (fun i a b => by omega)
      · refine zr_aload_n (pc := 8)  (i := 0) rfl rfl dX8_sums_8 ?_
        refine zr_get (pc := 9)  fl_X8_51 (by first | assumption | rfl | (repeat (first | assumption | exact zup_s | refine zup_g (by decide) ?_))) rfl dX8_sums_9 ?_
        refine zr_iload_n (pc := 12)  (i := 3) rfl rfl dX8_sums_12 ?_
        refine zr_lconst (pc := 13)  (z := 0) (by decide) dX8_sums_13 ?_
        refine zr_last (pc := 14)  (by first | assumption | rfl | (repeat (first | assumption | exact zup_s | refine zup_g (by decide) ?_))) ⟨by omega, by omega⟩ (by decide) dX8_sums_14 ?_
        refine zr_heap hU_52 ?_
        refine zs_iinc_3 (pc := 15)  (by first | exact zn_i | exact zn_r | exact zn_0) (by decide) dX8_sums_15 ?_
        refine zr_goto (pc := 18)  (tgt := 2) (by decide) dX8_sums_18 ?_
        exact ih (m + 1) _ x4 (by omega) (by omega) (by omega) (fun i a b => by by_cases e : i = m; (rw [e, uZ_s]); (rw [uZ_n e]; exact h1 i a (by omega)))
  refine zMP_of (by decide) [some _, some _, some _, none, none] (Nat.le_of_ble_eq_true rfl) rfl ?_
  refine zr_iconst (pc := 0)  dX8_sums_0 ?_
  refine zs_istore_n_3 (pc := 1)  (by first | exact zn_i | exact zn_r | exact zn_0) (by decide) dX8_sums_1 ?_
  refine zr_heap self ?_
  exact l1 7 0 bw0 _ (by omega) (by omega) (by omega) (fun i a b => by omega)
end MOD
