/-! the reference's fits of all groups -/
theorem pq_of {s rk gr f bw bm : Int → Int} {lim w g : Int} (hs : ∀ p, s p ≤ 50) (hb : smS s rk gr g w bw bm) (hT : 0 < TS s rk gr g w) : sumD f lim (fun d => bw (d % 7) * bm (d / 7) * f d) 84 = PS s rk gr f lim w g ∧ sumD f lim (fun d => bw (d % 7) * bm (d / 7) * (bw (d % 7) * bm (d / 7))) 84 = QS s rk gr f lim w g := by
  have hth := (th_iff hs).mp hT
  have hv : ∀ d : Int, 0 ≤ d → d < (84 : Nat) → bw (d % 7) * bm (d / 7) = vS s rk gr g w d := fun d a b => by
    unfold vS
    rw [hb.1 _ (by omega) (by omega), hb.2 _ (by omega) (by omega)]
  unfold PS QS
  rw [ind_t hth, Int.one_mul, Int.one_mul]
  exact ⟨sumD_congr 84 (fun d a b => by rw [hv d a b]), sumD_congr 84 (fun d a b => by rw [hv d a b])⟩
theorem Q_no {s rk gr f : Int → Int} {lim w g : Int} (hs : ∀ p, s p ≤ 50) (hT : ¬ 0 < TS s rk gr g w) : QS s rk gr f lim w g = 0 := by
  unfold QS
  rw [ind_f (fun z => hT ((th_iff hs).mpr z)), Int.zero_mul]
theorem sm_R {s rk gr bw bm : Int → Int} {w g : Int} (hs : ∀ p, s p ≤ 50) (hb : smS s rk gr g w bw bm) : (∀ i, 0 ≤ i → i < 7 → 0 ≤ bw i ∧ bw i ≤ 2400) ∧ ∀ i, 0 ≤ i → i < 12 → 0 ≤ bm i ∧ bm i ≤ 1400 := by
  have hR := S_R (rk := rk) (gr := gr) hs g w
  exact ⟨fun i a b => by rw [hb.1 i a b]; exact hR.1 i a b, fun i a b => by rw [hb.2 i a b]; exact hR.2.1 i a b⟩
theorem PQ_R {s rk gr f : Int → Int} {lim w g : Int} (hs : ∀ p, s p ≤ 50) (hl : 0 ≤ lim ∧ lim ≤ 14) (hf : ∀ d, f d ≤ 50) : (0 ≤ PS s rk gr f lim w g ∧ PS s rk gr f lim w g ≤ 2352000000) ∧ (0 ≤ QS s rk gr f lim w g ∧ QS s rk gr f lim w g ≤ 158054400000000) := by
  have hR := S_R (rk := rk) (gr := gr) hs g w
  have hv : ∀ d : Int, 0 ≤ d → d < 84 → 0 ≤ vS s rk gr g w d ∧ vS s rk gr g w d ≤ 3360000 := fun d a b => by
    unfold vS; exact mulB (hR.1 _ (by omega) (by omega)) (hR.2.1 _ (by omega) (by omega))
  have hc := cnD_R f hl.1 84
  have h1 := sumD_bd (f := f) (lim := lim) (F := fun d => vS s rk gr g w d * f d) (B := 168000000) (by omega) hl.1 84 (fun j a b c => mulB (hv j a (by omega)) ⟨c, hf j⟩)
  have h2 := sumD_bd (f := f) (lim := lim) (F := fun d => vS s rk gr g w d * vS s rk gr g w d) (B := 11289600000000) (by omega) hl.1 84 (fun j a b c => mulB (hv j a (by omega)) (hv j a (by omega)))
  unfold PS QS
  rcases ind_R (thS s rk gr g w) with e | e
  · rw [e]; omega
  · rw [e]; omega
theorem od_end {pr sq od : Int → Int} {m n : Int} (h : odJ pr sq m n od) (hm : m ≤ 4) (hq : ∀ g, ¬ 0 < sq g) : odJ pr sq 4 n od := by
  obtain ⟨hn, hj1, hj2, hj3⟩ := h
  exact ⟨by omega, fun i a b => ⟨by have := hj1 i a b; omega, (hj1 i a b).2⟩, hj2, fun o _ _ ho => absurd ho (hq o)⟩
def frF (h h' : zH) : Prop := ∀ j, (j < 38 ∨ (38 < j ∧ j < 52) ∨ 56 < j) → h' j = h j
section MOD
variable {G : zG} {n : Nat} {h : zH} {Post : Option Value → Nat → zH → Prop} {th len now al pm pd sq up lw : Int} {tb rk rs rg gr bt bc ek ap pl : Int → Int} {N : Nat}
variable {s sn iw : Int → Int}
theorem l_X8_fitAll {hb0 : zH} {r : Int} (m44 : hb0 44 = some (aI 16 gr)) (m50 : hb0 50 = some (aI 1344 sn)) (m51 : hb0 51 = some (aZ 16 iw)) (hl : lkS s rk gr sn iw) (hs : ∀ p, -3 ≤ s p ∧ s p ≤ 50) (i7 : ∀ i, -1 ≤ gr i ∧ gr i < 4) (hr : (0 ≤ r ∧ r < 16) ∧ rk r = 1) (kk : ∀ (h' : zH) (od fp fq bw bm : Int → Int) (al pm pd sq nn : Int), frF hb0 h' → h' 38 = some (oMod th len N now al pm pd sq up lw) → mW h' bw bm → mF h' od fp fq → odJ (PS s rk gr (dyS s r) (lmS s rk gr r) (-1)) (QS s rk gr (dyS s r) (lmS s rk gr r) (-1)) 4 nn od → (∀ g, 0 ≤ g → g < 4 → 0 < QS s rk gr (dyS s r) (lmS s rk gr r) (-1) g → fp g = PS s rk gr (dyS s r) (lmS s rk gr r) (-1) g ∧ fq g = QS s rk gr (dyS s r) (lmS s rk gr r) (-1) g) → Post (some (vi nn)) n h') : ∀ (k : Nat) (m nn : Int) (h1 : zH) (od fp fq bw bm : Int → Int) (al pm pd sq : Int) (x5 : Option Value), 4 - m ≤ k → 0 ≤ m → m ≤ 4 → frF hb0 h1 → h1 38 = some (oMod th len N now al pm pd sq up lw) → mW h1 bw bm → mF h1 od fp fq → odJ (PS s rk gr (dyS s r) (lmS s rk gr r) (-1)) (QS s rk gr (dyS s r) (lmS s rk gr r) (-1)) m nn od → (∀ g, 0 ≤ g → g < m → 0 < QS s rk gr (dyS s r) (lmS s rk gr r) (-1) g → fp g = PS s rk gr (dyS s r) (lmS s rk gr r) (-1) g ∧ fq g = QS s rk gr (dyS s r) (lmS s rk gr r) (-1) g) → zAW G mX8_fitAll zTT (zF G mX8_fitAll Post) 11 [some (.ref 38), some (vi r), some (vi (cnD (dyS s r) (lmS s rk gr r) 84)), some (vi nn), some (vi m), x5] [] n h1 0 0 := by
  have hs50 : ∀ p, s p ≤ 50 := fun p => (hs p).2
  have hcR := cnD_R (dyS s r) (lmS_R (s := s) (rk := rk) (gr := gr) (r := r)).1 84
  have hlm := lmS_R (s := s) (rk := rk) (gr := gr) (r := r)
  have same := (cnD_same (f := dyS s r) hlm.1 (K := 84) 84 (by omega)).2
  have hPQ : ∀ g, (0 ≤ PS s rk gr (dyS s r) (lmS s rk gr r) (-1) g ∧ PS s rk gr (dyS s r) (lmS s rk gr r) (-1) g ≤ 2352000000) ∧ (0 ≤ QS s rk gr (dyS s r) (lmS s rk gr r) (-1) g ∧ QS s rk gr (dyS s r) (lmS s rk gr r) (-1) g ≤ 158054400000000) := fun g => PQ_R hs50 hlm (fun d => hs50 _)
  have q00 : cnD (dyS s r) (lmS s rk gr r) 84 ≤ 0 → ∀ g, ¬ 0 < QS s rk gr (dyS s r) (lmS s rk gr r) (-1) g := fun z g => by
    unfold QS
    rw [sumD_0 hlm.1 84 (by omega), Int.mul_zero]
    omega
  generalize cnD (dyS s r) (lmS s rk gr r) 84 = cc at *
  generalize hPe : PS s rk gr (dyS s r) (lmS s rk gr r) (-1) = P at *
  generalize hQe : QS s rk gr (dyS s r) (lmS s rk gr r) (-1) = Q at *
  intro k
  induction k with
  | zero =>
    intro m nn h1 od fp fq bw bm al pm pd sq x5 hk h0 hm hF m38 hW hFF hJ hfp
    obtain rfl : m = 4 := by omega
    refine zr_iload (pc := 11)  rfl dX8_fitAll_11 ?_
    refine zr_iconst (pc := 13)  dX8_fitAll_13 ?_
    refine zr_icmp_ge (pc := 14)  (tgt := 175) ⟨by omega, by omega⟩ ⟨by omega, by omega⟩ (by decide) dX8_fitAll_14 (fun q14 => ?_) (fun q14 => ?_)
    · refine zr_iload_n (pc := 175)  (i := 3) rfl rfl dX8_fitAll_175 ?_
      refine zr_ireturn (pc := 176)  rfl (by decide) (by decide) dX8_fitAll_176 ?_
      exact kk h1 od fp fq bw bm al pm pd sq nn hF m38 hW hFF hJ hfp
    · exact absurd q14 (by omega)
  | succ k ih =>
    intro m nn h1 od fp fq bw bm al pm pd sq x5 hk h0 hm hF m38 hW hFF hJ hfp
    have hW' := hW
    have hFF' := hFF
    obtain ⟨m52, m53⟩ := hW
    obtain ⟨m54, m55, m56⟩ := hFF
    have n44 := (hF 44 (by omega)).trans m44
    have n50 := (hF 50 (by omega)).trans m50
    have n51 := (hF 51 (by omega)).trans m51
    have hsk : ∀ bw2 bm2 : Int → Int, ∀ a1 a2 a3 a4 : Int, ∀ h2 : zH, frF hb0 h2 → h2 38 = some (oMod th len N now a1 a2 a3 a4 up lw) → mW h2 bw2 bm2 → mF h2 od fp fq → m < 4 → ¬ 0 < Q m → zAW G mX8_fitAll zTT (zF G mX8_fitAll Post) 11 [some (.ref 38), some (vi r), some (vi cc), some (vi nn), some (vi (m + 1)), x5] [] n h2 0 0 := fun bw2 bm2 a1 a2 a3 a4 h2 f1 f2 f3 f4 f5 f6 => ih (m + 1) nn h2 od fp fq bw2 bm2 a1 a2 a3 a4 x5 (by omega) (by omega) (by omega) f1 f2 f3 f4 (od_skip hJ f6) (fun g g0 g1 g2 => by
      by_cases e : g = m
      · rw [e] at g2; exact absurd g2 f6
      · exact hfp g g0 (by omega) g2)
    have ins : ∀ bw2 bm2 : Int → Int, ∀ a1 a2 : Int, ∀ h2 : zH, frF hb0 h2 → h2 38 = some (oMod th len N now a1 a2 (P m) (Q m) up lw) → mW h2 bw2 bm2 → mF h2 od (uZ fp m (P m)) (uZ fq m (Q m)) → m < 4 → 0 < Q m → zAW G mX8_fitAll zTT (zF G mX8_fitAll Post) 68 [some (.ref 38), some (vi r), some (vi cc), some (vi nn), some (vi m), some (vi nn)] [] n h2 0 0 := fun bw2 bm2 a1 a2 h2 f1 f2 f3 f4 f5 f6 => by
      obtain ⟨x54, x55, x56⟩ := f4
      have hJ' := hJ
      obtain ⟨j0, j1, j2, j3⟩ := hJ
      have hpi : ∀ i, 0 ≤ i → i < nn → uZ fp m (P m) (od i) = P (od i) ∧ uZ fq m (Q m) (od i) = Q (od i) := fun i i0 i1 => by
        have z := j1 i i0 i1
        rw [uZ_n (by omega), uZ_n (by omega)]
        exact hfp (od i) z.1.1 z.1.2 z.2
      refine zr_heap (zup_self x54).symm ?_
      rw [show nn = ((nn.toNat : Nat) : Int) by omega]
      refine l_X8_shift (hx := h2) (od0 := od) f2 x55 x56 (by omega) (fun i a b => by have z := j1 i a (by omega); omega) (fun i a b => by
        have z := j1 i a (by omega)
        have e := hpi i a (by omega)
        have b1 := hPQ (od i)
        rw [e.1, e.2]
        omega) (hPQ m).1 ⟨f6, (hPQ m).2.2⟩ (fun a od2 a0 an c1 c2 c3 c4 => ?_) nn.toNat od (by omega) (fun i _ _ => rfl) (fun i a b => by omega) (fun i a b => by omega)
      refine zr_aload_n (pc := 157)  (i := 0) rfl rfl dX8_fitAll_157 ?_
      refine zr_get (pc := 158)  fl_X8_58 (by first | assumption | rfl | (repeat (first | assumption | exact zup_s | refine zup_g (by decide) ?_))) rfl dX8_fitAll_158 ?_
      refine zr_iload (pc := 161)  rfl dX8_fitAll_161 ?_
      refine zr_iload (pc := 163)  rfl dX8_fitAll_163 ?_
      refine zr_iast (pc := 165)  (by first | assumption | rfl | (repeat (first | assumption | exact zup_s | refine zup_g (by decide) ?_))) ⟨by omega, by omega⟩ (by decide) dX8_fitAll_165 ?_
      rw [zup_zup]
      refine zs_iinc_3 (pc := 166)  (by first | exact zn_i | exact zn_r | exact zn_0) (by decide) dX8_fitAll_166 ?_
      refine zs_iinc_4 (pc := 169)  (by first | exact zn_i | exact zn_r | exact zn_0) (by decide) dX8_fitAll_169 ?_
      refine zr_goto (pc := 172)  (tgt := 11) (by decide) dX8_fitAll_172 ?_
      refine ih (m + 1) (((nn.toNat : Nat) : Int) + 1) _ (uZ od2 a m) (uZ fp m (P m)) (uZ fq m (Q m)) bw2 bm2 a1 a2 (P m) (Q m) _ (by omega) (by omega) (by omega) (fun j hj => ?_) ?_ ?_ ⟨zup_s, ?_, ?_⟩ ?_ ?_
      (rw [zup_n (by omega)]; exact f1 j hj)
      exact f2
      exact f3
      exact x55
      exact x56
      (rw [show ((nn.toNat : Nat) : Int) = nn by omega] at *; refine od_ins hJ' h0 f6 ⟨a0, an⟩ (fun i i0 i1 => by rw [uZ_n (by omega)]; exact c1 i i0 i1) (fun i i0 i1 => by rw [uZ_n (by omega)]; exact c2 i i0 i1) uZ_s (fun i i0 i1 => ?_) ?_)
      (have z := c3 i i0 i1; have e := hpi i (by omega) i1; rw [e.1, e.2] at z; exact z)
      (rcases c4 with z | z; exact Or.inl z; (by_cases w : a = 0; exact Or.inl w; (have e := hpi (a - 1) (by omega) (by omega); rw [e.1, e.2] at z; exact Or.inr z)))
      (intro g g0 g1 g2; by_cases e : g = m; (rw [e, uZ_s, uZ_s]; exact ⟨rfl, rfl⟩); (rw [uZ_n e, uZ_n e]; exact hfp g g0 (by omega) g2))
    refine zr_iload (pc := 11)  rfl dX8_fitAll_11 ?_
    refine zr_iconst (pc := 13)  dX8_fitAll_13 ?_
    refine zr_icmp_ge (pc := 14)  (tgt := 175) ⟨by omega, by omega⟩ ⟨by omega, by omega⟩ (by decide) dX8_fitAll_14 (fun q14 => ?_) (fun q14 => ?_)
    · refine zr_iload_n (pc := 175)  (i := 3) rfl rfl dX8_fitAll_175 ?_
      refine zr_ireturn (pc := 176)  rfl (by decide) (by decide) dX8_fitAll_176 ?_
      first | (have e : m = 4 := (by omega); subst e; exact kk h1 od fp fq bw bm al pm pd sq nn hF m38 hW' hFF' hJ hfp) | exact kk h1 od fp fq bw bm al pm pd sq nn hF m38 hW' hFF' (od_end hJ hm (q00 (by omega))) (fun g _ _ g2 => absurd g2 (q00 (by omega) g))
    · refine zr_iload_n (pc := 17)  (i := 2) rfl rfl dX8_fitAll_17 ?_
      refine zr_if_le (pc := 18)  (tgt := 175) ⟨by omega, by omega⟩ (by decide) dX8_fitAll_18 (fun q18 => ?_) (fun q18 => ?_)
      · refine zr_iload_n (pc := 175)  (i := 3) rfl rfl dX8_fitAll_175 ?_
        refine zr_ireturn (pc := 176)  rfl (by decide) (by decide) dX8_fitAll_176 ?_
        first | (have e : m = 4 := (by omega); subst e; exact kk h1 od fp fq bw bm al pm pd sq nn hF m38 hW' hFF' hJ hfp) | exact kk h1 od fp fq bw bm al pm pd sq nn hF m38 hW' hFF' (od_end hJ hm (q00 (by omega))) (fun g _ _ g2 => absurd g2 (q00 (by omega) g))
      · refine zr_aload_n (pc := 21)  (i := 0) rfl rfl dX8_fitAll_21 ?_
        refine zr_iload (pc := 22)  rfl dX8_fitAll_22 ?_
        refine zr_iconst (pc := 24)  dX8_fitAll_24 ?_
        refine zv_call2 (pc := 25)  cv_X8_fitAll_147 (by first | assumption | rfl | (repeat (first | assumption | exact zup_s | refine zup_g (by decide) ?_))) ⟨_, rfl, rfl⟩ (Nat.le_of_ble_eq_true rfl) (by decide) dX8_fitAll_25 ?_
        refine k_X8_sums (by first | assumption | omega | (refine ⟨?_, ?_⟩ <;> omega) | rfl | (repeat (first | assumption | exact zup_s | refine zup_g (by decide) ?_))) (by first | assumption | omega | (refine ⟨?_, ?_⟩ <;> omega) | rfl | (repeat (first | assumption | exact zup_s | refine zup_g (by decide) ?_))) (by first | assumption | omega | (refine ⟨?_, ?_⟩ <;> omega) | rfl | (repeat (first | assumption | exact zup_s | refine zup_g (by decide) ?_))) (by first | assumption | omega | (refine ⟨?_, ?_⟩ <;> omega) | rfl | (repeat (first | assumption | exact zup_s | refine zup_g (by decide) ?_))) (by first | assumption | omega | (refine ⟨?_, ?_⟩ <;> omega) | rfl | (repeat (first | assumption | exact zup_s | refine zup_g (by decide) ?_))) (by first | assumption | omega | (refine ⟨?_, ?_⟩ <;> omega) | rfl | (repeat (first | assumption | exact zup_s | refine zup_g (by decide) ?_))) (by first | assumption | omega | (refine ⟨?_, ?_⟩ <;> omega) | rfl | (repeat (first | assumption | exact zup_s | refine zup_g (by decide) ?_))) (by first | assumption | omega | (refine ⟨?_, ?_⟩ <;> omega) | rfl | (repeat (first | assumption | exact zup_s | refine zup_g (by decide) ?_))) (by first | assumption | omega | (refine ⟨?_, ?_⟩ <;> omega) | rfl | (repeat (first | assumption | exact zup_s | refine zup_g (by decide) ?_))) (by first | assumption | omega | (refine ⟨?_, ?_⟩ <;> omega) | rfl | (repeat (first | assumption | exact zup_s | refine zup_g (by decide) ?_))) (by first | assumption | omega | (refine ⟨?_, ?_⟩ <;> omega) | rfl | (repeat (first | assumption | exact zup_s | refine zup_g (by decide) ?_))) (fun c25 c25_1 c25_2 c25_3 => ?_) (fun c25 c25_1 c25_2 c25_3 => ?_)
        · dsimp only [Option.toList, List.cons_append, List.nil_append]
          refine zk_eq1 (pc := 28) (tgt := 169) dX8_fitAll_28 (by decide) ?_
          have hsR := sm_R hs50 c25_2
          have hbw := hsR.1
          have hbm := hsR.2
          refine zr_aload_n (pc := 31)  (i := 0) rfl rfl dX8_fitAll_31 ?_
          refine zr_iload_n (pc := 32)  (i := 1) rfl rfl dX8_fitAll_32 ?_
          refine zr_iload_n (pc := 33)  (i := 2) rfl rfl dX8_fitAll_33 ?_
          refine zv_call2 (pc := 34)  cv_X8_fitAll_168 (by first | assumption | rfl | (repeat (first | assumption | exact zup_s | refine zup_g (by decide) ?_))) ⟨_, rfl, rfl⟩ (Nat.le_of_ble_eq_true rfl) (by decide) dX8_fitAll_34 ?_
          refine k_X8_fits (by first | assumption | omega | (refine ⟨?_, ?_⟩ <;> omega) | rfl | (repeat (first | assumption | exact zup_s | refine zup_g (by decide) ?_))) (by first | assumption | omega | (refine ⟨?_, ?_⟩ <;> omega) | rfl | (repeat (first | assumption | exact zup_s | refine zup_g (by decide) ?_))) (by first | assumption | omega | (refine ⟨?_, ?_⟩ <;> omega) | rfl | (repeat (first | assumption | exact zup_s | refine zup_g (by decide) ?_))) (by first | assumption | omega | (refine ⟨?_, ?_⟩ <;> omega) | rfl | (repeat (first | assumption | exact zup_s | refine zup_g (by decide) ?_))) (by first | assumption | omega | (refine ⟨?_, ?_⟩ <;> omega) | rfl | (repeat (first | assumption | exact zup_s | refine zup_g (by decide) ?_))) (by first | assumption | omega | (refine ⟨?_, ?_⟩ <;> omega) | rfl | (repeat (first | assumption | exact zup_s | refine zup_g (by decide) ?_))) (by first | assumption | omega | (refine ⟨?_, ?_⟩ <;> omega) | rfl | (repeat (first | assumption | exact zup_s | refine zup_g (by decide) ?_))) (by first | assumption | omega | (refine ⟨?_, ?_⟩ <;> omega) | rfl | (repeat (first | assumption | exact zup_s | refine zup_g (by decide) ?_))) (by first | assumption | omega | (refine ⟨?_, ?_⟩ <;> omega) | rfl | (repeat (first | assumption | exact zup_s | refine zup_g (by decide) ?_))) (by first | assumption | omega | (refine ⟨?_, ?_⟩ <;> omega) | rfl | (repeat (first | assumption | exact zup_s | refine zup_g (by decide) ?_))) (fun c34 => ?_) (fun c34 => ?_)
          · dsimp only [Option.toList, List.cons_append, List.nil_append]
            refine zk_ne1 (pc := 37) (tgt := 43) (by decide) dX8_fitAll_37 ?_
            rw [show sumD (dyS s r) cc (fun d => c25 (d % 7) * c25_1 (d / 7) * dyS s r d) 84 = P m by rw [same, (pq_of (f := dyS s r) (lim := lmS s rk gr r) hs50 c25_2 c25_3).1, hPe], show sumD (dyS s r) cc (fun d => c25 (d % 7) * c25_1 (d / 7) * (c25 (d % 7) * c25_1 (d / 7))) 84 = Q m by rw [same, (pq_of (f := dyS s r) (lim := lmS s rk gr r) hs50 c25_2 c25_3).2, hQe]]
            have c35 : 0 < Q m := by rw [← hQe, ← (pq_of (f := dyS s r) (lim := lmS s rk gr r) hs50 c25_2 c25_3).2, ← same]; exact c34
            clear c34
            refine zr_aload_n (pc := 43)  (i := 0) rfl rfl dX8_fitAll_43 ?_
            refine zr_get (pc := 44)  fl_X8_61 (by first | assumption | rfl | (repeat (first | assumption | exact zup_s | refine zup_g (by decide) ?_))) rfl dX8_fitAll_44 ?_
            refine zr_iload (pc := 47)  rfl dX8_fitAll_47 ?_
            refine zr_aload_n (pc := 49)  (i := 0) rfl rfl dX8_fitAll_49 ?_
            refine zr_get (pc := 50)  fl_X8_162 (by first | assumption | rfl | (repeat (first | assumption | exact zup_s | refine zup_g (by decide) ?_))) rfl dX8_fitAll_50 ?_
            refine zr_last (pc := 53)  (by first | assumption | rfl | (repeat (first | assumption | exact zup_s | refine zup_g (by decide) ?_))) ⟨by omega, by omega⟩ (by decide) dX8_fitAll_53 ?_
            refine zr_aload_n (pc := 54)  (i := 0) rfl rfl dX8_fitAll_54 ?_
            refine zr_get (pc := 55)  fl_X8_64 (by first | assumption | rfl | (repeat (first | assumption | exact zup_s | refine zup_g (by decide) ?_))) rfl dX8_fitAll_55 ?_
            refine zr_iload (pc := 58)  rfl dX8_fitAll_58 ?_
            refine zr_aload_n (pc := 60)  (i := 0) rfl rfl dX8_fitAll_60 ?_
            refine zr_get (pc := 61)  fl_X8_165 (by first | assumption | rfl | (repeat (first | assumption | exact zup_s | refine zup_g (by decide) ?_))) rfl dX8_fitAll_61 ?_
            refine zr_last (pc := 64)  (by first | assumption | rfl | (repeat (first | assumption | exact zup_s | refine zup_g (by decide) ?_))) ⟨by omega, by omega⟩ (by decide) dX8_fitAll_64 ?_
            refine zr_iload_n (pc := 65)  (i := 3) rfl rfl dX8_fitAll_65 ?_
            refine zs_istore_5 (pc := 66)  (by first | exact zn_i | exact zn_r | exact zn_0) (by decide) dX8_fitAll_66 ?_
            exact ins c25 c25_1 _ _ _ (fun j hj => by rw [zup_n (by omega), zup_n (by omega), zup_n (by omega), hU_fr (by omega)]; exact hF j hj) rfl ⟨rfl, rfl⟩ ⟨m54, rfl, rfl⟩ (by omega) c35
          · dsimp only [Option.toList, List.cons_append, List.nil_append]
            refine zk_ne0 (pc := 37) (tgt := 43) dX8_fitAll_37 (by decide) ?_
            refine zr_goto (pc := 40)  (tgt := 169) (by decide) dX8_fitAll_40 ?_
            refine zs_iinc_4 (pc := 169)  (by first | exact zn_i | exact zn_r | exact zn_0) (by decide) dX8_fitAll_169 ?_
            refine zr_goto (pc := 172)  (tgt := 11) (by decide) dX8_fitAll_172 ?_
            first | exact hsk c25 c25_1 _ _ _ _ _ (fun j hj => by rw [hU_fr (by omega)]; exact hF j hj) rfl ⟨rfl, rfl⟩ ⟨m54, m55, m56⟩ (by omega) (by rw [← hQe, Q_no hs50 c25_3]; omega) | exact hsk c25 c25_1 _ _ _ _ _ (fun j hj => by rw [zup_n (by omega), hU_fr (by omega)]; exact hF j hj) rfl ⟨rfl, rfl⟩ ⟨m54, m55, m56⟩ (by omega) (by rw [← hQe, ← (pq_of hs50 c25_2 c25_3).2, ← same]; exact c34)
        · dsimp only [Option.toList, List.cons_append, List.nil_append]
          refine zk_eq0 (pc := 28) (tgt := 169) (by decide) dX8_fitAll_28 ?_
          refine zs_iinc_4 (pc := 169)  (by first | exact zn_i | exact zn_r | exact zn_0) (by decide) dX8_fitAll_169 ?_
          refine zr_goto (pc := 172)  (tgt := 11) (by decide) dX8_fitAll_172 ?_
          first | exact hsk c25 c25_1 _ _ _ _ _ (fun j hj => by rw [hU_fr (by omega)]; exact hF j hj) rfl ⟨rfl, rfl⟩ ⟨m54, m55, m56⟩ (by omega) (by rw [← hQe, Q_no hs50 c25_3]; omega) | exact hsk c25 c25_1 _ _ _ _ _ (fun j hj => by rw [zup_n (by omega), hU_fr (by omega)]; exact hF j hj) rfl ⟨rfl, rfl⟩ ⟨m54, m55, m56⟩ (by omega) (by rw [← hQe, ← (pq_of hs50 c25_2 c25_3).2, ← same]; exact c34)
theorem k_X8_fitAll {r : Int} {od0 fp0 fq0 bw0 bm0 : Int → Int} (m38 : h 38 = some (oMod th len N now al pm pd sq up lw)) (m44 : h 44 = some (aI 16 gr)) (m50 : h 50 = some (aI 1344 sn)) (m51 : h 51 = some (aZ 16 iw)) (hW : mW h bw0 bm0) (hF : mF h od0 fp0 fq0) (hl : lkS s rk gr sn iw) (hs : ∀ p, -3 ≤ s p ∧ s p ≤ 50) (i7 : ∀ i, -1 ≤ gr i ∧ gr i < 4) (hr : (0 ≤ r ∧ r < 16) ∧ rk r = 1) (k : ∀ (h' : zH) (od fp fq bw bm : Int → Int) (al pm pd sq nn : Int), frF h h' → h' 38 = some (oMod th len N now al pm pd sq up lw) → mW h' bw bm → mF h' od fp fq → odJ (PS s rk gr (dyS s r) (lmS s rk gr r) (-1)) (QS s rk gr (dyS s r) (lmS s rk gr r) (-1)) 4 nn od → (∀ g, 0 ≤ g → g < 4 → 0 < QS s rk gr (dyS s r) (lmS s rk gr r) (-1) g → fp g = PS s rk gr (dyS s r) (lmS s rk gr r) (-1) g ∧ fq g = QS s rk gr (dyS s r) (lmS s rk gr r) (-1) g) → Post (some (vi nn)) n h') : zMP G mX8_fitAll [.ref 38, vi r] n h Post := by
  refine zMP_of (by decide) [some _, some _, none, none, none, none] (Nat.le_of_ble_eq_true rfl) rfl ?_
  refine zr_aload_n (pc := 0)  (i := 0) rfl rfl dX8_fitAll_0 ?_
  refine zr_iload_n (pc := 1)  (i := 1) rfl rfl dX8_fitAll_1 ?_
  refine zv_call1 (pc := 2)  cv_X8_fitAll_159 (by first | assumption | rfl | (repeat (first | assumption | exact zup_s | refine zup_g (by decide) ?_))) ⟨_, rfl, rfl⟩ (Nat.le_of_ble_eq_true rfl) (by decide) dX8_fitAll_2 ?_
  refine k_X8_sampleOf m38 m50 m51 hl hs hr ?_
  dsimp only [Option.toList, List.cons_append, List.nil_append]
  refine zs_istore_n_2 (pc := 5)  (by first | exact zn_i | exact zn_r | exact zn_0) (by decide) dX8_fitAll_5 ?_
  refine zr_iconst (pc := 6)  dX8_fitAll_6 ?_
  refine zs_istore_n_3 (pc := 7)  (by first | exact zn_i | exact zn_r | exact zn_0) (by decide) dX8_fitAll_7 ?_
  refine zr_iconst (pc := 8)  dX8_fitAll_8 ?_
  refine zs_istore_4 (pc := 9)  (by first | exact zn_i | exact zn_r | exact zn_0) (by decide) dX8_fitAll_9 ?_
  exact l_X8_fitAll m44 m50 m51 hl hs i7 hr k 4 0 0 h od0 fp0 fq0 bw0 bm0 al pm pd sq _ (by omega) (by omega) (by omega) (fun _ _ => rfl) m38 hW hF ⟨by omega, fun i a b => by omega, fun i j a b c => by omega, fun o a b => by omega⟩ (fun g a b => by omega)
end MOD
