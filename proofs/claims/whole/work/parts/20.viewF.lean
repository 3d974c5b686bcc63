section ZK2
variable {G : zG} {M : zM} {XF : Array Value → State → Code → Prop} {QF : List Frame → Array Value → State → State → Prop} {pc : Nat} {lo : List (Option Value)} {st : List Value} {n : Nat} {h : zH} {c sl : Nat}
theorem zk_eq1 {off : Int} (hd : decode M.2.1 pc = .ok (.ifCond .eq off, 3)) {tgt : Nat} (ht : (pc : Int) + off = (tgt : Int)) (k : zAW G M XF QF (pc + 3) lo st n h c sl) : zAW G M XF QF pc lo (vi 1 :: st) n h c sl := zr_if_eq ⟨by decide, by decide⟩ ht hd (fun q => absurd q (by decide)) (fun _ => k)
theorem zk_ne0 {off : Int} (hd : decode M.2.1 pc = .ok (.ifCond .ne off, 3)) {tgt : Nat} (ht : (pc : Int) + off = (tgt : Int)) (k : zAW G M XF QF (pc + 3) lo st n h c sl) : zAW G M XF QF pc lo (vi 0 :: st) n h c sl := zr_if_ne ⟨by decide, by decide⟩ ht hd (fun q => absurd rfl q) (fun _ => k)
end ZK2
theorem sumC {f : Int → Int} {p : Int → Prop} [DecidablePred p] : ∀ k : Nat, (∀ d : Int, 0 ≤ d → d < k → 0 ≤ f d ∧ f d ≤ 50) → 0 ≤ sumZ (fun d => if p d then f d else 0) k ∧ sumZ (fun d => if p d then f d else 0) k ≤ 50 * sumZ (fun d => if p d then 1 else 0) k
  | 0, _ => by simp [sumZ]
  | k + 1, h => by
    have h1 := sumC (f := f) (p := p) k (fun d a b => h d a (by omega))
    have h2 := h k (by omega) (by omega)
    show 0 ≤ sumZ (fun d => if p d then f d else 0) k + (if p k then f k else 0) ∧ sumZ (fun d => if p d then f d else 0) k + (if p k then f k else 0) ≤ 50 * (sumZ (fun d => if p d then 1 else 0) k + (if p k then 1 else 0))
    split <;> omega
theorem wsum1 : ∀ i : Fin 7, sumZ (fun d => if d % 7 = ((i : Nat) : Int) then 1 else 0) 84 = 12 := by decide +kernel
theorem msum1 : ∀ i : Fin 12, sumZ (fun d => if d / 7 = ((i : Nat) : Int) then 1 else 0) 84 = 7 := by decide +kernel
theorem wsum_R {f : Int → Int} (h : ∀ d : Int, 0 ≤ d → d < 84 → 0 ≤ f d ∧ f d ≤ 50) {i : Int} (hi : 0 ≤ i ∧ i < 7) : 0 ≤ wsum f i 84 ∧ wsum f i 84 ≤ 600 := by
  have h1 := sumC (f := f) (p := fun d => d % 7 = i) 84 (fun d a b => h d a (by omega))
  have h2 := wsum1 ⟨i.toNat, by omega⟩
  have e : ((i.toNat : Nat) : Int) = i := by omega
  rw [e] at h2
  rw [h2] at h1
  unfold wsum
  omega
theorem msum_R {f : Int → Int} (h : ∀ d : Int, 0 ≤ d → d < 84 → 0 ≤ f d ∧ f d ≤ 50) {i : Int} (hi : 0 ≤ i ∧ i < 12) : 0 ≤ msum f i 84 ∧ msum f i 84 ≤ 350 := by
  have h1 := sumC (f := f) (p := fun d => d / 7 = i) 84 (fun d a b => h d a (by omega))
  have h2 := msum1 ⟨i.toNat, by omega⟩
  have e : ((i.toNat : Nat) : Int) = i := by omega
  rw [e] at h2
  rw [h2] at h1
  unfold msum
  omega
theorem slS_tb {s rk gr wp wk mo to po : Int → Int} {g w sl : Int} (hs : ∀ p, s p ≤ 50) (hw : wpS s rk gr 16 wp) (h : slS wp gr s g w sl wk mo to po) : tbS sl wk mo to po := by
  obtain ⟨h1, h2, h3, h4⟩ := h
  have hc := cntP_R (qG wp gr g w) 16
  have hq : ∀ j : Int, 0 ≤ j → j < (16 : Nat) → qG wp gr g w j → ∀ d : Int, 0 ≤ d → d < 84 → 0 ≤ s (j * 84 + d) ∧ s (j * 84 + d) ≤ 50 := fun j a b q d c e => ⟨((hw.2 j a b).mp q.2.1).2 d c e, hs _⟩
  refine ⟨fun i a b => ?_, fun i a b => ?_, ?_, ?_⟩
  · rw [h1 i a b]
    have := sumP_R (q := qG wp gr g w) (F := fun r => wsum (fun d => s (r * 84 + d)) i 84) (B := 600) (by omega) 16 (fun j c d q => wsum_R (hq j c d q) ⟨a, b⟩)
    omega
  · rw [h2 i a b]
    have := sumP_R (q := qG wp gr g w) (F := fun r => msum (fun d => s (r * 84 + d)) i 84) (B := 350) (by omega) 16 (fun j c d q => msum_R (hq j c d q) ⟨a, b⟩)
    omega
  · rw [h3]
    have := sumP_R (q := qG wp gr g w) (F := fun r => sumZ (fun d => s (r * 84 + d)) 84) (B := 4200) (by omega) 16 (fun j c d q => by
      have := sumZ_R (f := fun d => s (j * 84 + d)) (B := 50) 84 (fun x y z => hq j c d q x y (by omega))
      omega)
    omega
  · rw [h4]; omega
theorem vwS_tb {s rk gr wp wk mo to po : Int → Int} (hs : ∀ p, s p ≤ 50) (h : vwS s rk gr wp wk mo to po) : ∀ g, 0 ≤ g → g < 4 → tbS g wk mo to po := fun g a b => slS_tb hs h.1 (h.2 g a b)
/-- a road's year -/
noncomputable def bsZ (wp wk mo to po s : Int → Int) (r : Int) : Int := rkZ (PZ wk mo to po (fun d => s (r * 84 + d)) (limZ wp r)) (QZ wk mo to po (fun d => s (r * 84 + d)) (limZ wp r)) 0
def yrO (wp wk mo to po s : Int → Int) (r : Int) : Prop := wp r = 1 ∨ bsZ wp wk mo to po s r ≠ -1
noncomputable def yrT (wp wk mo to po s : Int → Int) (r : Int) : Int := if wp r = 1 then sumZ (fun d => s (r * 84 + d)) 84 else PZ wk mo to po (fun d => s (r * 84 + d)) (limZ wp r) (bsZ wp wk mo to po s r) * (to (bsZ wp wk mo to po s r) * to (bsZ wp wk mo to po s r))
noncomputable def yrB (wp wk mo to po s : Int → Int) (r : Int) : Int := if wp r = 1 then 1 else QZ wk mo to po (fun d => s (r * 84 + d)) (limZ wp r) (bsZ wp wk mo to po s r)
theorem hVa {h : zH} {ssz fnd tm : Int} {wk mo to po wp sd sc pr sq fl db : Int → Int} {yu yl u l : Int} {a : Nat} (ha : a = 28 ∨ a = 37) (h37 : h 37 = some (oFrac u l)) : ∃ u2 l2, hV h ssz fnd tm wk mo to po wp sd sc pr sq fl db yu yl a = some (oFrac u2 l2) := by
  rcases ha with rfl | rfl
  · exact ⟨yu, yl, rfl⟩
  · exact ⟨u, l, h37⟩
theorem k_X6_putYear {G : zG} {n : Nat} {h : zH} {Post : Option Value → Nat → zH → Prop} {a : Nat} {r ssz fnd tm u l : Int} {s rk gr wk mo to po wp sd sc pr sq fl db : Int → Int} {yu yl : Int} (ha : a = 28 ∨ a = 37) (h37 : h 37 = some (oFrac u l)) (h16 : h 16 = some oTal) (hO : stO h tm s) (hv : vwS s rk gr wp wk mo to po) (hr : 0 ≤ r ∧ r < 16) (ht : iR tm) (kT : yrO wp wk mo to po s r → (0 ≤ yrT wp wk mo to po s r ∧ yrT wp wk mo to po s r ≤ 663828480000000000) ∧ (0 < yrB wp wk mo to po s r ∧ yrB wp wk mo to po s r ≤ 158054400000000) → ∀ (ssz : Int) (sd sc pr sq : Int → Int), Post (some (vi 1)) n (zup (hV h ssz fnd tm wk mo to po wp sd sc pr sq fl db yu yl) a (oFrac (rdU (yrT wp wk mo to po s r) (yrB wp wk mo to po s r)) (rdL (yrT wp wk mo to po s r) (yrB wp wk mo to po s r))))) (kF : ¬ yrO wp wk mo to po s r → ∀ (ssz : Int) (sd sc pr sq : Int → Int), Post (some (vi 0)) n (hV h ssz fnd tm wk mo to po wp sd sc pr sq fl db yu yl)) : zMP G mX6_putYear [.ref 15, vi r, .ref a] n (hV h ssz fnd tm wk mo to po wp sd sc pr sq fl db yu yl) Post := by
  have hs50 : ∀ p, s p ≤ 50 := fun p => (stO_R hO p).2
  have hb := vwS_tb hs50 hv
  have hwr := hv.1.1 r
  have hws : wp r = 1 → 0 ≤ sumZ (fun d => s (r * 84 + d)) 84 ∧ sumZ (fun d => s (r * 84 + d)) 84 ≤ 4200 := fun q => by
    have := sumZ_R (f := fun d => s (r * 84 + d)) (B := 50) 84 (fun x y z => ⟨((hv.1.2 r hr.1 hr.2).mp q).2 x y (by omega), hs50 _⟩)
    omega
  obtain ⟨u2, l2, hx⟩ := hVa (h := h) (ssz := ssz) (fnd := fnd) (tm := tm) (wk := wk) (mo := mo) (to := to) (po := po) (wp := wp) (sd := sd) (sc := sc) (pr := pr) (sq := sq) (fl := fl) (db := db) (yu := yu) (yl := yl) ha h37
  refine zMP_of (by decide) [some _, some _, some _, none] (Nat.le_of_ble_eq_true rfl) rfl ?_
  refine zr_aload_n (pc := 0)  (i := 0) rfl rfl dX6_putYear_0 ?_
  refine zr_get (pc := 1)  fl_X6_26 (by first | assumption | rfl | (repeat (first | assumption | exact zup_s | refine zup_g (by decide) ?_))) rfl dX6_putYear_1 ?_
  refine zr_iload_n (pc := 4)  (i := 1) rfl rfl dX6_putYear_4 ?_
  refine zr_zald (pc := 5)  (by first | assumption | rfl | (repeat (first | assumption | exact zup_s | refine zup_g (by decide) ?_))) ⟨by omega, by omega⟩ (by decide) dX6_putYear_5 ?_
  refine zr_if_eq (pc := 6)  (tgt := 22) ⟨by omega, by omega⟩ (by decide) dX6_putYear_6 (fun q6 => ?_) (fun q6 => ?_)
  · refine zr_aload_n (pc := 22)  (i := 0) rfl rfl dX6_putYear_22 ?_
    refine zr_iload_n (pc := 23)  (i := 1) rfl rfl dX6_putYear_23 ?_
    refine zr_iconst (pc := 24)  dX6_putYear_24 ?_
    refine zv_call2 (pc := 25)  cv_X6_putYear_116 (by first | assumption | rfl | (repeat (first | assumption | exact zup_s | refine zup_g (by decide) ?_))) ⟨_, rfl, rfl⟩ (Nat.le_of_ble_eq_true rfl) (by decide) dX6_putYear_25 ?_
    refine k_X6_groupAtRank h16 hO hv.1.1 hb hr ⟨by omega, by omega⟩ ht (fun ssz sd sc pr2 sq2 hpq hps => ?_)
    have hfR := fs4_R (fun g => 0 < QZ wk mo to po (fun d => s (r * 84 + d)) (limZ wp r) g ∧ ahZ (PZ wk mo to po (fun d => s (r * 84 + d)) (limZ wp r)) (QZ wk mo to po (fun d => s (r * 84 + d)) (limZ wp r)) g = 0)
    have hbs : rkZ (PZ wk mo to po (fun d => s (r * 84 + d)) (limZ wp r)) (QZ wk mo to po (fun d => s (r * 84 + d)) (limZ wp r)) 0 = bsZ wp wk mo to po s r := rfl
    rw [hbs]
    have hfR : -1 ≤ bsZ wp wk mo to po s r ∧ bsZ wp wk mo to po s r < 4 := hfR
    dsimp only [Option.toList, List.cons_append, List.nil_append]
    refine zs_istore_n_3 (pc := 28)  (by first | exact zn_i | exact zn_r | exact zn_0) (by decide) dX6_putYear_28 ?_
    refine zr_iload_n (pc := 29)  (i := 3) rfl rfl dX6_putYear_29 ?_
    refine zr_iconst (pc := 30)  dX6_putYear_30 ?_
    refine zr_icmp_ne (pc := 31)  (tgt := 36) ⟨by omega, by omega⟩ ⟨by omega, by omega⟩ (by decide) dX6_putYear_31 (fun q31 => ?_) (fun q31 => ?_)
    · have hpos : 0 < QZ wk mo to po (fun d => s (r * 84 + d)) (limZ wp r) (bsZ wp wk mo to po s r) := (fs4_t (c := fun g => 0 < QZ wk mo to po (fun d => s (r * 84 + d)) (limZ wp r) g ∧ ahZ (PZ wk mo to po (fun d => s (r * 84 + d)) (limZ wp r)) (QZ wk mo to po (fun d => s (r * 84 + d)) (limZ wp r)) g = 0) (show bsZ wp wk mo to po s r ≠ -1 by omega)).1
      have hpb := hpq (bsZ wp wk mo to po s r) (by omega) (by omega)
      have hpc := hps (bsZ wp wk mo to po s r) (by omega) (by omega)
      have htb := (hb (bsZ wp wk mo to po s r) (by omega) (by omega)).2.2.1
      obtain ⟨u3, l3, hx3⟩ := hVa (h := h) (ssz := ssz) (fnd := fnd) (tm := tm) (wk := wk) (mo := mo) (to := to) (po := po) (wp := wp) (sd := sd) (sc := sc) (pr := pr2) (sq := sq2) (fl := fl) (db := db) (yu := yu) (yl := yl) ha h37
      refine zr_aload_n (pc := 36)  (i := 0) rfl rfl dX6_putYear_36 ?_
      refine zr_iload_n (pc := 37)  (i := 3) rfl rfl dX6_putYear_37 ?_
      refine zr_aload_n (pc := 38)  (i := 2) rfl rfl dX6_putYear_38 ?_
      refine zv_call2 (pc := 39)  cv_X6_putYear_119 (by first | assumption | rfl | (repeat (first | assumption | exact zup_s | refine zup_g (by decide) ?_))) ⟨_, rfl, rfl⟩ (Nat.le_of_ble_eq_true rfl) (by decide) dX6_putYear_39 ?_
      refine k_X6_putLedYear rfl (by assumption) rfl rfl rfl hx3 (by omega) htb hpc.1 ⟨by omega, hpc.2.2⟩ ?_
      dsimp only [Option.toList, List.cons_append, List.nil_append]
      refine zr_iconst (pc := 42)  dX6_putYear_42 ?_
      refine zr_zreturn (pc := 43)  rfl (by omega) (by decide) (by decide) dX6_putYear_43 ?_
      have eT : yrT wp wk mo to po s r = pr2 (bsZ wp wk mo to po s r) * (to (bsZ wp wk mo to po s r) * to (bsZ wp wk mo to po s r)) := by unfold yrT; rw [if_neg (by omega), hpb.1]
      have eB : yrB wp wk mo to po s r = sq2 (bsZ wp wk mo to po s r) := by unfold yrB; rw [if_neg (by omega), hpb.2]
      have hmb := mulB hpc.1 (mulB htb htb)
      rw [← eT, ← eB]
      exact kT (Or.inr (by omega)) ⟨by omega, by omega⟩ _ _ _ _ _
    · refine zr_iconst (pc := 34)  dX6_putYear_34 ?_
      refine zr_zreturn (pc := 35)  rfl (by omega) (by decide) (by decide) dX6_putYear_35 ?_
      exact kF (fun q => by rcases q with q | q <;> omega) _ _ _ _ _
  · have hwr1 : wp r = 1 := by omega
    have hsum := hws hwr1
    refine zr_aload_n (pc := 9)  (i := 2) rfl rfl dX6_putYear_9 ?_
    refine zr_aload_n (pc := 10)  (i := 0) rfl rfl dX6_putYear_10 ?_
    refine zr_iload_n (pc := 11)  (i := 1) rfl rfl dX6_putYear_11 ?_
    refine zv_call1 (pc := 12)  cv_X6_putYear_109 (by first | assumption | rfl | (repeat (first | assumption | exact zup_s | refine zup_g (by decide) ?_))) ⟨_, rfl, rfl⟩ (Nat.le_of_ble_eq_true rfl) (by decide) dX6_putYear_12 ?_
    refine k_X6_sumOfCounts rfl (stO_hV hO) hr ht ?_
    dsimp only [Option.toList, List.cons_append, List.nil_append]
    refine zr_i2l (pc := 15)  ⟨by omega, by omega⟩ dX6_putYear_15 ?_
    refine zr_lconst (pc := 16)  (z := 1) (by decide) dX6_putYear_16 ?_
    refine zv_call2 (pc := 17)  cv_X6_putYear_112 (by first | assumption | rfl | (repeat (first | assumption | exact zup_s | refine zup_g (by decide) ?_))) ⟨_, rfl, rfl⟩ (Nat.le_of_ble_eq_true rfl) (by decide) dX6_putYear_17 ?_
    refine k_X2_put hx ⟨by omega, by omega⟩ ⟨by omega, by omega⟩ ?_
    dsimp only [Option.toList, List.cons_append, List.nil_append]
    refine zr_iconst (pc := 20)  dX6_putYear_20 ?_
    refine zr_zreturn (pc := 21)  rfl (by omega) (by decide) (by decide) dX6_putYear_21 ?_
    have eT : yrT wp wk mo to po s r = sumZ (fun d => s (r * 84 + d)) 84 := if_pos hwr1
    have eB : yrB wp wk mo to po s r = 1 := if_pos hwr1
    have kk := kT (Or.inl hwr1) ⟨by omega, by omega⟩ ssz sd sc pr sq
    rw [eT, eB] at kk
    exact kk
theorem k_X6_putTrial {G : zG} {n : Nat} {h : zH} {Post : Option Value → Nat → zH → Prop} {a : Nat} {r num ssz fnd tm u l : Int} {s rk gr wk mo to po wp sd sc pr sq fl db : Int → Int} {yu yl : Int} (ha : a = 28 ∨ a = 37) (h37 : h 37 = some (oFrac u l)) (h3 : h 3 = some (oRoads num)) (h7 : h 7 = some (aI 16 gr)) (h16 : h 16 = some oTal) (hO : stO h tm s) (hgr : ∀ i, -1 ≤ gr i ∧ gr i < 4) (hv : vwS s rk gr wp wk mo to po) (hr : 0 ≤ r ∧ r < 16) (ht : iR tm) (kF1 : wp r ≠ 1 → Post (some (vi 0)) n (hV h ssz fnd tm wk mo to po wp sd sc pr sq fl db yu yl)) (kF2 : wp r = 1 → ∀ (ssz : Int) (wk mo to po sd sc pr sq : Int → Int), vwS s rk gr wp wk mo to po → slS wp gr s (gr r) r 4 wk mo to po → ¬ 0 < QZ wk mo to po (fun d => s (r * 84 + d)) 7 4 → Post (some (vi 0)) n (hV h ssz fnd tm wk mo to po wp sd sc pr sq fl db yu yl)) (kT : wp r = 1 → ∀ (ssz : Int) (wk mo to po sd sc pr sq : Int → Int), vwS s rk gr wp wk mo to po → slS wp gr s (gr r) r 4 wk mo to po → 0 < QZ wk mo to po (fun d => s (r * 84 + d)) 7 4 → Post (some (vi 1)) n (zup (hV h ssz fnd tm wk mo to po wp sd sc pr sq fl db yu yl) a (oFrac (rdU (PZ wk mo to po (fun d => s (r * 84 + d)) 7 4 * (to 4 * to 4)) (QZ wk mo to po (fun d => s (r * 84 + d)) 7 4)) (rdL (PZ wk mo to po (fun d => s (r * 84 + d)) 7 4 * (to 4 * to 4)) (QZ wk mo to po (fun d => s (r * 84 + d)) 7 4))))) : zMP G mX6_putTrial [.ref 15, vi r, .ref a] n (hV h ssz fnd tm wk mo to po wp sd sc pr sq fl db yu yl) Post := by
  have hs50 : ∀ p, s p ≤ 50 := fun p => (stO_R hO p).2
  have hwr := hv.1.1 r
  have hgm := hgr r
  refine zMP_of (by decide) [some _, some _, some _] (Nat.le_of_ble_eq_true rfl) rfl ?_
  refine zr_aload_n (pc := 0)  (i := 0) rfl rfl dX6_putTrial_0 ?_
  refine zr_get (pc := 1)  fl_X6_26 (by first | assumption | rfl | (repeat (first | assumption | exact zup_s | refine zup_g (by decide) ?_))) rfl dX6_putTrial_1 ?_
  refine zr_iload_n (pc := 4)  (i := 1) rfl rfl dX6_putTrial_4 ?_
  refine zr_zald (pc := 5)  (by first | assumption | rfl | (repeat (first | assumption | exact zup_s | refine zup_g (by decide) ?_))) ⟨by omega, by omega⟩ (by decide) dX6_putTrial_5 ?_
  refine zr_if_ne (pc := 6)  (tgt := 11) ⟨by omega, by omega⟩ (by decide) dX6_putTrial_6 (fun q6 => ?_) (fun q6 => ?_)
  · have hwr1 : wp r = 1 := by omega
    refine zr_aload_n (pc := 11)  (i := 0) rfl rfl dX6_putTrial_11 ?_
    refine zr_iconst (pc := 12)  dX6_putTrial_12 ?_
    refine zr_aload_n (pc := 13)  (i := 0) rfl rfl dX6_putTrial_13 ?_
    refine zr_get (pc := 14)  fl_X6_9 (by first | assumption | rfl | (repeat (first | assumption | exact zup_s | refine zup_g (by decide) ?_))) rfl dX6_putTrial_14 ?_
    refine zr_iload_n (pc := 17)  (i := 1) rfl rfl dX6_putTrial_17 ?_
    refine zv_call1 (pc := 18)  cv_X6_putTrial_123 (by first | assumption | rfl | (repeat (first | assumption | exact zup_s | refine zup_g (by decide) ?_))) ⟨_, rfl, rfl⟩ (Nat.le_of_ble_eq_true rfl) (by decide) dX6_putTrial_18 ?_
    refine k_X3_group h3 h7 hr ?_
    dsimp only [Option.toList, List.cons_append, List.nil_append]
    refine zr_iload_n (pc := 21)  (i := 1) rfl rfl dX6_putTrial_21 ?_
    refine zv_call3 (pc := 22)  cv_X6_putTrial_77 (by first | assumption | rfl | (repeat (first | assumption | exact zup_s | refine zup_g (by decide) ?_))) ⟨_, rfl, rfl⟩ (Nat.le_of_ble_eq_true rfl) (by decide) dX6_putTrial_22 ?_
    refine k_X6_tallyGroup h3 h7 h16 hO (by omega) (by omega) (by omega) hv.1.1 hgr ht (fun wk2 mo2 to2 po2 hT => ?_)
    have hv2 : vwS s rk gr wp wk2 mo2 to2 po2 := ⟨hv.1, fun g a b => slS_keep (hv.2 g a b) hT (by omega)⟩
    have hsl := slS_of hT
    have htb := slS_tb hs50 hv.1 hsl
    dsimp only [Option.toList, List.cons_append, List.nil_append]
    refine zr_aload_n (pc := 25)  (i := 0) rfl rfl dX6_putTrial_25 ?_
    refine zr_iload_n (pc := 26)  (i := 1) rfl rfl dX6_putTrial_26 ?_
    refine zr_bipush (pc := 27)  (by decide) dX6_putTrial_27 ?_
    refine zv_call2 (pc := 29)  cv_X6_putTrial_95 (by first | assumption | rfl | (repeat (first | assumption | exact zup_s | refine zup_g (by decide) ?_))) ⟨_, rfl, rfl⟩ (Nat.le_of_ble_eq_true rfl) (by decide) dX6_putTrial_29 ?_
    refine k_X6_drawDays hO hr (by omega) ht (fun ssz sd sc hD => ?_)
    have hcz := cnD_R (fun d => s (r * 84 + d)) (most := 7) (by omega) 84
    rw [← hD.1] at hcz
    have hwg := wg_R htb (ssz := ssz) (sd := sd) (sc := sc) (by omega) hD.2.2
    dsimp only [Option.toList, List.cons_append, List.nil_append]
    refine zr_aload_n (pc := 32)  (i := 0) rfl rfl dX6_putTrial_32 ?_
    refine zr_iconst (pc := 33)  dX6_putTrial_33 ?_
    refine zv_call1 (pc := 34)  cv_X6_putTrial_99 (by first | assumption | rfl | (repeat (first | assumption | exact zup_s | refine zup_g (by decide) ?_))) ⟨_, rfl, rfl⟩ (Nat.le_of_ble_eq_true rfl) (by decide) dX6_putTrial_34 ?_
    refine k_X6_weighSample h16 (by omega) htb (by omega) hD.2.2 ?_
    rw [wgP_eq hD, wgQ_eq hD]
    rw [wgP_eq hD, wgQ_eq hD] at hwg
    dsimp only [Option.toList, List.cons_append, List.nil_append]
    refine zr_aload_n (pc := 37)  (i := 0) rfl rfl dX6_putTrial_37 ?_
    refine zr_iconst (pc := 38)  dX6_putTrial_38 ?_
    refine zv_call1 (pc := 39)  cv_X6_putTrial_103 (by first | assumption | rfl | (repeat (first | assumption | exact zup_s | refine zup_g (by decide) ?_))) ⟨_, rfl, rfl⟩ (Nat.le_of_ble_eq_true rfl) (by decide) dX6_putTrial_39 ?_
    refine k_X6_fits rfl rfl (by omega) (by rw [uZ_s]; exact ⟨by omega, by omega⟩) ?_
    rw [uZ_s]
    dsimp only [Option.toList, List.cons_append, List.nil_append]
    refine zb_ne (pc := 42) (tgt := 47) (by decide) dX6_putTrial_42 (fun q42 => ?_) (fun q42 => ?_)
    · obtain ⟨u3, l3, hx3⟩ := hVa (h := h) (ssz := ssz) (fnd := fnd) (tm := tm) (wk := wk2) (mo := mo2) (to := to2) (po := po2) (wp := wp) (sd := sd) (sc := sc) (pr := (uZ pr 4 (PZ wk2 mo2 to2 po2 (fun d => s (r * 84 + d)) 7 4))) (sq := (uZ sq 4 (QZ wk2 mo2 to2 po2 (fun d => s (r * 84 + d)) 7 4))) (fl := fl) (db := db) (yu := yu) (yl := yl) ha h37
      refine zr_aload_n (pc := 47)  (i := 0) rfl rfl dX6_putTrial_47 ?_
      refine zr_iconst (pc := 48)  dX6_putTrial_48 ?_
      refine zr_aload_n (pc := 49)  (i := 2) rfl rfl dX6_putTrial_49 ?_
      refine zv_call2 (pc := 50)  cv_X6_putTrial_119 (by first | assumption | rfl | (repeat (first | assumption | exact zup_s | refine zup_g (by decide) ?_))) ⟨_, rfl, rfl⟩ (Nat.le_of_ble_eq_true rfl) (by decide) dX6_putTrial_50 ?_
      refine k_X6_putLedYear rfl (by assumption) rfl rfl rfl hx3 (by omega) htb.2.2.1 (by rw [uZ_s]; exact hwg.1) (by rw [uZ_s]; exact ⟨q42, hwg.2.2⟩) ?_
      rw [uZ_s, uZ_s]
      dsimp only [Option.toList, List.cons_append, List.nil_append]
      refine zr_iconst (pc := 53)  dX6_putTrial_53 ?_
      refine zr_zreturn (pc := 54)  rfl (by omega) (by decide) (by decide) dX6_putTrial_54 ?_
      exact kT hwr1 _ _ _ _ _ _ _ _ _ hv2 hsl q42
    · refine zr_iconst (pc := 45)  dX6_putTrial_45 ?_
      refine zr_zreturn (pc := 46)  rfl (by omega) (by decide) (by decide) dX6_putTrial_46 ?_
      exact kF2 hwr1 _ _ _ _ _ _ _ _ _ hv2 hsl q42
  · refine zr_iconst (pc := 9)  dX6_putTrial_9 ?_
    refine zr_zreturn (pc := 10)  rfl (by omega) (by decide) (by decide) dX6_putTrial_10 ?_
    exact kF1 (by omega)
/-- a road's flow, and its doubt -/
noncomputable def rndZ (u l : Int) : Int := (2 * u + l) / (2 * l)
noncomputable def yrV (wp wk mo to po s : Int → Int) (r : Int) : Int := rndZ (rdU (yrT wp wk mo to po s r) (yrB wp wk mo to po s r)) (rdL (yrT wp wk mo to po s r) (yrB wp wk mo to po s r))
noncomputable def flZ (rk wp wk mo to po s : Int → Int) (r : Int) : Int := by classical exact if (rk r = 1 ∧ yrO wp wk mo to po s r) ∧ yrV wp wk mo to po s r ≤ 100000 then yrV wp wk mo to po s r else -1
noncomputable def dbZ (wp s : Int → Int) (r : Int) : Int := if wp r = 1 then 1 else 15 - cnD (fun d => s (r * 84 + d)) (limZ wp r) 84
theorem rd_R {t b : Int} (ht : 0 ≤ t) (hb : 0 < b) : (0 ≤ rdU t b ∧ rdU t b ≤ t) ∧ (0 < rdL t b ∧ rdL t b ≤ b) := by
  have hg := gz_pos (a := absZ t) hb
  have hg2 := gz_le (a := absZ t) hb
  unfold rdU rdL
  rw [Int.tdiv_eq_ediv_of_nonneg ht]
  exact ⟨⟨Int.ediv_nonneg ht (by omega), Int.ediv_le_self _ ht⟩, (Int.le_ediv_iff_mul_le hg).mpr (by omega), Int.ediv_le_self _ (by omega)⟩
theorem rnd_R {u l : Int} (hu : 0 ≤ u) (hl : 0 < l) : 0 ≤ rndZ u l ∧ rndZ u l ≤ 2 * u + l := by
  unfold rndZ
  exact ⟨Int.ediv_nonneg (by omega) (by omega), Int.ediv_le_self _ (by omega)⟩
def flS (rk wp wk mo to po s : Int → Int) (m : Nat) (fl db : Int → Int) : Prop := ∀ r : Int, 0 ≤ r → r < m → fl r = flZ rk wp wk mo to po s r ∧ db r = dbZ wp s r
theorem l_X6_ff62 {G : zG} {n : Nat} {h : zH} {Post : Option Value → Nat → zH → Prop} {r fnd tm v : Int} {s wk mo to po wp : Int → Int} {x2 x3 x4 : Option Value} (hn2 : zn x2) (hO : stO h tm s) (hwp : ∀ i, wp i = 0 ∨ wp i = 1) (hr : 0 ≤ r ∧ r < 16) (ht : iR tm) (hv : -1 ≤ v ∧ v < 4611686018427387904) {ssz : Int} {sd sc pr sq fl db : Int → Int} {yu yl : Int} (kk : ∀ (ssz : Int) (sd sc : Int → Int) (x3 x4 : Option Value), zAW G mX6_findFlows zTT (zF G mX6_findFlows Post) 10 [some (.ref 15), some (vi (r + 1)), x2, x3, x4] [] n (hV h ssz fnd tm wk mo to po wp sd sc pr sq (uZ fl r (if v ≤ 100000 then v else -1)) (uZ db r (dbZ wp s r)) yu yl) 0 0) : zAW G mX6_findFlows zTT (zF G mX6_findFlows Post) 62 [some (.ref 15), some (vi r), x2, x3, x4] [vl v] n (hV h ssz fnd tm wk mo to po wp sd sc pr sq fl db yu yl) 0 0 := by
  have hwr := hwp r
  have e1 : v ≤ 100000 → (if v ≤ 100000 then v else -1) = v := fun q => if_pos q
  have e2 : ¬ v ≤ 100000 → (if v ≤ 100000 then v else -1) = -1 := fun q => if_neg q
  have d1 : wp r = 1 → dbZ wp s r = 1 := fun q => if_pos q
  have d0 : wp r ≠ 1 → dbZ wp s r = 15 - cnD (fun d => s (r * 84 + d)) (limZ wp r) 84 := fun q => if_neg q
  refine zs_lstore_n_3 (pc := 62) hn2 (by decide) dX6_findFlows_62 ?_
  refine zr_aload_n (pc := 63)  (i := 0) rfl rfl dX6_findFlows_63 ?_
  refine zr_get (pc := 64)  fl_X6_48 (by first | assumption | rfl | (repeat (first | assumption | exact zup_s | refine zup_g (by decide) ?_))) rfl dX6_findFlows_64 ?_
  refine zr_iload_n (pc := 67)  (i := 1) rfl rfl dX6_findFlows_67 ?_
  refine zr_lload_n (pc := 68)  (i := 3) rfl rfl dX6_findFlows_68 ?_
  refine zr_ldc2 (pc := 69)  (z := 100000) kl_X6_139 (by decide) dX6_findFlows_69 ?_
  refine zr_lcmp_gt (pc := 72)  (tgt := 81) ⟨by omega, by omega⟩ ⟨by omega, by omega⟩ (by decide) dX6_findFlows_72 dX6_findFlows_73 (fun q73 => ?_) (fun q73 => ?_)
  · refine zr_iconst (pc := 81)  dX6_findFlows_81 ?_
    refine zr_iast (pc := 82)  (by first | assumption | rfl | (repeat (first | assumption | exact zup_s | refine zup_g (by decide) ?_))) ⟨by omega, by omega⟩ (by decide) dX6_findFlows_82 ?_
    refine zr_heap hV_26 ?_
    refine zr_aload_n (pc := 83)  (i := 0) rfl rfl dX6_findFlows_83 ?_
    refine zr_get (pc := 84)  fl_X6_51 (by first | assumption | rfl | (repeat (first | assumption | exact zup_s | refine zup_g (by decide) ?_))) rfl dX6_findFlows_84 ?_
    refine zr_iload_n (pc := 87)  (i := 1) rfl rfl dX6_findFlows_87 ?_
    refine zr_aload_n (pc := 88)  (i := 0) rfl rfl dX6_findFlows_88 ?_
    refine zr_get (pc := 89)  fl_X6_26 (by first | assumption | rfl | (repeat (first | assumption | exact zup_s | refine zup_g (by decide) ?_))) rfl dX6_findFlows_89 ?_
    refine zr_iload_n (pc := 92)  (i := 1) rfl rfl dX6_findFlows_92 ?_
    refine zr_zald (pc := 93)  (by first | assumption | rfl | (repeat (first | assumption | exact zup_s | refine zup_g (by decide) ?_))) ⟨by omega, by omega⟩ (by decide) dX6_findFlows_93 ?_
    refine zr_if_eq (pc := 94)  (tgt := 101) ⟨by omega, by omega⟩ (by decide) dX6_findFlows_94 (fun q94 => ?_) (fun q94 => ?_)
    · refine zr_bipush (pc := 101)  (by decide) dX6_findFlows_101 ?_
      refine zr_aload_n (pc := 103)  (i := 0) rfl rfl dX6_findFlows_103 ?_
      refine zr_iload_n (pc := 104)  (i := 1) rfl rfl dX6_findFlows_104 ?_
      refine zv_call1 (pc := 105)  cv_X6_findFlows_141 (by first | assumption | rfl | (repeat (first | assumption | exact zup_s | refine zup_g (by decide) ?_))) ⟨_, rfl, rfl⟩ (Nat.le_of_ble_eq_true rfl) (by decide) dX6_findFlows_105 ?_
      refine k_X6_sampleSizeOf hO hwp hr ht (fun ssz sd sc hD => ?_)
      have hcz := cnD_R (fun d => s (r * 84 + d)) (limZ_R wp r).1 84
      rw [← hD.1] at hcz
      dsimp only [Option.toList, List.cons_append, List.nil_append]
      refine zr_isub (pc := 108)  dX6_findFlows_108 ?_
      refine zr_iast (pc := 109)  (by first | assumption | rfl | (repeat (first | assumption | exact zup_s | refine zup_g (by decide) ?_))) ⟨by omega, by omega⟩ (by decide) dX6_findFlows_109 ?_
      refine zr_heap hV_27 ?_
      refine zs_iinc_1 (pc := 110)  (by first | exact zn_i | exact zn_r | exact zn_0) (by decide) dX6_findFlows_110 ?_
      refine zr_goto (pc := 113)  (tgt := 10) (by decide) dX6_findFlows_113 ?_
      first | (rw [d1 (by omega), e1 (by omega)] at kk; exact kk _ _ _ _ _) | (rw [d1 (by omega), e2 (by omega)] at kk; exact kk _ _ _ _ _) | (rw [d0 (by omega), ← hD.1, e1 (by omega)] at kk; exact kk _ _ _ _ _) | (rw [d0 (by omega), ← hD.1, e2 (by omega)] at kk; exact kk _ _ _ _ _)
    · refine zr_iconst (pc := 97)  dX6_findFlows_97 ?_
      refine zr_goto (pc := 98)  (tgt := 109) (by decide) dX6_findFlows_98 ?_
      refine zr_iast (pc := 109)  (by first | assumption | rfl | (repeat (first | assumption | exact zup_s | refine zup_g (by decide) ?_))) ⟨by omega, by omega⟩ (by decide) dX6_findFlows_109 ?_
      refine zr_heap hV_27 ?_
      refine zs_iinc_1 (pc := 110)  (by first | exact zn_i | exact zn_r | exact zn_0) (by decide) dX6_findFlows_110 ?_
      refine zr_goto (pc := 113)  (tgt := 10) (by decide) dX6_findFlows_113 ?_
      first | (rw [d1 (by omega), e1 (by omega)] at kk; exact kk _ _ _ _ _) | (rw [d1 (by omega), e2 (by omega)] at kk; exact kk _ _ _ _ _) | (rw [d0 (by omega), ← hD.1, e1 (by omega)] at kk; exact kk _ _ _ _ _) | (rw [d0 (by omega), ← hD.1, e2 (by omega)] at kk; exact kk _ _ _ _ _)
  · refine zr_lload_n (pc := 76)  (i := 3) rfl rfl dX6_findFlows_76 ?_
    refine zr_l2i (pc := 77)  dX6_findFlows_77 ?_
    refine zr_goto (pc := 78)  (tgt := 82) (by decide) dX6_findFlows_78 ?_
    refine zr_iast (pc := 82)  (by first | assumption | rfl | (repeat (first | assumption | exact zup_s | refine zup_g (by decide) ?_))) ⟨by omega, by omega⟩ (by decide) dX6_findFlows_82 ?_
    refine zr_heap hV_26 ?_
    refine zr_aload_n (pc := 83)  (i := 0) rfl rfl dX6_findFlows_83 ?_
    refine zr_get (pc := 84)  fl_X6_51 (by first | assumption | rfl | (repeat (first | assumption | exact zup_s | refine zup_g (by decide) ?_))) rfl dX6_findFlows_84 ?_
    refine zr_iload_n (pc := 87)  (i := 1) rfl rfl dX6_findFlows_87 ?_
    refine zr_aload_n (pc := 88)  (i := 0) rfl rfl dX6_findFlows_88 ?_
    refine zr_get (pc := 89)  fl_X6_26 (by first | assumption | rfl | (repeat (first | assumption | exact zup_s | refine zup_g (by decide) ?_))) rfl dX6_findFlows_89 ?_
    refine zr_iload_n (pc := 92)  (i := 1) rfl rfl dX6_findFlows_92 ?_
    refine zr_zald (pc := 93)  (by first | assumption | rfl | (repeat (first | assumption | exact zup_s | refine zup_g (by decide) ?_))) ⟨by omega, by omega⟩ (by decide) dX6_findFlows_93 ?_
    refine zr_if_eq (pc := 94)  (tgt := 101) ⟨by omega, by omega⟩ (by decide) dX6_findFlows_94 (fun q94 => ?_) (fun q94 => ?_)
    · refine zr_bipush (pc := 101)  (by decide) dX6_findFlows_101 ?_
      refine zr_aload_n (pc := 103)  (i := 0) rfl rfl dX6_findFlows_103 ?_
      refine zr_iload_n (pc := 104)  (i := 1) rfl rfl dX6_findFlows_104 ?_
      refine zv_call1 (pc := 105)  cv_X6_findFlows_141 (by first | assumption | rfl | (repeat (first | assumption | exact zup_s | refine zup_g (by decide) ?_))) ⟨_, rfl, rfl⟩ (Nat.le_of_ble_eq_true rfl) (by decide) dX6_findFlows_105 ?_
      refine k_X6_sampleSizeOf hO hwp hr ht (fun ssz sd sc hD => ?_)
      have hcz := cnD_R (fun d => s (r * 84 + d)) (limZ_R wp r).1 84
      rw [← hD.1] at hcz
      dsimp only [Option.toList, List.cons_append, List.nil_append]
      refine zr_isub (pc := 108)  dX6_findFlows_108 ?_
      refine zr_iast (pc := 109)  (by first | assumption | rfl | (repeat (first | assumption | exact zup_s | refine zup_g (by decide) ?_))) ⟨by omega, by omega⟩ (by decide) dX6_findFlows_109 ?_
      refine zr_heap hV_27 ?_
      refine zs_iinc_1 (pc := 110)  (by first | exact zn_i | exact zn_r | exact zn_0) (by decide) dX6_findFlows_110 ?_
      refine zr_goto (pc := 113)  (tgt := 10) (by decide) dX6_findFlows_113 ?_
      first | (rw [d1 (by omega), e1 (by omega)] at kk; exact kk _ _ _ _ _) | (rw [d1 (by omega), e2 (by omega)] at kk; exact kk _ _ _ _ _) | (rw [d0 (by omega), ← hD.1, e1 (by omega)] at kk; exact kk _ _ _ _ _) | (rw [d0 (by omega), ← hD.1, e2 (by omega)] at kk; exact kk _ _ _ _ _)
    · refine zr_iconst (pc := 97)  dX6_findFlows_97 ?_
      refine zr_goto (pc := 98)  (tgt := 109) (by decide) dX6_findFlows_98 ?_
      refine zr_iast (pc := 109)  (by first | assumption | rfl | (repeat (first | assumption | exact zup_s | refine zup_g (by decide) ?_))) ⟨by omega, by omega⟩ (by decide) dX6_findFlows_109 ?_
      refine zr_heap hV_27 ?_
      refine zs_iinc_1 (pc := 110)  (by first | exact zn_i | exact zn_r | exact zn_0) (by decide) dX6_findFlows_110 ?_
      refine zr_goto (pc := 113)  (tgt := 10) (by decide) dX6_findFlows_113 ?_
      first | (rw [d1 (by omega), e1 (by omega)] at kk; exact kk _ _ _ _ _) | (rw [d1 (by omega), e2 (by omega)] at kk; exact kk _ _ _ _ _) | (rw [d0 (by omega), ← hD.1, e1 (by omega)] at kk; exact kk _ _ _ _ _) | (rw [d0 (by omega), ← hD.1, e2 (by omega)] at kk; exact kk _ _ _ _ _)
theorem l_X6_findFlows {G : zG} {n : Nat} {h : zH} {Post : Option Value → Nat → zH → Prop} {num tm u l : Int} {s rk gr wk mo to po wp : Int → Int} (h37 : h 37 = some (oFrac u l)) (h3 : h 3 = some (oRoads num)) (h4 : h 4 = some (aZ 16 rk)) (h16 : h 16 = some oTal) (hO : stO h tm s) (hrk : ∀ i, rk i = 0 ∨ rk i = 1) (hv : vwS s rk gr wp wk mo to po) (ht : iR tm) (kk : ∀ (ssz : Int) (sd sc pr sq fl db : Int → Int) (yu yl : Int), flS rk wp wk mo to po s 16 fl db → Post none n (hV h ssz 1 tm wk mo to po wp sd sc pr sq fl db yu yl)) : ∀ (k m : Nat) (ssz : Int) (sd sc pr sq fl db : Int → Int) (yu yl : Int) (x2 x3 x4 : Option Value), 16 - m ≤ k → m ≤ 16 → flS rk wp wk mo to po s m fl db → zAW G mX6_findFlows zTT (zF G mX6_findFlows Post) 10 [some (.ref 15), some (vi m), x2, x3, x4] [] n (hV h ssz 0 tm wk mo to po wp sd sc pr sq fl db yu yl) 0 0 := by
  intro k
  induction k with
  | zero =>
    intro m ssz sd sc pr sq fl db yu yl x2 x3 x4 hk hm hT
    obtain rfl : m = 16 := by omega
    refine zr_iload_n (pc := 10)  (i := 1) rfl rfl dX6_findFlows_10 ?_
    refine zr_bipush (pc := 11)  (by decide) dX6_findFlows_11 ?_
    refine zr_icmp_ge (pc := 13)  (tgt := 116) ⟨by omega, by omega⟩ ⟨by omega, by omega⟩ (by decide) dX6_findFlows_13 (fun q13 => ?_) (fun q13 => ?_)
    · refine zr_aload_n (pc := 116)  (i := 0) rfl rfl dX6_findFlows_116 ?_
      refine zr_iconst (pc := 117)  dX6_findFlows_117 ?_
      refine zr_put (pc := 118)  (oView _ _ _) (fp_X6_61 rfl) (by first | assumption | rfl | (repeat (first | assumption | exact zup_s | refine zup_g (by decide) ?_))) (Nat.le_of_ble_eq_true rfl) rfl rfl rfl dX6_findFlows_118 ?_
      refine zr_heap hV_15 ?_
      refine zr_vreturn (pc := 121)  rfl (by decide) (by decide) dX6_findFlows_121 ?_
      exact kk _ _ _ _ _ _ _ _ _ hT
    · exact absurd q13 (by omega)
  | succ k ih =>
    intro m ssz sd sc pr sq fl db yu yl x2 x3 x4 hk hm hT
    have step : m < 16 → ∀ (ssz : Int) (sd sc pr sq : Int → Int) (yu yl v : Int), flZ rk wp wk mo to po s m = (if v ≤ 100000 then v else -1) → ∀ (ssz : Int) (sd sc : Int → Int) (x2 x3 x4 : Option Value), zAW G mX6_findFlows zTT (zF G mX6_findFlows Post) 10 [some (.ref 15), some (vi ((m : Int) + 1)), x2, x3, x4] [] n (hV h ssz 0 tm wk mo to po wp sd sc pr sq (uZ fl m (if v ≤ 100000 then v else -1)) (uZ db m (dbZ wp s m)) yu yl) 0 0 := fun hm16 _ _ _ pr sq yu yl v hf ssz sd sc x2 x3 x4 =>
      ih (m + 1) ssz sd sc pr sq _ _ yu yl x2 x3 x4 (by omega) (by omega) (fun r a b => by
        by_cases e : r = m
        · rw [e, uZ_s, uZ_s, hf]; exact ⟨rfl, rfl⟩
        · rw [uZ_n e, uZ_n e]; exact hT r a (by omega))
    have hN : ¬ (rk m = 1 ∧ yrO wp wk mo to po s m) → flZ rk wp wk mo to po s m = (if (-1 : Int) ≤ 100000 then -1 else -1) := fun q => by
      unfold flZ; rw [if_neg (fun z => q z.1)]; rfl
    have hY : (rk m = 1 ∧ yrO wp wk mo to po s m) → flZ rk wp wk mo to po s m = (if yrV wp wk mo to po s m ≤ 100000 then yrV wp wk mo to po s m else -1) := fun q => by
      unfold flZ
      by_cases q2 : yrV wp wk mo to po s m ≤ 100000
      · rw [if_pos ⟨q, q2⟩, if_pos q2]
      · rw [if_neg (fun z => q2 z.2), if_neg q2]
    have no44 : m < 16 → ¬ (rk m = 1 ∧ yrO wp wk mo to po s m) → ∀ (ssz : Int) (sd sc pr sq : Int → Int) (yu yl : Int) (x2 x3 x4 : Option Value), zAW G mX6_findFlows zTT (zF G mX6_findFlows Post) 44 [some (.ref 15), some (vi m), x2, x3, x4] [vi 0] n (hV h ssz 0 tm wk mo to po wp sd sc pr sq fl db yu yl) 0 0 := fun hm16 q ssz sd sc pr sq yu yl x2 x3 x4 => by
      refine zs_istore_n_2 (pc := 44)  (by first | exact zn_i | exact zn_r | exact zn_0) (by decide) dX6_findFlows_44 ?_
      refine zr_iload_n (pc := 45)  (i := 2) rfl rfl dX6_findFlows_45 ?_
      refine zr_if_eq (pc := 46)  (tgt := 59) ⟨by omega, by omega⟩ (by decide) dX6_findFlows_46 (fun q46 => ?_) (fun q46 => ?_)
      · refine zr_ldc2 (pc := 59)  (z := -1) kl_X6_137 (by decide) dX6_findFlows_59 ?_
        exact l_X6_ff62 zn_i hO hv.1.1 (by omega) ht (by omega) (fun ssz sd sc x3 x4 => step (by omega) ssz sd sc pr sq yu yl (-1) (hN q) ssz sd sc _ _ _)
      · exact absurd rfl q46
    have hvm : (0 ≤ yrT wp wk mo to po s m ∧ yrT wp wk mo to po s m ≤ 663828480000000000) ∧ (0 < yrB wp wk mo to po s m ∧ yrB wp wk mo to po s m ≤ 158054400000000) → ((0 ≤ rdU (yrT wp wk mo to po s m) (yrB wp wk mo to po s m) ∧ rdU (yrT wp wk mo to po s m) (yrB wp wk mo to po s m) ≤ 663828480000000000) ∧ (0 < rdL (yrT wp wk mo to po s m) (yrB wp wk mo to po s m) ∧ rdL (yrT wp wk mo to po s m) (yrB wp wk mo to po s m) ≤ 158054400000000)) ∧ (0 ≤ yrV wp wk mo to po s m ∧ yrV wp wk mo to po s m < 4611686018427387904) := fun q => by
      have h1 := rd_R q.1.1 q.2.1
      have h2 := rnd_R h1.1.1 h1.2.1
      unfold yrV
      omega
    refine zr_iload_n (pc := 10)  (i := 1) rfl rfl dX6_findFlows_10 ?_
    refine zr_bipush (pc := 11)  (by decide) dX6_findFlows_11 ?_
    refine zr_icmp_ge (pc := 13)  (tgt := 116) ⟨by omega, by omega⟩ ⟨by omega, by omega⟩ (by decide) dX6_findFlows_13 (fun q13 => ?_) (fun q13 => ?_)
    · refine zr_aload_n (pc := 116)  (i := 0) rfl rfl dX6_findFlows_116 ?_
      refine zr_iconst (pc := 117)  dX6_findFlows_117 ?_
      refine zr_put (pc := 118)  (oView _ _ _) (fp_X6_61 rfl) (by first | assumption | rfl | (repeat (first | assumption | exact zup_s | refine zup_g (by decide) ?_))) (Nat.le_of_ble_eq_true rfl) rfl rfl rfl dX6_findFlows_118 ?_
      refine zr_heap hV_15 ?_
      refine zr_vreturn (pc := 121)  rfl (by decide) (by decide) dX6_findFlows_121 ?_
      obtain rfl : m = 16 := by omega
      exact kk _ _ _ _ _ _ _ _ _ hT
    · refine zr_aload_n (pc := 16)  (i := 0) rfl rfl dX6_findFlows_16 ?_
      refine zr_get (pc := 17)  fl_X6_9 (by first | assumption | rfl | (repeat (first | assumption | exact zup_s | refine zup_g (by decide) ?_))) rfl dX6_findFlows_17 ?_
      refine zr_iload_n (pc := 20)  (i := 1) rfl rfl dX6_findFlows_20 ?_
      refine zv_call1 (pc := 21)  cv_X6_findFlows_126 (by first | assumption | rfl | (repeat (first | assumption | exact zup_s | refine zup_g (by decide) ?_))) ⟨_, rfl, rfl⟩ (Nat.le_of_ble_eq_true rfl) (by decide) dX6_findFlows_21 ?_
      refine k_X3_has h3 h4 hrk ⟨by omega, by omega⟩ ?_
      dsimp only [Option.toList, List.cons_append, List.nil_append]
      refine zb_eq (pc := 24) (tgt := 43) (by decide) dX6_findFlows_24 (fun q24 => ?_) (fun q24 => ?_)
      · refine zr_iconst (pc := 43)  dX6_findFlows_43 ?_
        exact no44 (by omega) (fun z => q24 ⟨by omega, z.1⟩) _ _ _ _ _ _ _ _ _ _
      · refine zr_aload_n (pc := 27)  (i := 0) rfl rfl dX6_findFlows_27 ?_
        refine zr_iload_n (pc := 28)  (i := 1) rfl rfl dX6_findFlows_28 ?_
        refine zr_aload_n (pc := 29)  (i := 0) rfl rfl dX6_findFlows_29 ?_
        refine zr_get (pc := 30)  fl_X6_57 (by first | assumption | rfl | (repeat (first | assumption | exact zup_s | refine zup_g (by decide) ?_))) rfl dX6_findFlows_30 ?_
        refine zv_call2 (pc := 33)  cv_X6_findFlows_129 (by first | assumption | rfl | (repeat (first | assumption | exact zup_s | refine zup_g (by decide) ?_))) ⟨_, rfl, rfl⟩ (Nat.le_of_ble_eq_true rfl) (by decide) dX6_findFlows_33 ?_
        refine k_X6_putYear (Or.inl rfl) h37 h16 hO hv (by omega) ht (fun c1 c2 ssz sd sc pr sq => ?_) (fun c1 ssz sd sc pr sq => ?_)
        · dsimp only [Option.toList, List.cons_append, List.nil_append]
          refine zr_heap hV_28 ?_
          have hR := hvm c2
          refine zk_eq1 (pc := 36) dX6_findFlows_36 (tgt := 43) (by decide) ?_
          refine zr_iconst (pc := 39)  dX6_findFlows_39 ?_
          refine zr_goto (pc := 40)  (tgt := 44) (by decide) dX6_findFlows_40 ?_
          refine zs_istore_n_2 (pc := 44)  (by first | exact zn_i | exact zn_r | exact zn_0) (by decide) dX6_findFlows_44 ?_
          refine zr_iload_n (pc := 45)  (i := 2) rfl rfl dX6_findFlows_45 ?_
          refine zr_if_eq (pc := 46)  (tgt := 59) ⟨by omega, by omega⟩ (by decide) dX6_findFlows_46 (fun q46 => ?_) (fun q46 => ?_)
          · exact absurd q46 (by omega)
          refine zr_aload_n (pc := 49)  (i := 0) rfl rfl dX6_findFlows_49 ?_
          refine zr_get (pc := 50)  fl_X6_57 (by first | assumption | rfl | (repeat (first | assumption | exact zup_s | refine zup_g (by decide) ?_))) rfl dX6_findFlows_50 ?_
          refine zv_call0 (pc := 53)  cv_X6_findFlows_133 (by first | assumption | rfl | (repeat (first | assumption | exact zup_s | refine zup_g (by decide) ?_))) ⟨_, rfl, rfl⟩ (Nat.le_of_ble_eq_true rfl) (by decide) dX6_findFlows_53 ?_
          refine k_X2_roundedHalfUp rfl (by omega) (by omega) ?_
          dsimp only [Option.toList, List.cons_append, List.nil_append]
          refine zr_goto (pc := 56)  (tgt := 62) (by decide) dX6_findFlows_56 ?_
          exact l_X6_ff62 (v := yrV wp wk mo to po s m) zn_i hO hv.1.1 (by omega) ht (by omega) (fun ssz sd sc x3 x4 => step (by omega) ssz sd sc pr sq _ _ _ (hY ⟨q24.2, c1⟩) ssz sd sc _ _ _)
        · dsimp only [Option.toList, List.cons_append, List.nil_append]
          refine zk_eq0 (pc := 36) (tgt := 43) (by decide) dX6_findFlows_36 ?_
          refine zr_iconst (pc := 43)  dX6_findFlows_43 ?_
          exact no44 (by omega) (fun z => c1 z.2) _ _ _ _ _ _ _ _ _ _
theorem k_X6_findFlows {G : zG} {n : Nat} {h : zH} {Post : Option Value → Nat → zH → Prop} {num ssz fnd tm u l : Int} {s rk gr wk mo to po wp sd sc pr sq fl db : Int → Int} {yu yl : Int} (h37 : h 37 = some (oFrac u l)) (h3 : h 3 = some (oRoads num)) (h4 : h 4 = some (aZ 16 rk)) (h16 : h 16 = some oTal) (hO : stO h tm s) (hrk : ∀ i, rk i = 0 ∨ rk i = 1) (hv : vwS s rk gr wp wk mo to po) (ht : iR tm) (hf01 : fnd = 0 ∨ fnd = 1) (hf : fnd = 1 → flS rk wp wk mo to po s 16 fl db) (k : ∀ (ssz : Int) (sd sc pr sq fl db : Int → Int) (yu yl : Int), flS rk wp wk mo to po s 16 fl db → Post none n (hV h ssz 1 tm wk mo to po wp sd sc pr sq fl db yu yl)) : zMP G mX6_findFlows [.ref 15] n (hV h ssz fnd tm wk mo to po wp sd sc pr sq fl db yu yl) Post := by
  refine zMP_of (by decide) [some _, none, none, none, none] (Nat.le_of_ble_eq_true rfl) rfl ?_
  refine zr_aload_n (pc := 0)  (i := 0) rfl rfl dX6_findFlows_0 ?_
  refine zr_get (pc := 1)  fl_X6_61 (by first | assumption | rfl | (repeat (first | assumption | exact zup_s | refine zup_g (by decide) ?_))) rfl dX6_findFlows_1 ?_
  refine zr_if_eq (pc := 4)  (tgt := 8) ⟨by omega, by omega⟩ (by decide) dX6_findFlows_4 (fun q4 => ?_) (fun q4 => ?_)
  · refine zr_iconst (pc := 8)  dX6_findFlows_8 ?_
    refine zs_istore_n_1 (pc := 9)  (by first | exact zn_i | exact zn_r | exact zn_0) (by decide) dX6_findFlows_9 ?_
    obtain rfl : fnd = 0 := by omega
    exact l_X6_findFlows h37 h3 h4 h16 hO hrk hv ht k 16 0 _ _ _ _ _ _ _ _ _ _ _ _ (by omega) (by omega) (fun r a b => by omega)
  · refine zr_vreturn (pc := 7)  rfl (by decide) (by decide) dX6_findFlows_7 ?_
    obtain rfl : fnd = 1 := by omega
    exact k _ _ _ _ _ _ _ _ _ (hf rfl)
