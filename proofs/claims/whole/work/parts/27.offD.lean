/-- a stretch of a row written anew -/
def seg (g : Int → Int) (a m : Int) (F : Int → Int) : Int → Int := fun e => if a ≤ e ∧ e < a + m then F (e - a) else g e
theorem seg_0 {g : Int → Int} {a : Int} {F : Int → Int} : seg g a 0 F = g := by
  funext e; unfold seg; rw [if_neg (by omega)]
theorem seg_s {g : Int → Int} {a m v : Int} {F : Int → Int} (hm : 0 ≤ m) (hv : v = F m) : uZ (seg g a m F) (a + m) v = seg g a (m + 1) F := by
  funext e
  unfold uZ
  show (if e = a + m then v else seg g a m F e) = _
  unfold seg
  by_cases q : e = a + m
  · rw [if_pos q, if_pos (by omega), hv, show e - a = m by omega]
  · rw [if_neg q]
    by_cases q2 : a ≤ e ∧ e < a + m
    · rw [if_pos q2, if_pos (by omega)]
    · rw [if_neg q2, if_neg (by omega)]
theorem seg_in {g : Int → Int} {a m e : Int} {F : Int → Int} (h : a ≤ e ∧ e < a + m) : seg g a m F e = F (e - a) := if_pos h
theorem seg_out {g : Int → Int} {a m e : Int} {F : Int → Int} (h : ¬ (a ≤ e ∧ e < a + m)) : seg g a m F e = g e := if_neg h
theorem chZ_enter {bn be pl : Int → Int} {N : Nat} {p : Int} (h : chZ bn be pl N) (hp : 0 ≤ p ∧ p < 1344) : chZ (uZ bn p N) (uZ be N (bn p)) (uZ pl N p) (N + 1) := by
  have cg : ∀ (q : Int) (k : Nat), k ≤ N → lastE (fun e => uZ pl N p e == q) k = lastE (fun e => pl e == q) k := fun q k hk => lastE_congr k (fun j a b => by rw [uZ_n (by omega)])
  refine ⟨fun q a b => ?_, fun e a b => ?_⟩
  · show _ = if (uZ pl N p (N : Int) == q) = true then (N : Int) else lastE (fun e => uZ pl N p e == q) N
    rw [uZ_s, cg q N (Nat.le_refl N)]
    by_cases e : p = q
    · rw [if_pos (by rw [e]; exact beq_self_eq_true q), ← e, uZ_s]
    · rw [if_neg (by rw [beq_iff_eq]; exact e), uZ_n (fun z => e z.symm)]
      exact h.1 q a b
  · by_cases q : e = N
    · rw [q, uZ_s, uZ_s, show ((N : Int)).toNat = N by omega, cg p N (Nat.le_refl N)]
      exact h.1 p hp.1 hp.2
    · rw [uZ_n q, uZ_n q, cg (pl e) e.toNat (by omega)]
      exact h.2 e a (by omega)
theorem bkI_enter {N : Nat} {bt bc be bn ap pl : Int → Int} {p tm ct : Int} (h : bkI N bt bc be bn ap pl) (hN : N < 600) (hp : 0 ≤ p ∧ p < 1344) (ht : 0 ≤ tm ∧ tm ≤ 99) (hc : -1 ≤ ct ∧ ct ≤ 50) : bkI (N + 1) (uZ bt N tm) (uZ bc N ct) (uZ be N (bn p)) (uZ bn p N) ap (uZ pl N p) := by
  obtain ⟨h1, h2, h3, h4, h5⟩ := h
  refine ⟨fun i => ?_, fun i => ?_, h3, chZ_enter h4 hp, by omega⟩
  · unfold uZ; split
    · exact ht
    · exact h1 i
  · unfold uZ; split
    · exact hc
    · exact h2 i
/-- the books' cells -/
def hE (h : zH) (num : Int) (bt bc bk be bn : Int → Int) : zH := zup (zup (zup (zup (zup (zup h 9 (aI 600 bt)) 10 (aI 600 bc)) 12 (aI 600 be)) 13 (aI 1344 bn)) 8 (oBooks num)) 11 (aI 1800 bk)
theorem hE_out {h : zH} {num : Int} {bt bc bk be bn : Int → Int} {j : Nat} (hj : j ≠ 8 ∧ j ≠ 9 ∧ j ≠ 10 ∧ j ≠ 11 ∧ j ≠ 12 ∧ j ≠ 13) : hE h num bt bc bk be bn j = h j := by
  unfold hE
  rw [zup_n (by omega), zup_n (by omega), zup_n (by omega), zup_n (by omega), zup_n (by omega), zup_n (by omega)]
theorem hE_hE {h : zH} {num num2 : Int} {bt bc bk be bn bt2 bc2 bk2 be2 bn2 : Int → Int} : hE (hE h num bt bc bk be bn) num2 bt2 bc2 bk2 be2 bn2 = hE h num2 bt2 bc2 bk2 be2 bn2 := by
  funext j
  by_cases e : j = 8 ∨ j = 9 ∨ j = 10 ∨ j = 11 ∨ j = 12 ∨ j = 13
  · rcases e with rfl | rfl | rfl | rfl | rfl | rfl <;> rfl
  · rw [hE_out (by omega), hE_out (by omega), hE_out (by omega)]
theorem hE_self {h : zH} {num : Int} {bt bc bk be bn : Int → Int} (g8 : h 8 = some (oBooks num)) (g9 : h 9 = some (aI 600 bt)) (g10 : h 10 = some (aI 600 bc)) (g11 : h 11 = some (aI 1800 bk)) (g12 : h 12 = some (aI 600 be)) (g13 : h 13 = some (aI 1344 bn)) : hE h num bt bc bk be bn = h := by
  unfold hE
  rw [zup_self g9, zup_self g10, zup_self g12, zup_self g13, zup_self g8, zup_self g11]
def k3 (bk : Int → Int) (i a b c : Int) : Int → Int := uZ (uZ (uZ bk i a) (i + 1) b) (i + 2) c
section OFF
variable {G : zG} {n : Nat} {h : zH} {Post : Option Value → Nat → zH → Prop} {now len num : Int} {tb rk rs rg gr bt bc bk be bn ap pl : Int → Int} {N : Nat}
theorem l_X7_works {ssz fnd tm r a b on : Int} (g0 : h 0 = some (oOff now)) (g8 : h 8 = some (oBooks N)) (g15 : h 15 = some (oView ssz fnd tm)) (i3 : ∀ i, ap i = 0 ∨ ap i = 1) (hon : on = 0 ∨ on = 1) (hr : 0 ≤ r ∧ r < 16) (hab : 0 ≤ a ∧ a ≤ b ∧ b ≤ 84) (kk : Post (some (vi (sumZ (fun i => ind (ap (r * 84 + (a + i)) ≠ on)) (b - a).toNat))) n (zup (zup h 14 (aZ 1344 (clZ ap (r * 84 + a) (r * 84 + b) on))) 15 (oView ssz fnd (-1)))) : ∀ (k : Nat) (m ct : Int), b - m ≤ k → a ≤ m → m ≤ b → ct = sumZ (fun i => ind (ap (r * 84 + (a + i)) ≠ on)) (m - a).toNat → zAW G mX7_works zTT (zF G mX7_works Post) 34 [some (.ref 0), some (vi r), some (vi a), some (vi b), some (vi on), some (vi ct), some (vi m)] [] n (zup h 14 (aZ 1344 (clZ ap (r * 84 + a) (r * 84 + m) on))) 0 0 := by
  intro k
  induction k with
  | zero =>
    intro m ct hk h0 hm hT
    obtain rfl : m = b := by omega
    rw [← hT] at kk
    refine zr_iload (pc := 34)  rfl dX7_works_34 ?_
    refine zr_iload_n (pc := 36)  (i := 3) rfl rfl dX7_works_36 ?_
    refine zr_icmp_ge (pc := 37)  (tgt := 68) ⟨by omega, by omega⟩ ⟨by omega, by omega⟩ (by decide) dX7_works_37 (fun q37 => ?_) (fun q37 => ?_)
    · refine zr_aload_n (pc := 68)  (i := 0) rfl rfl dX7_works_68 ?_
      refine zr_get (pc := 69)  fl_X7_35 (by first | assumption | rfl | (repeat (first | assumption | exact zup_s | refine zup_g (by decide) ?_))) rfl dX7_works_69 ?_
      refine zv_call0 (pc := 72)  cv_X7_works_80 (by first | assumption | rfl | (repeat (first | assumption | exact zup_s | refine zup_g (by decide) ?_))) ⟨_, rfl, rfl⟩ (Nat.le_of_ble_eq_true rfl) (by decide) dX7_works_72 ?_
      refine k_X6_forget (by first | assumption | omega | (refine ⟨?_, ?_⟩ <;> omega) | rfl | (repeat (first | assumption | exact zup_s | refine zup_g (by decide) ?_))) ?_
      dsimp only [Option.toList, List.cons_append, List.nil_append]
      refine zr_iload (pc := 75)  rfl dX7_works_75 ?_
      refine zr_ireturn (pc := 77)  rfl (by decide) (by decide) dX7_works_77 ?_
      exact kk
    · exact absurd q37 (by omega)
  | succ k ih =>
    intro m ct hk h0 hm hT
    have es : sumZ (fun i => ind (ap (r * 84 + (a + i)) ≠ on)) (m + 1 - a).toNat = ct + ind (ap (r * 84 + m) ≠ on) := by
      rw [show (m + 1 - a).toNat = (m - a).toNat + 1 by omega]
      show sumZ _ (m - a).toNat + ind (ap (r * 84 + (a + (((m - a).toNat : Nat) : Int))) ≠ on) = _
      rw [← hT, show a + (((m - a).toNat : Nat) : Int) = m by omega]
    have ecl : clZ ap (r * 84 + a) (r * 84 + m) on (r * 84 + m) = ap (r * 84 + m) := clZ_out (by omega)
    have hcl : ∀ i, clZ ap (r * 84 + a) (r * 84 + m) on i = 0 ∨ clZ ap (r * 84 + a) (r * 84 + m) on i = 1 := fun i => by
      unfold clZ; split
      · exact hon
      · exact i3 i
    refine zr_iload (pc := 34)  rfl dX7_works_34 ?_
    refine zr_iload_n (pc := 36)  (i := 3) rfl rfl dX7_works_36 ?_
    refine zr_icmp_ge (pc := 37)  (tgt := 68) ⟨by omega, by omega⟩ ⟨by omega, by omega⟩ (by decide) dX7_works_37 (fun q37 => ?_) (fun q37 => ?_)
    · refine zr_aload_n (pc := 68)  (i := 0) rfl rfl dX7_works_68 ?_
      refine zr_get (pc := 69)  fl_X7_35 (by first | assumption | rfl | (repeat (first | assumption | exact zup_s | refine zup_g (by decide) ?_))) rfl dX7_works_69 ?_
      refine zv_call0 (pc := 72)  cv_X7_works_80 (by first | assumption | rfl | (repeat (first | assumption | exact zup_s | refine zup_g (by decide) ?_))) ⟨_, rfl, rfl⟩ (Nat.le_of_ble_eq_true rfl) (by decide) dX7_works_72 ?_
      refine k_X6_forget (by first | assumption | omega | (refine ⟨?_, ?_⟩ <;> omega) | rfl | (repeat (first | assumption | exact zup_s | refine zup_g (by decide) ?_))) ?_
      dsimp only [Option.toList, List.cons_append, List.nil_append]
      refine zr_iload (pc := 75)  rfl dX7_works_75 ?_
      refine zr_ireturn (pc := 77)  rfl (by decide) (by decide) dX7_works_77 ?_
      obtain rfl : m = b := by omega
      rw [← hT] at kk
      exact kk
    · refine zr_aload_n (pc := 40)  (i := 0) rfl rfl dX7_works_40 ?_
      refine zr_get (pc := 41)  fl_X7_26 (by first | assumption | rfl | (repeat (first | assumption | exact zup_s | refine zup_g (by decide) ?_))) rfl dX7_works_41 ?_
      refine zr_iload_n (pc := 44)  (i := 1) rfl rfl dX7_works_44 ?_
      refine zr_bipush (pc := 45)  (by decide) dX7_works_45 ?_
      refine zr_imul (pc := 47)  dX7_works_47 ?_
      refine zr_iload (pc := 48)  rfl dX7_works_48 ?_
      refine zr_iadd (pc := 50)  dX7_works_50 ?_
      refine zr_iload (pc := 51)  rfl dX7_works_51 ?_
      refine zv_call2 (pc := 53)  cv_X7_works_90 (by first | assumption | rfl | (repeat (first | assumption | exact zup_s | refine zup_g (by decide) ?_))) ⟨_, rfl, rfl⟩ (Nat.le_of_ble_eq_true rfl) (by decide) dX7_works_53 ?_
      refine k_X1_setApart g8 rfl hcl hon (by omega) ?_
      rw [ecl, zup_zup, clZ_s (by omega), Int.add_assoc]
      dsimp only [Option.toList, List.cons_append, List.nil_append]
      refine zb_eq (pc := 56) (tgt := 62) (by decide) dX7_works_56 (fun q56 => ?_) (fun q56 => ?_)
      · refine zs_iinc_6 (pc := 62)  (by first | exact zn_i | exact zn_r | exact zn_0) (by decide) dX7_works_62 ?_
        refine zr_goto (pc := 65)  (tgt := 34) (by decide) dX7_works_65 ?_
        first | exact ih (m + 1) _ (by omega) (by omega) (by omega) (by rw [es, ind_t q56]) | exact ih (m + 1) _ (by omega) (by omega) (by omega) (by rw [es, ind_f q56]; omega)
      · refine zs_iinc_5 (pc := 59)  (by first | exact zn_i | exact zn_r | exact zn_0) (by decide) dX7_works_59 ?_
        refine zs_iinc_6 (pc := 62)  (by first | exact zn_i | exact zn_r | exact zn_0) (by decide) dX7_works_62 ?_
        refine zr_goto (pc := 65)  (tgt := 34) (by decide) dX7_works_65 ?_
        first | exact ih (m + 1) _ (by omega) (by omega) (by omega) (by rw [es, ind_t q56]) | exact ih (m + 1) _ (by omega) (by omega) (by omega) (by rw [es, ind_f q56]; omega)
theorem k_X7_works {r a b on : Int} (hK : oK h now len tb rk rs rg gr num N bt bc bk be bn ap pl) (hr : iR r) (ha : iR a) (hb : iR b) (hon : on = 0 ∨ on = 1) (k1 : (((0 ≤ r ∧ r < 16) ∧ rk r = 1) ∧ 0 ≤ a) ∧ a ≤ b ∧ b ≤ 84 → ∀ h', oK h' now len tb rk rs rg gr num N bt bc bk be bn (clZ ap (r * 84 + a) (r * 84 + b) on) pl → (∀ j, 37 < j → h' j = h j) → Post (some (vi (sumZ (fun i => ind (ap (r * 84 + (a + i)) ≠ on)) (b - a).toNat))) n h') (k0 : ¬ ((((0 ≤ r ∧ r < 16) ∧ rk r = 1) ∧ 0 ≤ a) ∧ a ≤ b ∧ b ≤ 84) → Post (some (vi (-1))) n h) : zMP G mX7_works [.ref 0, vi r, vi a, vi b, vi on] n h Post := by
  have hK' := hK
  obtain ⟨⟨g0, g1, g2, g3, g4, g5, g6, g7, g8, g9, g10, g11, g12, g13, g14⟩, ⟨i1, i2, i3, i4, i5, i6, i7, i8, i9, i10⟩, ⟨g16, ssz, fnd, tm, wk, mo, to, po, wp, sd, sc, pr, sq, fl, db, yu, yl, ⟨v1, v2, v3, v4, v5, v6, v7, v8, v9, v10, v11, v12, v13⟩, ⟨w1, w2, w3, -⟩⟩, ⟨g30, ⟨dv, T, ex, pu, b1, b2, b3, b4, b5, b6, b7⟩, u, l, g37⟩⟩ := hK'
  refine zMP_of (by decide) [some _, some _, some _, some _, some _, none, none] (Nat.le_of_ble_eq_true rfl) rfl ?_
  refine zr_aload_n (pc := 0)  (i := 0) rfl rfl dX7_works_0 ?_
  refine zr_get (pc := 1)  fl_X7_19 (by first | assumption | rfl | (repeat (first | assumption | exact zup_s | refine zup_g (by decide) ?_))) rfl dX7_works_1 ?_
  refine zr_iload_n (pc := 4)  (i := 1) rfl rfl dX7_works_4 ?_
  refine zv_call1 (pc := 5)  cv_X7_works_73 (by first | assumption | rfl | (repeat (first | assumption | exact zup_s | refine zup_g (by decide) ?_))) ⟨_, rfl, rfl⟩ (Nat.le_of_ble_eq_true rfl) (by decide) dX7_works_5 ?_
  refine k_X3_has (by first | assumption | omega | (refine ⟨?_, ?_⟩ <;> omega) | rfl | (repeat (first | assumption | exact zup_s | refine zup_g (by decide) ?_))) (by first | assumption | omega | (refine ⟨?_, ?_⟩ <;> omega) | rfl | (repeat (first | assumption | exact zup_s | refine zup_g (by decide) ?_))) (by first | assumption | omega | (refine ⟨?_, ?_⟩ <;> omega) | rfl | (repeat (first | assumption | exact zup_s | refine zup_g (by decide) ?_))) (by first | assumption | omega | (refine ⟨?_, ?_⟩ <;> omega) | rfl | (repeat (first | assumption | exact zup_s | refine zup_g (by decide) ?_))) ?_
  dsimp only [Option.toList, List.cons_append, List.nil_append]
  refine zb_eq (pc := 8) (tgt := 26) (by decide) dX7_works_8 (fun q8 => ?_) (fun q8 => ?_)
  · refine zr_iconst (pc := 26)  dX7_works_26 ?_
    refine zr_ireturn (pc := 27)  rfl (by decide) (by decide) dX7_works_27 ?_
    exact k0 (by omega)
  · refine zr_iload_n (pc := 11)  (i := 2) rfl rfl dX7_works_11 ?_
    refine zr_if_lt (pc := 12)  (tgt := 26) ⟨by omega, by omega⟩ (by decide) dX7_works_12 (fun q12 => ?_) (fun q12 => ?_)
    · refine zr_iconst (pc := 26)  dX7_works_26 ?_
      refine zr_ireturn (pc := 27)  rfl (by decide) (by decide) dX7_works_27 ?_
      exact k0 (by omega)
    · refine zr_iload_n (pc := 15)  (i := 2) rfl rfl dX7_works_15 ?_
      refine zr_iload_n (pc := 16)  (i := 3) rfl rfl dX7_works_16 ?_
      refine zr_icmp_gt (pc := 17)  (tgt := 26) ⟨by omega, by omega⟩ ⟨by omega, by omega⟩ (by decide) dX7_works_17 (fun q17 => ?_) (fun q17 => ?_)
      · refine zr_iconst (pc := 26)  dX7_works_26 ?_
        refine zr_ireturn (pc := 27)  rfl (by decide) (by decide) dX7_works_27 ?_
        exact k0 (by omega)
      · refine zr_iload_n (pc := 20)  (i := 3) rfl rfl dX7_works_20 ?_
        refine zr_bipush (pc := 21)  (by decide) dX7_works_21 ?_
        refine zr_icmp_le (pc := 23)  (tgt := 28) ⟨by omega, by omega⟩ ⟨by omega, by omega⟩ (by decide) dX7_works_23 (fun q23 => ?_) (fun q23 => ?_)
        · refine zr_iconst (pc := 28)  dX7_works_28 ?_
          refine zs_istore_5 (pc := 29)  (by first | exact zn_i | exact zn_r | exact zn_0) (by decide) dX7_works_29 ?_
          refine zr_iload_n (pc := 31)  (i := 2) rfl rfl dX7_works_31 ?_
          refine zs_istore_6 (pc := 32)  (by first | exact zn_i | exact zn_r | exact zn_0) (by decide) dX7_works_32 ?_
          refine zr_heap (show h = zup h 14 (aZ 1344 (clZ ap (r * 84 + a) (r * 84 + a) on)) from by rw [clZ_0, zup_self g14]) ?_
          refine l_X7_works g0 g8 v1 i10.2.2.1 hon (by omega) (by omega) ?_ 84 a 0 (by omega) (by omega) (by omega) (by rw [show (a - a).toNat = 0 by omega]; rfl)
          refine k1 (by omega) _ ⟨⟨g0, g1, g2, g3, g4, g5, g6, g7, g8, g9, g10, g11, g12, g13, rfl⟩, ⟨i1, i2, i3, i4, i5, i6, i7, i8, i9, ⟨i10.1, i10.2.1, fun i => ?_, i10.2.2.2⟩⟩, ⟨g16, ssz, fnd, -1, wk, mo, to, po, wp, sd, sc, pr, sq, fl, db, yu, yl, ⟨rfl, v2, v3, v4, v5, v6, v7, v8, v9, v10, v11, v12, v13⟩, vwI_0 w2 w3⟩, ⟨g30, ⟨dv, T, ex, pu, b1, b2, b3, b4, b5, b6, b7⟩, u, l, g37⟩⟩ (fun j hj => by rw [zup_n (by omega), zup_n (by omega)])
          (unfold clZ; split; exact hon; exact i10.2.2.1 i)
        · refine zr_iconst (pc := 26)  dX7_works_26 ?_
          refine zr_ireturn (pc := 27)  rfl (by decide) (by decide) dX7_works_27 ?_
          exact k0 (by omega)
/-- what count reads off the tape -/
def ckZ (tb : Int → Int) : Int := tb 0 + tb 3 + (tb 1 + tb 4) + (tb 2 + tb 5) - tb 6
theorem k_X7_enterKinds {r d : Int} (hK : oK h now len tb rk rs rg gr num N bt bc bk be bn ap pl) (hr : iR r) (hd : iR d) (k1 : ((((0 ≤ r ∧ r < 16) ∧ rk r = 1) ∧ (0 ≤ d ∧ d < 84)) ∧ len = 7 ∧ N < 600) ∧ (0 ≤ ckZ tb ∧ ckZ tb ≤ 50) → Post (some (vi (ckZ tb))) n (hE h ((N : Int) + 1) (uZ bt N now) (uZ bc N (ckZ tb)) (k3 bk (N * 3) (tb 0 + tb 3) (tb 1 + tb 4) (tb 2 + tb 5)) (uZ be N (bn (r * 84 + d))) (uZ bn (r * 84 + d) N))) (k0 : ¬ (((((0 ≤ r ∧ r < 16) ∧ rk r = 1) ∧ (0 ≤ d ∧ d < 84)) ∧ len = 7 ∧ N < 600) ∧ (0 ≤ ckZ tb ∧ ckZ tb ≤ 50)) → Post (some (vi (-1))) n h) : zMP G mX7_enterKinds [.ref 0, vi r, vi d] n h Post := by
  have hK' := hK
  obtain ⟨⟨g0, g1, g2, g3, g4, g5, g6, g7, g8, g9, g10, g11, g12, g13, g14⟩, ⟨i1, i2, i3, i4, i5, i6, i7, i8, i9, i10⟩, ⟨g16, ssz, fnd, tm, wk, mo, to, po, wp, sd, sc, pr, sq, fl, db, yu, yl, ⟨v1, v2, v3, v4, v5, v6, v7, v8, v9, v10, v11, v12, v13⟩, ⟨w1, w2, w3, -⟩⟩, ⟨g30, ⟨dv, T, ex, pu, b1, b2, b3, b4, b5, b6, b7⟩, u, l, g37⟩⟩ := hK'
  have t0 := i3 0
  have t1 := i3 1
  have t2 := i3 2
  have t3 := i3 3
  have t4 := i3 4
  have t5 := i3 5
  have t6 := i3 6
  have hN : N ≤ 600 := i10.2.2.2.2
  have eck : ckZ tb = tb 0 + tb 3 + (tb 1 + tb 4) + (tb 2 + tb 5) - tb 6 := rfl
  refine zMP_of (by decide) [some _, some _, some _, none, none, none, none] (Nat.le_of_ble_eq_true rfl) rfl ?_
  refine zr_aload_n (pc := 0)  (i := 0) rfl rfl dX7_enterKinds_0 ?_
  refine zr_get (pc := 1)  fl_X7_19 (by first | assumption | rfl | (repeat (first | assumption | exact zup_s | refine zup_g (by decide) ?_))) rfl dX7_enterKinds_1 ?_
  refine zr_iload_n (pc := 4)  (i := 1) rfl rfl dX7_enterKinds_4 ?_
  refine zv_call1 (pc := 5)  cv_X7_enterKinds_73 (by first | assumption | rfl | (repeat (first | assumption | exact zup_s | refine zup_g (by decide) ?_))) ⟨_, rfl, rfl⟩ (Nat.le_of_ble_eq_true rfl) (by decide) dX7_enterKinds_5 ?_
  refine k_X3_has (by first | assumption | omega | (refine ⟨?_, ?_⟩ <;> omega) | rfl | (repeat (first | assumption | exact zup_s | refine zup_g (by decide) ?_))) (by first | assumption | omega | (refine ⟨?_, ?_⟩ <;> omega) | rfl | (repeat (first | assumption | exact zup_s | refine zup_g (by decide) ?_))) (by first | assumption | omega | (refine ⟨?_, ?_⟩ <;> omega) | rfl | (repeat (first | assumption | exact zup_s | refine zup_g (by decide) ?_))) (by first | assumption | omega | (refine ⟨?_, ?_⟩ <;> omega) | rfl | (repeat (first | assumption | exact zup_s | refine zup_g (by decide) ?_))) ?_
  dsimp only [Option.toList, List.cons_append, List.nil_append]
  refine zb_eq (pc := 8) (tgt := 20) (by decide) dX7_enterKinds_8 (fun q8 => ?_) (fun q8 => ?_)
  · refine zr_iconst (pc := 20)  dX7_enterKinds_20 ?_
    refine zr_ireturn (pc := 21)  rfl (by decide) (by decide) dX7_enterKinds_21 ?_
    exact k0 (by omega)
  · refine zr_iload_n (pc := 11)  (i := 2) rfl rfl dX7_enterKinds_11 ?_
    refine zr_bipush (pc := 12)  (by decide) dX7_enterKinds_12 ?_
    refine zc_call2 (pc := 14)  cs_X7_enterKinds_69 (Nat.le_of_ble_eq_true rfl) (by decide) dX7_enterKinds_14 ?_
    refine k_X7_isBelow (by first | assumption | omega | (refine ⟨?_, ?_⟩ <;> omega) | rfl | (repeat (first | assumption | exact zup_s | refine zup_g (by decide) ?_))) (by first | assumption | omega | (refine ⟨?_, ?_⟩ <;> omega) | rfl | (repeat (first | assumption | exact zup_s | refine zup_g (by decide) ?_))) ?_
    dsimp only [Option.toList, List.cons_append, List.nil_append]
    refine zb_ne (pc := 17) (tgt := 22) (by decide) dX7_enterKinds_17 (fun q17 => ?_) (fun q17 => ?_)
    · refine zr_aload_n (pc := 22)  (i := 0) rfl rfl dX7_enterKinds_22 ?_
      refine zr_get (pc := 23)  fl_X7_12 (by first | assumption | rfl | (repeat (first | assumption | exact zup_s | refine zup_g (by decide) ?_))) rfl dX7_enterKinds_23 ?_
      refine zv_call0 (pc := 26)  cv_X7_enterKinds_57 (by first | assumption | rfl | (repeat (first | assumption | exact zup_s | refine zup_g (by decide) ?_))) ⟨_, rfl, rfl⟩ (Nat.le_of_ble_eq_true rfl) (by decide) dX7_enterKinds_26 ?_
      refine k_X5_length (by first | assumption | omega | (refine ⟨?_, ?_⟩ <;> omega) | rfl | (repeat (first | assumption | exact zup_s | refine zup_g (by decide) ?_))) ?_
      dsimp only [Option.toList, List.cons_append, List.nil_append]
      refine zr_bipush (pc := 29)  (by decide) dX7_enterKinds_29 ?_
      refine zr_icmp_ne (pc := 31)  (tgt := 45) ⟨by omega, by omega⟩ ⟨by omega, by omega⟩ (by decide) dX7_enterKinds_31 (fun q31 => ?_) (fun q31 => ?_)
      · refine zr_iconst (pc := 45)  dX7_enterKinds_45 ?_
        refine zr_ireturn (pc := 46)  rfl (by decide) (by decide) dX7_enterKinds_46 ?_
        exact k0 (by omega)
      · refine zr_aload_n (pc := 34)  (i := 0) rfl rfl dX7_enterKinds_34 ?_
        refine zr_get (pc := 35)  fl_X7_26 (by first | assumption | rfl | (repeat (first | assumption | exact zup_s | refine zup_g (by decide) ?_))) rfl dX7_enterKinds_35 ?_
        refine zr_iconst (pc := 38)  dX7_enterKinds_38 ?_
        refine zv_call1 (pc := 39)  cv_X7_enterKinds_188 (by first | assumption | rfl | (repeat (first | assumption | exact zup_s | refine zup_g (by decide) ?_))) ⟨_, rfl, rfl⟩ (Nat.le_of_ble_eq_true rfl) (by decide) dX7_enterKinds_39 ?_
        refine k_X1_hasRoomFor (by first | assumption | omega | (refine ⟨?_, ?_⟩ <;> omega) | rfl | (repeat (first | assumption | exact zup_s | refine zup_g (by decide) ?_))) (by first | assumption | omega | (refine ⟨?_, ?_⟩ <;> omega) | rfl | (repeat (first | assumption | exact zup_s | refine zup_g (by decide) ?_))) (by first | assumption | omega | (refine ⟨?_, ?_⟩ <;> omega) | rfl | (repeat (first | assumption | exact zup_s | refine zup_g (by decide) ?_))) ?_
        dsimp only [Option.toList, List.cons_append, List.nil_append]
        refine zb_ne (pc := 42) (tgt := 47) (by decide) dX7_enterKinds_42 (fun q42 => ?_) (fun q42 => ?_)
        · refine zr_aload_n (pc := 47)  (i := 0) rfl rfl dX7_enterKinds_47 ?_
          refine zr_get (pc := 48)  fl_X7_12 (by first | assumption | rfl | (repeat (first | assumption | exact zup_s | refine zup_g (by decide) ?_))) rfl dX7_enterKinds_48 ?_
          refine zr_iconst (pc := 51)  dX7_enterKinds_51 ?_
          refine zv_call1 (pc := 52)  cv_X7_enterKinds_191 (by first | assumption | rfl | (repeat (first | assumption | exact zup_s | refine zup_g (by decide) ?_))) ⟨_, rfl, rfl⟩ (Nat.le_of_ble_eq_true rfl) (by decide) dX7_enterKinds_52 ?_
          refine k_X5_at g1 g2 i2 ⟨by omega, by omega⟩ ?_
          rw [if_pos (by omega)]
          dsimp only [Option.toList, List.cons_append, List.nil_append]
          refine zr_aload_n (pc := 55)  (i := 0) rfl rfl dX7_enterKinds_55 ?_
          refine zr_get (pc := 56)  fl_X7_12 (by first | assumption | rfl | (repeat (first | assumption | exact zup_s | refine zup_g (by decide) ?_))) rfl dX7_enterKinds_56 ?_
          refine zr_iconst (pc := 59)  dX7_enterKinds_59 ?_
          refine zv_call1 (pc := 60)  cv_X7_enterKinds_191 (by first | assumption | rfl | (repeat (first | assumption | exact zup_s | refine zup_g (by decide) ?_))) ⟨_, rfl, rfl⟩ (Nat.le_of_ble_eq_true rfl) (by decide) dX7_enterKinds_60 ?_
          refine k_X5_at g1 g2 i2 ⟨by omega, by omega⟩ ?_
          rw [if_pos (by omega)]
          dsimp only [Option.toList, List.cons_append, List.nil_append]
          refine zr_iadd (pc := 63)  dX7_enterKinds_63 ?_
          refine zs_istore_n_3 (pc := 64)  (by first | exact zn_i | exact zn_r | exact zn_0) (by decide) dX7_enterKinds_64 ?_
          refine zr_aload_n (pc := 65)  (i := 0) rfl rfl dX7_enterKinds_65 ?_
          refine zr_get (pc := 66)  fl_X7_12 (by first | assumption | rfl | (repeat (first | assumption | exact zup_s | refine zup_g (by decide) ?_))) rfl dX7_enterKinds_66 ?_
          refine zr_iconst (pc := 69)  dX7_enterKinds_69 ?_
          refine zv_call1 (pc := 70)  cv_X7_enterKinds_191 (by first | assumption | rfl | (repeat (first | assumption | exact zup_s | refine zup_g (by decide) ?_))) ⟨_, rfl, rfl⟩ (Nat.le_of_ble_eq_true rfl) (by decide) dX7_enterKinds_70 ?_
          refine k_X5_at g1 g2 i2 ⟨by omega, by omega⟩ ?_
          rw [if_pos (by omega)]
          dsimp only [Option.toList, List.cons_append, List.nil_append]
          refine zr_aload_n (pc := 73)  (i := 0) rfl rfl dX7_enterKinds_73 ?_
          refine zr_get (pc := 74)  fl_X7_12 (by first | assumption | rfl | (repeat (first | assumption | exact zup_s | refine zup_g (by decide) ?_))) rfl dX7_enterKinds_74 ?_
          refine zr_iconst (pc := 77)  dX7_enterKinds_77 ?_
          refine zv_call1 (pc := 78)  cv_X7_enterKinds_191 (by first | assumption | rfl | (repeat (first | assumption | exact zup_s | refine zup_g (by decide) ?_))) ⟨_, rfl, rfl⟩ (Nat.le_of_ble_eq_true rfl) (by decide) dX7_enterKinds_78 ?_
          refine k_X5_at g1 g2 i2 ⟨by omega, by omega⟩ ?_
          rw [if_pos (by omega)]
          dsimp only [Option.toList, List.cons_append, List.nil_append]
          refine zr_iadd (pc := 81)  dX7_enterKinds_81 ?_
          refine zs_istore_4 (pc := 82)  (by first | exact zn_i | exact zn_r | exact zn_0) (by decide) dX7_enterKinds_82 ?_
          refine zr_aload_n (pc := 84)  (i := 0) rfl rfl dX7_enterKinds_84 ?_
          refine zr_get (pc := 85)  fl_X7_12 (by first | assumption | rfl | (repeat (first | assumption | exact zup_s | refine zup_g (by decide) ?_))) rfl dX7_enterKinds_85 ?_
          refine zr_iconst (pc := 88)  dX7_enterKinds_88 ?_
          refine zv_call1 (pc := 89)  cv_X7_enterKinds_191 (by first | assumption | rfl | (repeat (first | assumption | exact zup_s | refine zup_g (by decide) ?_))) ⟨_, rfl, rfl⟩ (Nat.le_of_ble_eq_true rfl) (by decide) dX7_enterKinds_89 ?_
          refine k_X5_at g1 g2 i2 ⟨by omega, by omega⟩ ?_
          rw [if_pos (by omega)]
          dsimp only [Option.toList, List.cons_append, List.nil_append]
          refine zr_aload_n (pc := 92)  (i := 0) rfl rfl dX7_enterKinds_92 ?_
          refine zr_get (pc := 93)  fl_X7_12 (by first | assumption | rfl | (repeat (first | assumption | exact zup_s | refine zup_g (by decide) ?_))) rfl dX7_enterKinds_93 ?_
          refine zr_iconst (pc := 96)  dX7_enterKinds_96 ?_
          refine zv_call1 (pc := 97)  cv_X7_enterKinds_191 (by first | assumption | rfl | (repeat (first | assumption | exact zup_s | refine zup_g (by decide) ?_))) ⟨_, rfl, rfl⟩ (Nat.le_of_ble_eq_true rfl) (by decide) dX7_enterKinds_97 ?_
          refine k_X5_at g1 g2 i2 ⟨by omega, by omega⟩ ?_
          rw [if_pos (by omega)]
          dsimp only [Option.toList, List.cons_append, List.nil_append]
          refine zr_iadd (pc := 100)  dX7_enterKinds_100 ?_
          refine zs_istore_5 (pc := 101)  (by first | exact zn_i | exact zn_r | exact zn_0) (by decide) dX7_enterKinds_101 ?_
          refine zr_iload_n (pc := 103)  (i := 3) rfl rfl dX7_enterKinds_103 ?_
          refine zr_iload (pc := 104)  rfl dX7_enterKinds_104 ?_
          refine zr_iadd (pc := 106)  dX7_enterKinds_106 ?_
          refine zr_iload (pc := 107)  rfl dX7_enterKinds_107 ?_
          refine zr_iadd (pc := 109)  dX7_enterKinds_109 ?_
          refine zr_aload_n (pc := 110)  (i := 0) rfl rfl dX7_enterKinds_110 ?_
          refine zr_get (pc := 111)  fl_X7_12 (by first | assumption | rfl | (repeat (first | assumption | exact zup_s | refine zup_g (by decide) ?_))) rfl dX7_enterKinds_111 ?_
          refine zr_bipush (pc := 114)  (by decide) dX7_enterKinds_114 ?_
          refine zv_call1 (pc := 116)  cv_X7_enterKinds_191 (by first | assumption | rfl | (repeat (first | assumption | exact zup_s | refine zup_g (by decide) ?_))) ⟨_, rfl, rfl⟩ (Nat.le_of_ble_eq_true rfl) (by decide) dX7_enterKinds_116 ?_
          refine k_X5_at g1 g2 i2 ⟨by omega, by omega⟩ ?_
          rw [if_pos (by omega)]
          dsimp only [Option.toList, List.cons_append, List.nil_append]
          refine zr_isub (pc := 119)  dX7_enterKinds_119 ?_
          refine zs_istore_6 (pc := 120)  (by first | exact zn_i | exact zn_r | exact zn_0) (by decide) dX7_enterKinds_120 ?_
          refine zr_iload (pc := 122)  rfl dX7_enterKinds_122 ?_
          refine zr_if_lt (pc := 124)  (tgt := 134) ⟨by omega, by omega⟩ (by decide) dX7_enterKinds_124 (fun q124 => ?_) (fun q124 => ?_)
          · refine zr_iconst (pc := 134)  dX7_enterKinds_134 ?_
            refine zr_ireturn (pc := 135)  rfl (by decide) (by decide) dX7_enterKinds_135 ?_
            exact k0 (by omega)
          · refine zr_iload (pc := 127)  rfl dX7_enterKinds_127 ?_
            refine zr_bipush (pc := 129)  (by decide) dX7_enterKinds_129 ?_
            refine zr_icmp_le (pc := 131)  (tgt := 136) ⟨by omega, by omega⟩ ⟨by omega, by omega⟩ (by decide) dX7_enterKinds_131 (fun q131 => ?_) (fun q131 => ?_)
            · refine zr_aload_n (pc := 136)  (i := 0) rfl rfl dX7_enterKinds_136 ?_
              refine zr_get (pc := 137)  fl_X7_26 (by first | assumption | rfl | (repeat (first | assumption | exact zup_s | refine zup_g (by decide) ?_))) rfl dX7_enterKinds_137 ?_
              refine zr_iload_n (pc := 140)  (i := 1) rfl rfl dX7_enterKinds_140 ?_
              refine zr_bipush (pc := 141)  (by decide) dX7_enterKinds_141 ?_
              refine zr_imul (pc := 143)  dX7_enterKinds_143 ?_
              refine zr_iload_n (pc := 144)  (i := 2) rfl rfl dX7_enterKinds_144 ?_
              refine zr_iadd (pc := 145)  dX7_enterKinds_145 ?_
              refine zr_aload_n (pc := 146)  (i := 0) rfl rfl dX7_enterKinds_146 ?_
              refine zr_get (pc := 147)  fl_X7_53 (by first | assumption | rfl | (repeat (first | assumption | exact zup_s | refine zup_g (by decide) ?_))) rfl dX7_enterKinds_147 ?_
              refine zr_iload (pc := 150)  rfl dX7_enterKinds_150 ?_
              refine zv_call3 (pc := 152)  cv_X7_enterKinds_194 (by first | assumption | rfl | (repeat (first | assumption | exact zup_s | refine zup_g (by decide) ?_))) ⟨_, rfl, rfl⟩ (Nat.le_of_ble_eq_true rfl) (by decide) dX7_enterKinds_152 ?_
              refine k_X1_enter g8 g9 g10 g12 g13 (by omega) (by omega) ?_
              dsimp only [Option.toList, List.cons_append, List.nil_append]
              refine zr_aload_n (pc := 155)  (i := 0) rfl rfl dX7_enterKinds_155 ?_
              refine zr_get (pc := 156)  fl_X7_26 (by first | assumption | rfl | (repeat (first | assumption | exact zup_s | refine zup_g (by decide) ?_))) rfl dX7_enterKinds_156 ?_
              refine zr_iload_n (pc := 159)  (i := 3) rfl rfl dX7_enterKinds_159 ?_
              refine zr_iload (pc := 160)  rfl dX7_enterKinds_160 ?_
              refine zr_iload (pc := 162)  rfl dX7_enterKinds_162 ?_
              refine zv_call3 (pc := 164)  cv_X7_enterKinds_198 (by first | assumption | rfl | (repeat (first | assumption | exact zup_s | refine zup_g (by decide) ?_))) ⟨_, rfl, rfl⟩ (Nat.le_of_ble_eq_true rfl) (by decide) dX7_enterKinds_164 ?_
              refine k_X1_tellKinds rfl g11 (by omega) ?_
              rw [show ((N : Int) + 1 - 1) * 3 = (N : Int) * 3 by omega]
              dsimp only [Option.toList, List.cons_append, List.nil_append]
              refine zr_iload (pc := 167)  rfl dX7_enterKinds_167 ?_
              refine zr_ireturn (pc := 169)  rfl (by decide) (by decide) dX7_enterKinds_169 ?_
              exact k1 (by omega)
            · refine zr_iconst (pc := 134)  dX7_enterKinds_134 ?_
              refine zr_ireturn (pc := 135)  rfl (by decide) (by decide) dX7_enterKinds_135 ?_
              exact k0 (by omega)
        · refine zr_iconst (pc := 45)  dX7_enterKinds_45 ?_
          refine zr_ireturn (pc := 46)  rfl (by decide) (by decide) dX7_enterKinds_46 ?_
          exact k0 (by omega)
    · refine zr_iconst (pc := 20)  dX7_enterKinds_20 ?_
      refine zr_ireturn (pc := 21)  rfl (by decide) (by decide) dX7_enterKinds_21 ?_
      exact k0 (by omega)
theorem k_X7_count {r d : Int} (hK : oK h now len tb rk rs rg gr num N bt bc bk be bn ap pl) (hr : iR r) (hd : iR d) (k1 : ((((0 ≤ r ∧ r < 16) ∧ rk r = 1) ∧ (0 ≤ d ∧ d < 84)) ∧ len = 7 ∧ N < 600) ∧ (0 ≤ ckZ tb ∧ ckZ tb ≤ 50) → ∀ h', oK h' now 0 tb rk rs rg gr num (N + 1) (uZ bt N now) (uZ bc N (ckZ tb)) (k3 bk (N * 3) (tb 0 + tb 3) (tb 1 + tb 4) (tb 2 + tb 5)) (uZ be N (bn (r * 84 + d))) (uZ bn (r * 84 + d) N) ap (uZ pl N (r * 84 + d)) → (∀ j, 37 < j → h' j = h j) → Post (some (vi (ckZ tb))) n h') (k0 : ¬ (((((0 ≤ r ∧ r < 16) ∧ rk r = 1) ∧ (0 ≤ d ∧ d < 84)) ∧ len = 7 ∧ N < 600) ∧ (0 ≤ ckZ tb ∧ ckZ tb ≤ 50)) → ∀ h', oK h' now 0 tb rk rs rg gr num N bt bc bk be bn ap pl → (∀ j, 37 < j → h' j = h j) → Post (some (vi (-1))) n h') : zMP G mX7_count [.ref 0, vi r, vi d] n h Post := by
  have hK' := hK
  obtain ⟨⟨g0, g1, g2, g3, g4, g5, g6, g7, g8, g9, g10, g11, g12, g13, g14⟩, ⟨i1, i2, i3, i4, i5, i6, i7, i8, i9, i10⟩, ⟨g16, ssz, fnd, tm, wk, mo, to, po, wp, sd, sc, pr, sq, fl, db, yu, yl, ⟨v1, v2, v3, v4, v5, v6, v7, v8, v9, v10, v11, v12, v13⟩, ⟨w1, w2, w3, -⟩⟩, ⟨g30, ⟨dv, T, ex, pu, b1, b2, b3, b4, b5, b6, b7⟩, u, l, g37⟩⟩ := hK'
  refine zMP_of (by decide) [some _, some _, some _, none] (Nat.le_of_ble_eq_true rfl) rfl ?_
  refine zr_aload_n (pc := 0)  (i := 0) rfl rfl dX7_count_0 ?_
  refine zr_iload_n (pc := 1)  (i := 1) rfl rfl dX7_count_1 ?_
  refine zr_iload_n (pc := 2)  (i := 2) rfl rfl dX7_count_2 ?_
  refine zv_call2 (pc := 3)  cv_X7_count_83 (by first | assumption | rfl | (repeat (first | assumption | exact zup_s | refine zup_g (by decide) ?_))) ⟨_, rfl, rfl⟩ (Nat.le_of_ble_eq_true rfl) (by decide) dX7_count_3 ?_
  refine k_X7_enterKinds hK hr hd (fun q => ?_) (fun q => ?_)
  · dsimp only [Option.toList, List.cons_append, List.nil_append]
    refine zs_istore_n_3 (pc := 6)  (by first | exact zn_i | exact zn_r | exact zn_0) (by decide) dX7_count_6 ?_
    refine zr_aload_n (pc := 7)  (i := 0) rfl rfl dX7_count_7 ?_
    refine zr_get (pc := 8)  fl_X7_12 (by first | assumption | rfl | (repeat (first | assumption | exact zup_s | refine zup_g (by decide) ?_))) rfl dX7_count_8 ?_
    refine zr_iconst (pc := 11)  dX7_count_11 ?_
    refine zv_call1 (pc := 12)  cv_X7_count_65 (by first | assumption | rfl | (repeat (first | assumption | exact zup_s | refine zup_g (by decide) ?_))) ⟨_, rfl, rfl⟩ (Nat.le_of_ble_eq_true rfl) (by decide) dX7_count_12 ?_
    refine k_X5_cut g1 i2 ⟨by omega, by omega⟩ (fun _ => ?_) (fun z => absurd z (by omega))
    dsimp only [Option.toList, List.cons_append, List.nil_append]
    refine zr_pop (pc := 15)  rfl dX7_count_15 ?_
    refine zr_aload_n (pc := 16)  (i := 0) rfl rfl dX7_count_16 ?_
    refine zr_get (pc := 17)  fl_X7_35 (by first | assumption | rfl | (repeat (first | assumption | exact zup_s | refine zup_g (by decide) ?_))) rfl dX7_count_17 ?_
    refine zv_call0 (pc := 20)  cv_X7_count_80 (by first | assumption | rfl | (repeat (first | assumption | exact zup_s | refine zup_g (by decide) ?_))) ⟨_, rfl, rfl⟩ (Nat.le_of_ble_eq_true rfl) (by decide) dX7_count_20 ?_
    refine k_X6_forget v1 ?_
    dsimp only [Option.toList, List.cons_append, List.nil_append]
    refine zr_iload_n (pc := 23)  (i := 3) rfl rfl dX7_count_23 ?_
    refine zr_ireturn (pc := 24)  rfl (by decide) (by decide) dX7_count_24 ?_
    refine k1 q _ ⟨⟨g0, rfl, g2, g3, g4, g5, g6, g7, rfl, rfl, rfl, rfl, rfl, rfl, g14⟩, ⟨i1, by omega, i3, i4, i5, i6, i7, i8, i9, bkI_enter i10 (by omega) (by omega) i1 (by omega)⟩, ⟨g16, ssz, fnd, -1, wk, mo, to, po, wp, sd, sc, pr, sq, fl, db, yu, yl, ⟨rfl, v2, v3, v4, v5, v6, v7, v8, v9, v10, v11, v12, v13⟩, vwI_0 w2 w3⟩, ⟨g30, ⟨dv, T, ex, pu, b1, b2, b3, b4, b5, b6, b7⟩, u, l, g37⟩⟩ (fun j hj => by rw [zup_n (by omega), zup_n (by omega), hE_out (by omega)])
  · dsimp only [Option.toList, List.cons_append, List.nil_append]
    refine zs_istore_n_3 (pc := 6)  (by first | exact zn_i | exact zn_r | exact zn_0) (by decide) dX7_count_6 ?_
    refine zr_aload_n (pc := 7)  (i := 0) rfl rfl dX7_count_7 ?_
    refine zr_get (pc := 8)  fl_X7_12 (by first | assumption | rfl | (repeat (first | assumption | exact zup_s | refine zup_g (by decide) ?_))) rfl dX7_count_8 ?_
    refine zr_iconst (pc := 11)  dX7_count_11 ?_
    refine zv_call1 (pc := 12)  cv_X7_count_65 (by first | assumption | rfl | (repeat (first | assumption | exact zup_s | refine zup_g (by decide) ?_))) ⟨_, rfl, rfl⟩ (Nat.le_of_ble_eq_true rfl) (by decide) dX7_count_12 ?_
    refine k_X5_cut g1 i2 ⟨by omega, by omega⟩ (fun _ => ?_) (fun z => absurd z (by omega))
    dsimp only [Option.toList, List.cons_append, List.nil_append]
    refine zr_pop (pc := 15)  rfl dX7_count_15 ?_
    refine zr_aload_n (pc := 16)  (i := 0) rfl rfl dX7_count_16 ?_
    refine zr_get (pc := 17)  fl_X7_35 (by first | assumption | rfl | (repeat (first | assumption | exact zup_s | refine zup_g (by decide) ?_))) rfl dX7_count_17 ?_
    refine zv_call0 (pc := 20)  cv_X7_count_80 (by first | assumption | rfl | (repeat (first | assumption | exact zup_s | refine zup_g (by decide) ?_))) ⟨_, rfl, rfl⟩ (Nat.le_of_ble_eq_true rfl) (by decide) dX7_count_20 ?_
    refine k_X6_forget v1 ?_
    dsimp only [Option.toList, List.cons_append, List.nil_append]
    refine zr_iload_n (pc := 23)  (i := 3) rfl rfl dX7_count_23 ?_
    refine zr_ireturn (pc := 24)  rfl (by decide) (by decide) dX7_count_24 ?_
    refine k0 q _ ⟨⟨g0, rfl, g2, g3, g4, g5, g6, g7, g8, g9, g10, g11, g12, g13, g14⟩, ⟨i1, by omega, i3, i4, i5, i6, i7, i8, i9, i10⟩, ⟨g16, ssz, fnd, -1, wk, mo, to, po, wp, sd, sc, pr, sq, fl, db, yu, yl, ⟨rfl, v2, v3, v4, v5, v6, v7, v8, v9, v10, v11, v12, v13⟩, vwI_0 w2 w3⟩, ⟨g30, ⟨dv, T, ex, pu, b1, b2, b3, b4, b5, b6, b7⟩, u, l, g37⟩⟩ (fun j hj => by rw [zup_n (by omega), zup_n (by omega)])
end OFF
