/-- a byte of the tape as a count, as a number of a kind -/
def cvZ (b : Int) : Int := if b = 255 then -1 else b
def kvZ (b : Int) : Int := if b = 255 then 0 else b
def kfZ (tb : Int → Int) : Int → Int := fun j => if j % 3 = 0 then kvZ (tb (j / 3)) else 0
theorem seg_k3 {bk tb : Int → Int} {N m v : Int} (hm : 0 ≤ m) (hv : v = kvZ (tb m)) : k3 (seg bk (N * 3) (m * 3) (kfZ tb)) ((N + m) * 3) v 0 0 = seg bk (N * 3) ((m + 1) * 3) (kfZ tb) := by
  unfold k3
  rw [show (N + m) * 3 = N * 3 + m * 3 by omega, seg_s (by omega) (show v = kfZ tb (m * 3) from by unfold kfZ; rw [if_pos (by omega), show m * 3 / 3 = m by omega, hv]), Int.add_assoc, seg_s (by omega) (show (0 : Int) = kfZ tb (m * 3 + 1) from by unfold kfZ; rw [if_neg (by omega)]), show N * 3 + m * 3 + 2 = N * 3 + (m * 3 + 1 + 1) by omega, seg_s (by omega) (show (0 : Int) = kfZ tb (m * 3 + 1 + 1) from by unfold kfZ; rw [if_neg (by omega)])]
  congr 1
  omega
section OFF
variable {G : zG} {n : Nat} {h : zH} {Post : Option Value → Nat → zH → Prop} {now len num : Int} {tb rk rs rg gr bt bc bk be bn ap pl : Int → Int} {N : Nat}
theorem l_X7_enterRow {r d : Int} (g0 : h 0 = some (oOff now)) (g1 : h 1 = some (oTape len)) (g2 : h 2 = some (aI 200 tb)) (i1 : 0 ≤ now ∧ now ≤ 99) (i2 : 0 ≤ len ∧ len ≤ 200) (i3 : ∀ i, 0 ≤ tb i ∧ tb i ≤ 255) (hall : ∀ i, 0 ≤ i → i < len → tb i ≤ 50 ∨ tb i = 255) (hr : 0 ≤ r ∧ r < 16) (hd : 0 ≤ d ∧ d + len ≤ 84) (hN : (N : Int) + len ≤ 600) (kk : ∀ be2 bn2 : Int → Int, bkI (N + len.toNat) (seg bt N len (fun _ => now)) (seg bc N len (fun i => cvZ (tb i))) be2 bn2 ap (seg pl N len (fun i => r * 84 + d + i)) → Post (some (vi len)) n (hE h ((N : Int) + len) (seg bt N len (fun _ => now)) (seg bc N len (fun i => cvZ (tb i))) (seg bk (N * 3) (len * 3) (kfZ tb)) be2 bn2)) : ∀ (k m : Nat) (be2 bn2 : Int → Int) (x5 x6 : Option Value), len - m ≤ k → (m : Int) ≤ len → bkI (N + m) (seg bt N m (fun _ => now)) (seg bc N m (fun i => cvZ (tb i))) be2 bn2 ap (seg pl N m (fun i => r * 84 + d + i)) → zAW G mX7_enterRow zTT (zF G mX7_enterRow Post) 59 [some (.ref 0), some (vi r), some (vi d), some (vi len), some (vi m), x5, x6] [] n (hE h ((N : Int) + m) (seg bt N m (fun _ => now)) (seg bc N m (fun i => cvZ (tb i))) (seg bk (N * 3) (m * 3) (kfZ tb)) be2 bn2) 0 0 := by
  have fin : ∀ (m : Nat) (be2 bn2 : Int → Int), (m : Int) = len → bkI (N + m) (seg bt N m (fun _ => now)) (seg bc N m (fun i => cvZ (tb i))) be2 bn2 ap (seg pl N m (fun i => r * 84 + d + i)) → Post (some (vi len)) n (hE h ((N : Int) + m) (seg bt N m (fun _ => now)) (seg bc N m (fun i => cvZ (tb i))) (seg bk (N * 3) (m * 3) (kfZ tb)) be2 bn2) := fun m be2 bn2 e hb => by
    rw [e] at hb ⊢
    exact kk be2 bn2 (by rw [show len.toNat = m by omega]; exact hb)
  intro k
  induction k with
  | zero =>
    intro m be2 bn2 x5 x6 hk hm hb
    refine zr_iload (pc := 59)  rfl dX7_enterRow_59 ?_
    refine zr_iload_n (pc := 61)  (i := 3) rfl rfl dX7_enterRow_61 ?_
    refine zr_icmp_ge (pc := 62)  (tgt := 148) ⟨by omega, by omega⟩ ⟨by omega, by omega⟩ (by decide) dX7_enterRow_62 (fun q62 => ?_) (fun q62 => ?_)
    · refine zr_iload_n (pc := 148)  (i := 3) rfl rfl dX7_enterRow_148 ?_
      refine zr_ireturn (pc := 149)  rfl (by decide) (by decide) dX7_enterRow_149 ?_
      exact fin m be2 bn2 (by omega) hb
    · exact absurd q62 (by omega)
  | succ k ih =>
    intro m be2 bn2 x5 x6 hk hm hb
    have ht := i3 m
    have step : (m : Int) < len → ∀ (x5 x6 : Option Value), zAW G mX7_enterRow zTT (zF G mX7_enterRow Post) 59 [some (.ref 0), some (vi r), some (vi d), some (vi len), some (vi ((m : Int) + 1)), x5, x6] [] n (hE h ((N : Int) + m + 1) (uZ (seg bt N m (fun _ => now)) ((N : Int) + m) now) (uZ (seg bc N m (fun i => cvZ (tb i))) ((N : Int) + m) (cvZ (tb m))) (k3 (seg bk (N * 3) (m * 3) (kfZ tb)) (((N : Int) + m) * 3) (kvZ (tb m)) 0 0) (uZ be2 ((N : Int) + m) (bn2 (r * 84 + d + m))) (uZ bn2 (r * 84 + d + m) ((N : Int) + m))) 0 0 := fun hml x5 x6 => by
      have hcv : -1 ≤ cvZ (tb m) ∧ cvZ (tb m) ≤ 50 := by
        have := hall m (by omega) hml
        unfold cvZ; split <;> omega
      have hb2 := bkI_enter hb (by omega) (p := r * 84 + d + m) (by omega) i1 hcv
      rw [show ((N + m : Nat) : Int) = (N : Int) + m by omega] at hb2
      rw [seg_s (by omega) rfl, seg_s (by omega) rfl, seg_s (by omega) rfl] at hb2
      rw [seg_s (by omega) rfl, seg_s (by omega) rfl, seg_k3 (by omega) rfl]
      have L := ih (m + 1) _ _ x5 x6 (by omega) (by omega) hb2
      rw [show ((m + 1 : Nat) : Int) = (m : Int) + 1 by omega, ← Int.add_assoc] at L
      exact L
    refine zr_iload (pc := 59)  rfl dX7_enterRow_59 ?_
    refine zr_iload_n (pc := 61)  (i := 3) rfl rfl dX7_enterRow_61 ?_
    refine zr_icmp_ge (pc := 62)  (tgt := 148) ⟨by omega, by omega⟩ ⟨by omega, by omega⟩ (by decide) dX7_enterRow_62 (fun q62 => ?_) (fun q62 => ?_)
    · refine zr_iload_n (pc := 148)  (i := 3) rfl rfl dX7_enterRow_148 ?_
      refine zr_ireturn (pc := 149)  rfl (by decide) (by decide) dX7_enterRow_149 ?_
      exact fin m be2 bn2 (by omega) hb
    · refine zr_aload_n (pc := 65)  (i := 0) rfl rfl dX7_enterRow_65 ?_
      refine zr_get (pc := 66)  fl_X7_12 (by first | assumption | rfl | (repeat (first | assumption | exact zup_s | refine zup_g (by decide) ?_))) rfl dX7_enterRow_66 ?_
      refine zr_iload (pc := 69)  rfl dX7_enterRow_69 ?_
      refine zv_call1 (pc := 71)  cv_X7_enterRow_191 (by first | assumption | rfl | (repeat (first | assumption | exact zup_s | refine zup_g (by decide) ?_))) ⟨_, rfl, rfl⟩ (Nat.le_of_ble_eq_true rfl) (by decide) dX7_enterRow_71 ?_
      refine k_X5_at g1 g2 i2 ⟨by omega, by omega⟩ ?_
      rw [if_pos (by omega)]
      dsimp only [Option.toList, List.cons_append, List.nil_append]
      have hml : (m : Int) < len := by omega
      refine zs_istore_5 (pc := 74)  (by first | exact zn_i | exact zn_r | exact zn_0) (by decide) dX7_enterRow_74 ?_
      refine zr_iload (pc := 76)  rfl dX7_enterRow_76 ?_
      refine zr_sipush (pc := 78)  (by decide) dX7_enterRow_78 ?_
      refine zr_icmp_eq (pc := 81)  (tgt := 88) ⟨by omega, by omega⟩ ⟨by omega, by omega⟩ (by decide) dX7_enterRow_81 (fun q81 => ?_) (fun q81 => ?_)
      · have e1 : cvZ (tb m) = -1 := if_pos q81
        have e2 : kvZ (tb m) = 0 := if_pos q81
        have st := step hml
        rw [e1, e2] at st
        refine zr_iconst (pc := 88)  dX7_enterRow_88 ?_
        refine zs_istore_6 (pc := 89)  (by first | exact zn_i | exact zn_r | exact zn_0) (by decide) dX7_enterRow_89 ?_
        refine zr_aload_n (pc := 91)  (i := 0) rfl rfl dX7_enterRow_91 ?_
        refine zr_get (pc := 92)  fl_X7_26 (by first | assumption | rfl | (repeat (first | assumption | exact zup_s | refine zup_g (by decide) ?_))) rfl dX7_enterRow_92 ?_
        refine zr_iload_n (pc := 95)  (i := 1) rfl rfl dX7_enterRow_95 ?_
        refine zr_bipush (pc := 96)  (by decide) dX7_enterRow_96 ?_
        refine zr_imul (pc := 98)  dX7_enterRow_98 ?_
        refine zr_iload_n (pc := 99)  (i := 2) rfl rfl dX7_enterRow_99 ?_
        refine zr_iadd (pc := 100)  dX7_enterRow_100 ?_
        refine zr_iload (pc := 101)  rfl dX7_enterRow_101 ?_
        refine zr_iadd (pc := 103)  dX7_enterRow_103 ?_
        refine zr_aload_n (pc := 104)  (i := 0) rfl rfl dX7_enterRow_104 ?_
        refine zr_get (pc := 105)  fl_X7_53 (by first | assumption | rfl | (repeat (first | assumption | exact zup_s | refine zup_g (by decide) ?_))) rfl dX7_enterRow_105 ?_
        refine zr_iload (pc := 108)  rfl dX7_enterRow_108 ?_
        refine zr_if_eq (pc := 110)  (tgt := 118) ⟨by omega, by omega⟩ (by decide) dX7_enterRow_110 (fun q110 => ?_) (fun q110 => ?_)
        rotate_left
        · exact absurd rfl q110
        refine zr_iconst (pc := 118)  dX7_enterRow_118 ?_
        refine zv_call3 (pc := 119)  cv_X7_enterRow_194 (by first | assumption | rfl | (repeat (first | assumption | exact zup_s | refine zup_g (by decide) ?_))) ⟨_, rfl, rfl⟩ (Nat.le_of_ble_eq_true rfl) (by decide) dX7_enterRow_119 ?_
        refine k_X1_enter rfl rfl rfl rfl rfl (by omega) (by omega) ?_
        dsimp only [Option.toList, List.cons_append, List.nil_append]
        refine zr_aload_n (pc := 122)  (i := 0) rfl rfl dX7_enterRow_122 ?_
        refine zr_get (pc := 123)  fl_X7_26 (by first | assumption | rfl | (repeat (first | assumption | exact zup_s | refine zup_g (by decide) ?_))) rfl dX7_enterRow_123 ?_
        refine zr_iload (pc := 126)  rfl dX7_enterRow_126 ?_
        refine zr_if_eq (pc := 128)  (tgt := 136) ⟨by omega, by omega⟩ (by decide) dX7_enterRow_128 (fun q128 => ?_) (fun q128 => ?_)
        rotate_left
        · exact absurd rfl q128
        refine zr_iconst (pc := 136)  dX7_enterRow_136 ?_
        refine zr_iconst (pc := 137)  dX7_enterRow_137 ?_
        refine zr_iconst (pc := 138)  dX7_enterRow_138 ?_
        refine zv_call3 (pc := 139)  cv_X7_enterRow_198 (by first | assumption | rfl | (repeat (first | assumption | exact zup_s | refine zup_g (by decide) ?_))) ⟨_, rfl, rfl⟩ (Nat.le_of_ble_eq_true rfl) (by decide) dX7_enterRow_139 ?_
        refine k_X1_tellKinds rfl rfl (by omega) ?_
        dsimp only [Option.toList, List.cons_append, List.nil_append]
        rw [show ((N : Int) + m + 1 - 1) * 3 = ((N : Int) + m) * 3 by omega]
        refine zs_iinc_4 (pc := 142)  (by first | exact zn_i | exact zn_r | exact zn_0) (by decide) dX7_enterRow_142 ?_
        refine zr_goto (pc := 145)  (tgt := 59) (by decide) dX7_enterRow_145 ?_
        refine zr_heap (show _ = hE (hE h ((N : Int) + m) (seg bt N m (fun _ => now)) (seg bc N m (fun i => cvZ (tb i))) (seg bk (N * 3) (m * 3) (kfZ tb)) be2 bn2) ((N : Int) + m + 1) (uZ (seg bt N m (fun _ => now)) ((N : Int) + m) now) (uZ (seg bc N m (fun i => cvZ (tb i))) ((N : Int) + m) (-1)) (k3 (seg bk (N * 3) (m * 3) (kfZ tb)) (((N : Int) + m) * 3) 0 0 0) (uZ be2 ((N : Int) + m) (bn2 (r * 84 + d + m))) (uZ bn2 (r * 84 + d + m) ((N : Int) + m)) from rfl) ?_
        rw [hE_hE]
        exact st _ _
      · have e1 : cvZ (tb m) = tb m := if_neg q81
        have e2 : kvZ (tb m) = tb m := if_neg q81
        have st := step hml
        rw [e1, e2] at st
        refine zr_iconst (pc := 84)  dX7_enterRow_84 ?_
        refine zr_goto (pc := 85)  (tgt := 89) (by decide) dX7_enterRow_85 ?_
        refine zs_istore_6 (pc := 89)  (by first | exact zn_i | exact zn_r | exact zn_0) (by decide) dX7_enterRow_89 ?_
        refine zr_aload_n (pc := 91)  (i := 0) rfl rfl dX7_enterRow_91 ?_
        refine zr_get (pc := 92)  fl_X7_26 (by first | assumption | rfl | (repeat (first | assumption | exact zup_s | refine zup_g (by decide) ?_))) rfl dX7_enterRow_92 ?_
        refine zr_iload_n (pc := 95)  (i := 1) rfl rfl dX7_enterRow_95 ?_
        refine zr_bipush (pc := 96)  (by decide) dX7_enterRow_96 ?_
        refine zr_imul (pc := 98)  dX7_enterRow_98 ?_
        refine zr_iload_n (pc := 99)  (i := 2) rfl rfl dX7_enterRow_99 ?_
        refine zr_iadd (pc := 100)  dX7_enterRow_100 ?_
        refine zr_iload (pc := 101)  rfl dX7_enterRow_101 ?_
        refine zr_iadd (pc := 103)  dX7_enterRow_103 ?_
        refine zr_aload_n (pc := 104)  (i := 0) rfl rfl dX7_enterRow_104 ?_
        refine zr_get (pc := 105)  fl_X7_53 (by first | assumption | rfl | (repeat (first | assumption | exact zup_s | refine zup_g (by decide) ?_))) rfl dX7_enterRow_105 ?_
        refine zr_iload (pc := 108)  rfl dX7_enterRow_108 ?_
        refine zr_if_eq (pc := 110)  (tgt := 118) ⟨by omega, by omega⟩ (by decide) dX7_enterRow_110 (fun q110 => ?_) (fun q110 => ?_)
        · exact absurd q110 (by omega)
        refine zr_iload (pc := 113)  rfl dX7_enterRow_113 ?_
        refine zr_goto (pc := 115)  (tgt := 119) (by decide) dX7_enterRow_115 ?_
        refine zv_call3 (pc := 119)  cv_X7_enterRow_194 (by first | assumption | rfl | (repeat (first | assumption | exact zup_s | refine zup_g (by decide) ?_))) ⟨_, rfl, rfl⟩ (Nat.le_of_ble_eq_true rfl) (by decide) dX7_enterRow_119 ?_
        refine k_X1_enter rfl rfl rfl rfl rfl (by omega) (by omega) ?_
        dsimp only [Option.toList, List.cons_append, List.nil_append]
        refine zr_aload_n (pc := 122)  (i := 0) rfl rfl dX7_enterRow_122 ?_
        refine zr_get (pc := 123)  fl_X7_26 (by first | assumption | rfl | (repeat (first | assumption | exact zup_s | refine zup_g (by decide) ?_))) rfl dX7_enterRow_123 ?_
        refine zr_iload (pc := 126)  rfl dX7_enterRow_126 ?_
        refine zr_if_eq (pc := 128)  (tgt := 136) ⟨by omega, by omega⟩ (by decide) dX7_enterRow_128 (fun q128 => ?_) (fun q128 => ?_)
        · exact absurd q128 (by omega)
        refine zr_iload (pc := 131)  rfl dX7_enterRow_131 ?_
        refine zr_goto (pc := 133)  (tgt := 137) (by decide) dX7_enterRow_133 ?_
        refine zr_iconst (pc := 137)  dX7_enterRow_137 ?_
        refine zr_iconst (pc := 138)  dX7_enterRow_138 ?_
        refine zv_call3 (pc := 139)  cv_X7_enterRow_198 (by first | assumption | rfl | (repeat (first | assumption | exact zup_s | refine zup_g (by decide) ?_))) ⟨_, rfl, rfl⟩ (Nat.le_of_ble_eq_true rfl) (by decide) dX7_enterRow_139 ?_
        refine k_X1_tellKinds rfl rfl (by omega) ?_
        dsimp only [Option.toList, List.cons_append, List.nil_append]
        rw [show ((N : Int) + m + 1 - 1) * 3 = ((N : Int) + m) * 3 by omega]
        refine zs_iinc_4 (pc := 142)  (by first | exact zn_i | exact zn_r | exact zn_0) (by decide) dX7_enterRow_142 ?_
        refine zr_goto (pc := 145)  (tgt := 59) (by decide) dX7_enterRow_145 ?_
        refine zr_heap (show _ = hE (hE h ((N : Int) + m) (seg bt N m (fun _ => now)) (seg bc N m (fun i => cvZ (tb i))) (seg bk (N * 3) (m * 3) (kfZ tb)) be2 bn2) ((N : Int) + m + 1) (uZ (seg bt N m (fun _ => now)) ((N : Int) + m) now) (uZ (seg bc N m (fun i => cvZ (tb i))) ((N : Int) + m) (tb m)) (k3 (seg bk (N * 3) (m * 3) (kfZ tb)) (((N : Int) + m) * 3) (tb m) 0 0) (uZ be2 ((N : Int) + m) (bn2 (r * 84 + d + m))) (uZ bn2 (r * 84 + d + m) ((N : Int) + m)) from rfl) ?_
        rw [hE_hE]
        exact st _ _
def crOK (len : Int) (tb rk : Int → Int) (N : Nat) (r d : Int) : Prop := ((((0 ≤ r ∧ r < 16) ∧ rk r = 1) ∧ (0 ≤ d ∧ d ≤ 84 - len)) ∧ (N : Int) + len ≤ 600) ∧ ∀ i, 0 ≤ i → i < len → tb i ≤ 50 ∨ tb i = 255
theorem k_X7_enterRow {r d : Int} (hK : oK h now len tb rk rs rg gr num N bt bc bk be bn ap pl) (hr : iR r) (hd : iR d) (k1 : crOK len tb rk N r d → ∀ be2 bn2 : Int → Int, bkI (N + len.toNat) (seg bt N len (fun _ => now)) (seg bc N len (fun i => cvZ (tb i))) be2 bn2 ap (seg pl N len (fun i => r * 84 + d + i)) → Post (some (vi len)) n (hE h ((N : Int) + len) (seg bt N len (fun _ => now)) (seg bc N len (fun i => cvZ (tb i))) (seg bk (N * 3) (len * 3) (kfZ tb)) be2 bn2)) (k0 : ¬ crOK len tb rk N r d → Post (some (vi (-1))) n h) : zMP G mX7_enterRow [.ref 0, vi r, vi d] n h Post := by
  have hK' := hK
  obtain ⟨⟨g0, g1, g2, g3, g4, g5, g6, g7, g8, g9, g10, g11, g12, g13, g14⟩, ⟨i1, i2, i3, i4, i5, i6, i7, i8, i9, i10⟩, ⟨g16, ssz, fnd, tm, wk, mo, to, po, wp, sd, sc, pr, sq, fl, db, yu, yl, ⟨v1, v2, v3, v4, v5, v6, v7, v8, v9, v10, v11, v12, v13⟩, ⟨w1, w2, w3, -⟩⟩, ⟨g30, ⟨dv, T, ex, pu, b1, b2, b3, b4, b5, b6, b7⟩, u, l, g37⟩⟩ := hK'
  have hN : N ≤ 600 := i10.2.2.2.2
  refine zMP_of (by decide) [some _, some _, some _, none, none, none, none] (Nat.le_of_ble_eq_true rfl) rfl ?_
  refine zr_aload_n (pc := 0)  (i := 0) rfl rfl dX7_enterRow_0 ?_
  refine zr_get (pc := 1)  fl_X7_12 (by first | assumption | rfl | (repeat (first | assumption | exact zup_s | refine zup_g (by decide) ?_))) rfl dX7_enterRow_1 ?_
  refine zv_call0 (pc := 4)  cv_X7_enterRow_57 (by first | assumption | rfl | (repeat (first | assumption | exact zup_s | refine zup_g (by decide) ?_))) ⟨_, rfl, rfl⟩ (Nat.le_of_ble_eq_true rfl) (by decide) dX7_enterRow_4 ?_
  refine k_X5_length (by first | assumption | omega | (refine ⟨?_, ?_⟩ <;> omega) | rfl | (repeat (first | assumption | exact zup_s | refine zup_g (by decide) ?_))) ?_
  dsimp only [Option.toList, List.cons_append, List.nil_append]
  refine zs_istore_n_3 (pc := 7)  (by first | exact zn_i | exact zn_r | exact zn_0) (by decide) dX7_enterRow_7 ?_
  refine zr_aload_n (pc := 8)  (i := 0) rfl rfl dX7_enterRow_8 ?_
  refine zr_get (pc := 9)  fl_X7_19 (by first | assumption | rfl | (repeat (first | assumption | exact zup_s | refine zup_g (by decide) ?_))) rfl dX7_enterRow_9 ?_
  refine zr_iload_n (pc := 12)  (i := 1) rfl rfl dX7_enterRow_12 ?_
  refine zv_call1 (pc := 13)  cv_X7_enterRow_73 (by first | assumption | rfl | (repeat (first | assumption | exact zup_s | refine zup_g (by decide) ?_))) ⟨_, rfl, rfl⟩ (Nat.le_of_ble_eq_true rfl) (by decide) dX7_enterRow_13 ?_
  refine k_X3_has (by first | assumption | omega | (refine ⟨?_, ?_⟩ <;> omega) | rfl | (repeat (first | assumption | exact zup_s | refine zup_g (by decide) ?_))) (by first | assumption | omega | (refine ⟨?_, ?_⟩ <;> omega) | rfl | (repeat (first | assumption | exact zup_s | refine zup_g (by decide) ?_))) (by first | assumption | omega | (refine ⟨?_, ?_⟩ <;> omega) | rfl | (repeat (first | assumption | exact zup_s | refine zup_g (by decide) ?_))) (by first | assumption | omega | (refine ⟨?_, ?_⟩ <;> omega) | rfl | (repeat (first | assumption | exact zup_s | refine zup_g (by decide) ?_))) ?_
  dsimp only [Option.toList, List.cons_append, List.nil_append]
  refine zb_eq (pc := 16) (tgt := 31) (by decide) dX7_enterRow_16 (fun q16 => ?_) (fun q16 => ?_)
  · refine zr_iconst (pc := 31)  dX7_enterRow_31 ?_
    refine zr_ireturn (pc := 32)  rfl (by decide) (by decide) dX7_enterRow_32 ?_
    exact k0 (fun q => by obtain ⟨⟨⟨q1, q2⟩, q3⟩, q4⟩ := q; omega)
  · refine zr_iload_n (pc := 19)  (i := 2) rfl rfl dX7_enterRow_19 ?_
    refine zr_if_lt (pc := 20)  (tgt := 31) ⟨by omega, by omega⟩ (by decide) dX7_enterRow_20 (fun q20 => ?_) (fun q20 => ?_)
    · refine zr_iconst (pc := 31)  dX7_enterRow_31 ?_
      refine zr_ireturn (pc := 32)  rfl (by decide) (by decide) dX7_enterRow_32 ?_
      exact k0 (fun q => by obtain ⟨⟨⟨q1, q2⟩, q3⟩, q4⟩ := q; omega)
    · refine zr_iload_n (pc := 23)  (i := 2) rfl rfl dX7_enterRow_23 ?_
      refine zr_bipush (pc := 24)  (by decide) dX7_enterRow_24 ?_
      refine zr_iload_n (pc := 26)  (i := 3) rfl rfl dX7_enterRow_26 ?_
      refine zr_isub (pc := 27)  dX7_enterRow_27 ?_
      refine zr_icmp_le (pc := 28)  (tgt := 33) ⟨by omega, by omega⟩ ⟨by omega, by omega⟩ (by decide) dX7_enterRow_28 (fun q28 => ?_) (fun q28 => ?_)
      · refine zr_aload_n (pc := 33)  (i := 0) rfl rfl dX7_enterRow_33 ?_
        refine zr_get (pc := 34)  fl_X7_26 (by first | assumption | rfl | (repeat (first | assumption | exact zup_s | refine zup_g (by decide) ?_))) rfl dX7_enterRow_34 ?_
        refine zr_iload_n (pc := 37)  (i := 3) rfl rfl dX7_enterRow_37 ?_
        refine zv_call1 (pc := 38)  cv_X7_enterRow_188 (by first | assumption | rfl | (repeat (first | assumption | exact zup_s | refine zup_g (by decide) ?_))) ⟨_, rfl, rfl⟩ (Nat.le_of_ble_eq_true rfl) (by decide) dX7_enterRow_38 ?_
        refine k_X1_hasRoomFor (by first | assumption | omega | (refine ⟨?_, ?_⟩ <;> omega) | rfl | (repeat (first | assumption | exact zup_s | refine zup_g (by decide) ?_))) (by first | assumption | omega | (refine ⟨?_, ?_⟩ <;> omega) | rfl | (repeat (first | assumption | exact zup_s | refine zup_g (by decide) ?_))) (by first | assumption | omega | (refine ⟨?_, ?_⟩ <;> omega) | rfl | (repeat (first | assumption | exact zup_s | refine zup_g (by decide) ?_))) ?_
        dsimp only [Option.toList, List.cons_append, List.nil_append]
        refine zb_eq (pc := 41) (tgt := 54) (by decide) dX7_enterRow_41 (fun q41 => ?_) (fun q41 => ?_)
        · refine zr_iconst (pc := 54)  dX7_enterRow_54 ?_
          refine zr_ireturn (pc := 55)  rfl (by decide) (by decide) dX7_enterRow_55 ?_
          first | exact k0 (fun q => q51 q.2) | exact k0 (fun q => by obtain ⟨⟨⟨q1, q2⟩, q3⟩, q4⟩ := q; omega)
        · refine zr_aload_n (pc := 44)  (i := 0) rfl rfl dX7_enterRow_44 ?_
          refine zr_get (pc := 45)  fl_X7_12 (by first | assumption | rfl | (repeat (first | assumption | exact zup_s | refine zup_g (by decide) ?_))) rfl dX7_enterRow_45 ?_
          refine zv_call0 (pc := 48)  cv_X7_enterRow_201 (by first | assumption | rfl | (repeat (first | assumption | exact zup_s | refine zup_g (by decide) ?_))) ⟨_, rfl, rfl⟩ (Nat.le_of_ble_eq_true rfl) (by decide) dX7_enterRow_48 ?_
          refine k_X5_holdsCountsAlone (by first | assumption | omega | (refine ⟨?_, ?_⟩ <;> omega) | rfl | (repeat (first | assumption | exact zup_s | refine zup_g (by decide) ?_))) (by first | assumption | omega | (refine ⟨?_, ?_⟩ <;> omega) | rfl | (repeat (first | assumption | exact zup_s | refine zup_g (by decide) ?_))) (by first | assumption | omega | (refine ⟨?_, ?_⟩ <;> omega) | rfl | (repeat (first | assumption | exact zup_s | refine zup_g (by decide) ?_))) (by first | assumption | omega | (refine ⟨?_, ?_⟩ <;> omega) | rfl | (repeat (first | assumption | exact zup_s | refine zup_g (by decide) ?_))) ?_
          dsimp only [Option.toList, List.cons_append, List.nil_append]
          refine zb_ne (pc := 51) (tgt := 56) (by decide) dX7_enterRow_51 (fun q51 => ?_) (fun q51 => ?_)
          · refine zr_iconst (pc := 56)  dX7_enterRow_56 ?_
            refine zs_istore_4 (pc := 57)  (by first | exact zn_i | exact zn_r | exact zn_0) (by decide) dX7_enterRow_57 ?_
            have q0 : crOK len tb rk N r d := ⟨⟨⟨⟨by omega, by omega⟩, by omega⟩, by omega⟩, q51⟩
            refine zr_heap (show h = hE h ((N : Int) + ((0 : Nat) : Int)) (seg bt N ((0 : Nat) : Int) (fun _ => now)) (seg bc N ((0 : Nat) : Int) (fun i => cvZ (tb i))) (seg bk (N * 3) (((0 : Nat) : Int) * 3) (kfZ tb)) be bn from by rw [show ((0 : Nat) : Int) = 0 from rfl, Int.zero_mul, seg_0, seg_0, seg_0, Int.add_zero, hE_self g8 g9 g10 g11 g12 g13]) ?_
            exact l_X7_enterRow (pl := pl) (ap := ap) g0 g1 g2 i1 i2 i3 q51 (by omega) (by omega) (by omega) (k1 q0) 200 0 be bn _ _ (by omega) (by omega) (by rw [show ((0 : Nat) : Int) = 0 from rfl, seg_0, seg_0, seg_0]; exact i10)
          · refine zr_iconst (pc := 54)  dX7_enterRow_54 ?_
            refine zr_ireturn (pc := 55)  rfl (by decide) (by decide) dX7_enterRow_55 ?_
            first | exact k0 (fun q => q51 q.2) | exact k0 (fun q => by obtain ⟨⟨⟨q1, q2⟩, q3⟩, q4⟩ := q; omega)
      · refine zr_iconst (pc := 31)  dX7_enterRow_31 ?_
        refine zr_ireturn (pc := 32)  rfl (by decide) (by decide) dX7_enterRow_32 ?_
        exact k0 (fun q => by obtain ⟨⟨⟨q1, q2⟩, q3⟩, q4⟩ := q; omega)
theorem k_X7_counts {r d : Int} (hK : oK h now len tb rk rs rg gr num N bt bc bk be bn ap pl) (hr : iR r) (hd : iR d) (k1 : crOK len tb rk N r d → ∀ (h' : zH) (be2 bn2 : Int → Int), oK h' now 0 tb rk rs rg gr num (N + len.toNat) (seg bt N len (fun _ => now)) (seg bc N len (fun i => cvZ (tb i))) (seg bk (N * 3) (len * 3) (kfZ tb)) be2 bn2 ap (seg pl N len (fun i => r * 84 + d + i)) → (∀ j, 37 < j → h' j = h j) → Post (some (vi len)) n h') (k0 : ¬ crOK len tb rk N r d → ∀ h', oK h' now 0 tb rk rs rg gr num N bt bc bk be bn ap pl → (∀ j, 37 < j → h' j = h j) → Post (some (vi (-1))) n h') : zMP G mX7_counts [.ref 0, vi r, vi d] n h Post := by
  have hK' := hK
  obtain ⟨⟨g0, g1, g2, g3, g4, g5, g6, g7, g8, g9, g10, g11, g12, g13, g14⟩, ⟨i1, i2, i3, i4, i5, i6, i7, i8, i9, i10⟩, ⟨g16, ssz, fnd, tm, wk, mo, to, po, wp, sd, sc, pr, sq, fl, db, yu, yl, ⟨v1, v2, v3, v4, v5, v6, v7, v8, v9, v10, v11, v12, v13⟩, ⟨w1, w2, w3, -⟩⟩, ⟨g30, ⟨dv, T, ex, pu, b1, b2, b3, b4, b5, b6, b7⟩, u, l, g37⟩⟩ := hK'
  refine zMP_of (by decide) [some _, some _, some _, none] (Nat.le_of_ble_eq_true rfl) rfl ?_
  refine zr_aload_n (pc := 0)  (i := 0) rfl rfl dX7_counts_0 ?_
  refine zr_iload_n (pc := 1)  (i := 1) rfl rfl dX7_counts_1 ?_
  refine zr_iload_n (pc := 2)  (i := 2) rfl rfl dX7_counts_2 ?_
  refine zv_call2 (pc := 3)  cv_X7_counts_87 (by first | assumption | rfl | (repeat (first | assumption | exact zup_s | refine zup_g (by decide) ?_))) ⟨_, rfl, rfl⟩ (Nat.le_of_ble_eq_true rfl) (by decide) dX7_counts_3 ?_
  refine k_X7_enterRow hK hr hd (fun q be2 bn2 hb => ?_) (fun q => ?_)
  · dsimp only [Option.toList, List.cons_append, List.nil_append]
    have eN : (N : Int) + len = ((N + len.toNat : Nat) : Int) := by omega
    rw [eN]
    refine zs_istore_n_3 (pc := 6)  (by first | exact zn_i | exact zn_r | exact zn_0) (by decide) dX7_counts_6 ?_
    refine zr_aload_n (pc := 7)  (i := 0) rfl rfl dX7_counts_7 ?_
    refine zr_get (pc := 8)  fl_X7_12 (by first | assumption | rfl | (repeat (first | assumption | exact zup_s | refine zup_g (by decide) ?_))) rfl dX7_counts_8 ?_
    refine zr_iconst (pc := 11)  dX7_counts_11 ?_
    refine zv_call1 (pc := 12)  cv_X7_counts_65 (by first | assumption | rfl | (repeat (first | assumption | exact zup_s | refine zup_g (by decide) ?_))) ⟨_, rfl, rfl⟩ (Nat.le_of_ble_eq_true rfl) (by decide) dX7_counts_12 ?_
    refine k_X5_cut g1 i2 ⟨by omega, by omega⟩ (fun _ => ?_) (fun z => absurd z (by omega))
    dsimp only [Option.toList, List.cons_append, List.nil_append]
    refine zr_pop (pc := 15)  rfl dX7_counts_15 ?_
    refine zr_aload_n (pc := 16)  (i := 0) rfl rfl dX7_counts_16 ?_
    refine zr_get (pc := 17)  fl_X7_35 (by first | assumption | rfl | (repeat (first | assumption | exact zup_s | refine zup_g (by decide) ?_))) rfl dX7_counts_17 ?_
    refine zv_call0 (pc := 20)  cv_X7_counts_80 (by first | assumption | rfl | (repeat (first | assumption | exact zup_s | refine zup_g (by decide) ?_))) ⟨_, rfl, rfl⟩ (Nat.le_of_ble_eq_true rfl) (by decide) dX7_counts_20 ?_
    refine k_X6_forget v1 ?_
    dsimp only [Option.toList, List.cons_append, List.nil_append]
    refine zr_iload_n (pc := 23)  (i := 3) rfl rfl dX7_counts_23 ?_
    refine zr_ireturn (pc := 24)  rfl (by decide) (by decide) dX7_counts_24 ?_
    refine k1 q _ _ _ ⟨⟨g0, rfl, g2, g3, g4, g5, g6, g7, rfl, rfl, rfl, rfl, rfl, rfl, g14⟩, ⟨i1, by omega, i3, i4, i5, i6, i7, i8, i9, hb⟩, ⟨g16, ssz, fnd, -1, wk, mo, to, po, wp, sd, sc, pr, sq, fl, db, yu, yl, ⟨rfl, v2, v3, v4, v5, v6, v7, v8, v9, v10, v11, v12, v13⟩, vwI_0 w2 w3⟩, ⟨g30, ⟨dv, T, ex, pu, b1, b2, b3, b4, b5, b6, b7⟩, u, l, g37⟩⟩ (fun j hj => by rw [zup_n (by omega), zup_n (by omega), hE_out (by omega)])
  · dsimp only [Option.toList, List.cons_append, List.nil_append]
    refine zs_istore_n_3 (pc := 6)  (by first | exact zn_i | exact zn_r | exact zn_0) (by decide) dX7_counts_6 ?_
    refine zr_aload_n (pc := 7)  (i := 0) rfl rfl dX7_counts_7 ?_
    refine zr_get (pc := 8)  fl_X7_12 (by first | assumption | rfl | (repeat (first | assumption | exact zup_s | refine zup_g (by decide) ?_))) rfl dX7_counts_8 ?_
    refine zr_iconst (pc := 11)  dX7_counts_11 ?_
    refine zv_call1 (pc := 12)  cv_X7_counts_65 (by first | assumption | rfl | (repeat (first | assumption | exact zup_s | refine zup_g (by decide) ?_))) ⟨_, rfl, rfl⟩ (Nat.le_of_ble_eq_true rfl) (by decide) dX7_counts_12 ?_
    refine k_X5_cut g1 i2 ⟨by omega, by omega⟩ (fun _ => ?_) (fun z => absurd z (by omega))
    dsimp only [Option.toList, List.cons_append, List.nil_append]
    refine zr_pop (pc := 15)  rfl dX7_counts_15 ?_
    refine zr_aload_n (pc := 16)  (i := 0) rfl rfl dX7_counts_16 ?_
    refine zr_get (pc := 17)  fl_X7_35 (by first | assumption | rfl | (repeat (first | assumption | exact zup_s | refine zup_g (by decide) ?_))) rfl dX7_counts_17 ?_
    refine zv_call0 (pc := 20)  cv_X7_counts_80 (by first | assumption | rfl | (repeat (first | assumption | exact zup_s | refine zup_g (by decide) ?_))) ⟨_, rfl, rfl⟩ (Nat.le_of_ble_eq_true rfl) (by decide) dX7_counts_20 ?_
    refine k_X6_forget v1 ?_
    dsimp only [Option.toList, List.cons_append, List.nil_append]
    refine zr_iload_n (pc := 23)  (i := 3) rfl rfl dX7_counts_23 ?_
    refine zr_ireturn (pc := 24)  rfl (by decide) (by decide) dX7_counts_24 ?_
    refine k0 q _ ⟨⟨g0, rfl, g2, g3, g4, g5, g6, g7, g8, g9, g10, g11, g12, g13, g14⟩, ⟨i1, by omega, i3, i4, i5, i6, i7, i8, i9, i10⟩, ⟨g16, ssz, fnd, -1, wk, mo, to, po, wp, sd, sc, pr, sq, fl, db, yu, yl, ⟨rfl, v2, v3, v4, v5, v6, v7, v8, v9, v10, v11, v12, v13⟩, vwI_0 w2 w3⟩, ⟨g30, ⟨dv, T, ex, pu, b1, b2, b3, b4, b5, b6, b7⟩, u, l, g37⟩⟩ (fun j hj => by rw [zup_n (by omega), zup_n (by omega)])
end OFF
