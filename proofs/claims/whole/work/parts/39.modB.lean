section MODB
variable {G : zG} {n : Nat} {h : zH} {Post : Option Value → Nat → zH → Prop} {th len now al pm pd sq up lw : Int} {tb rk rs rg gr bt bc ek ap pl : Int → Int} {N : Nat}
/-- an entry's cells -/
def hEn (h : zH) (o : va_E) (er ed bt bc ek : Int → Int) : zH := zup (zup (zup (zup (zup (zup h 45 (aI 600 er)) 46 (aI 600 ed)) 47 (aI 600 bt)) 48 (aI 600 bc)) 49 (aI 1800 ek)) 38 o
theorem hN_o {o o2 : va_E} {er ed bt bc ek : Int → Int} : hEn (zup h 38 o2) o er ed bt bc ek = hEn h o er ed bt bc ek := by
  funext j
  simp only [hEn, zup]
  (repeat' split) <;> first | rfl | contradiction
theorem hN_N {o o2 : va_E} {er ed bt bc ek er2 ed2 bt2 bc2 ek2 : Int → Int} : hEn (hEn h o2 er2 ed2 bt2 bc2 ek2) o er ed bt bc ek = hEn h o er ed bt bc ek := by
  funext j
  simp only [hEn, zup]
  (repeat' split) <;> first | rfl | contradiction
theorem hN_fr {o : va_E} {er ed bt bc ek : Int → Int} {j : Nat} (hj : j < 38 ∨ (38 < j ∧ j < 45) ∨ 49 < j) : hEn h o er ed bt bc ek j = h j := by
  unfold hEn
  rw [zup_n (by omega), zup_n (by omega), zup_n (by omega), zup_n (by omega), zup_n (by omega), zup_n (by omega)]
theorem k_X8_enter {er ed : Int → Int} {r d v a b c : Int} (m38 : h 38 = some (oMod th len N now al pm pd sq up lw)) (m45 : h 45 = some (aI 600 er)) (m46 : h 46 = some (aI 600 ed)) (m47 : h 47 = some (aI 600 bt)) (m48 : h 48 = some (aI 600 bc)) (m49 : h 49 = some (aI 1800 ek)) (hN : N < 600) (k : Post none n (hEn h (oMod th len ((N : Int) + 1) now al pm pd sq up lw) (uZ er N r) (uZ ed N d) (uZ bt N now) (uZ bc N v) (k3 ek (N * 3) a b c))) : zMP G mX8_enter [.ref 38, vi r, vi d, vi v, vi a, vi b, vi c] n h Post := by
  refine zMP_of (by decide) [some _, some _, some _, some _, some _, some _, some _] (Nat.le_of_ble_eq_true rfl) rfl ?_
  refine zr_aload_n (pc := 0)  (i := 0) rfl rfl dX8_enter_0 ?_
  refine zr_get (pc := 1)  fl_X8_30 (by first | assumption | rfl | (repeat (first | assumption | exact zup_s | refine zup_g (by decide) ?_))) rfl dX8_enter_1 ?_
  refine zr_aload_n (pc := 4)  (i := 0) rfl rfl dX8_enter_4 ?_
  refine zr_get (pc := 5)  fl_X8_102 (by first | assumption | rfl | (repeat (first | assumption | exact zup_s | refine zup_g (by decide) ?_))) rfl dX8_enter_5 ?_
  refine zr_iload_n (pc := 8)  (i := 1) rfl rfl dX8_enter_8 ?_
  refine zr_iast (pc := 9)  (by first | assumption | rfl | (repeat (first | assumption | exact zup_s | refine zup_g (by decide) ?_))) ⟨by omega, by omega⟩ (by decide) dX8_enter_9 ?_
  refine zr_aload_n (pc := 10)  (i := 0) rfl rfl dX8_enter_10 ?_
  refine zr_get (pc := 11)  fl_X8_33 (by first | assumption | rfl | (repeat (first | assumption | exact zup_s | refine zup_g (by decide) ?_))) rfl dX8_enter_11 ?_
  refine zr_aload_n (pc := 14)  (i := 0) rfl rfl dX8_enter_14 ?_
  refine zr_get (pc := 15)  fl_X8_102 (by first | assumption | rfl | (repeat (first | assumption | exact zup_s | refine zup_g (by decide) ?_))) rfl dX8_enter_15 ?_
  refine zr_iload_n (pc := 18)  (i := 2) rfl rfl dX8_enter_18 ?_
  refine zr_iast (pc := 19)  (by first | assumption | rfl | (repeat (first | assumption | exact zup_s | refine zup_g (by decide) ?_))) ⟨by omega, by omega⟩ (by decide) dX8_enter_19 ?_
  refine zr_aload_n (pc := 20)  (i := 0) rfl rfl dX8_enter_20 ?_
  refine zr_get (pc := 21)  fl_X8_36 (by first | assumption | rfl | (repeat (first | assumption | exact zup_s | refine zup_g (by decide) ?_))) rfl dX8_enter_21 ?_
  refine zr_aload_n (pc := 24)  (i := 0) rfl rfl dX8_enter_24 ?_
  refine zr_get (pc := 25)  fl_X8_102 (by first | assumption | rfl | (repeat (first | assumption | exact zup_s | refine zup_g (by decide) ?_))) rfl dX8_enter_25 ?_
  refine zr_aload_n (pc := 28)  (i := 0) rfl rfl dX8_enter_28 ?_
  refine zr_get (pc := 29)  fl_X8_105 (by first | assumption | rfl | (repeat (first | assumption | exact zup_s | refine zup_g (by decide) ?_))) rfl dX8_enter_29 ?_
  refine zr_iast (pc := 32)  (by first | assumption | rfl | (repeat (first | assumption | exact zup_s | refine zup_g (by decide) ?_))) ⟨by omega, by omega⟩ (by decide) dX8_enter_32 ?_
  refine zr_aload_n (pc := 33)  (i := 0) rfl rfl dX8_enter_33 ?_
  refine zr_get (pc := 34)  fl_X8_39 (by first | assumption | rfl | (repeat (first | assumption | exact zup_s | refine zup_g (by decide) ?_))) rfl dX8_enter_34 ?_
  refine zr_aload_n (pc := 37)  (i := 0) rfl rfl dX8_enter_37 ?_
  refine zr_get (pc := 38)  fl_X8_102 (by first | assumption | rfl | (repeat (first | assumption | exact zup_s | refine zup_g (by decide) ?_))) rfl dX8_enter_38 ?_
  refine zr_iload_n (pc := 41)  (i := 3) rfl rfl dX8_enter_41 ?_
  refine zr_iast (pc := 42)  (by first | assumption | rfl | (repeat (first | assumption | exact zup_s | refine zup_g (by decide) ?_))) ⟨by omega, by omega⟩ (by decide) dX8_enter_42 ?_
  refine zr_aload_n (pc := 43)  (i := 0) rfl rfl dX8_enter_43 ?_
  refine zr_get (pc := 44)  fl_X8_42 (by first | assumption | rfl | (repeat (first | assumption | exact zup_s | refine zup_g (by decide) ?_))) rfl dX8_enter_44 ?_
  refine zr_iconst (pc := 47)  dX8_enter_47 ?_
  refine zr_aload_n (pc := 48)  (i := 0) rfl rfl dX8_enter_48 ?_
  refine zr_get (pc := 49)  fl_X8_102 (by first | assumption | rfl | (repeat (first | assumption | exact zup_s | refine zup_g (by decide) ?_))) rfl dX8_enter_49 ?_
  refine zr_imul (pc := 52)  dX8_enter_52 ?_
  refine zr_iload (pc := 53)  rfl dX8_enter_53 ?_
  refine zr_iast (pc := 55)  (by first | assumption | rfl | (repeat (first | assumption | exact zup_s | refine zup_g (by decide) ?_))) ⟨by omega, by omega⟩ (by decide) dX8_enter_55 ?_
  refine zr_aload_n (pc := 56)  (i := 0) rfl rfl dX8_enter_56 ?_
  refine zr_get (pc := 57)  fl_X8_42 (by first | assumption | rfl | (repeat (first | assumption | exact zup_s | refine zup_g (by decide) ?_))) rfl dX8_enter_57 ?_
  refine zr_iconst (pc := 60)  dX8_enter_60 ?_
  refine zr_aload_n (pc := 61)  (i := 0) rfl rfl dX8_enter_61 ?_
  refine zr_get (pc := 62)  fl_X8_102 (by first | assumption | rfl | (repeat (first | assumption | exact zup_s | refine zup_g (by decide) ?_))) rfl dX8_enter_62 ?_
  refine zr_imul (pc := 65)  dX8_enter_65 ?_
  refine zr_iconst (pc := 66)  dX8_enter_66 ?_
  refine zr_iadd (pc := 67)  dX8_enter_67 ?_
  refine zr_iload (pc := 68)  rfl dX8_enter_68 ?_
  refine zr_iast (pc := 70)  (by first | assumption | rfl | (repeat (first | assumption | exact zup_s | refine zup_g (by decide) ?_))) ⟨by omega, by omega⟩ (by decide) dX8_enter_70 ?_
  refine zr_aload_n (pc := 71)  (i := 0) rfl rfl dX8_enter_71 ?_
  refine zr_get (pc := 72)  fl_X8_42 (by first | assumption | rfl | (repeat (first | assumption | exact zup_s | refine zup_g (by decide) ?_))) rfl dX8_enter_72 ?_
  refine zr_iconst (pc := 75)  dX8_enter_75 ?_
  refine zr_aload_n (pc := 76)  (i := 0) rfl rfl dX8_enter_76 ?_
  refine zr_get (pc := 77)  fl_X8_102 (by first | assumption | rfl | (repeat (first | assumption | exact zup_s | refine zup_g (by decide) ?_))) rfl dX8_enter_77 ?_
  refine zr_imul (pc := 80)  dX8_enter_80 ?_
  refine zr_iconst (pc := 81)  dX8_enter_81 ?_
  refine zr_iadd (pc := 82)  dX8_enter_82 ?_
  refine zr_iload (pc := 83)  rfl dX8_enter_83 ?_
  refine zr_iast (pc := 85)  (by first | assumption | rfl | (repeat (first | assumption | exact zup_s | refine zup_g (by decide) ?_))) ⟨by omega, by omega⟩ (by decide) dX8_enter_85 ?_
  refine zr_aload_n (pc := 86)  (i := 0) rfl rfl dX8_enter_86 ?_
  refine zr_dup (pc := 87)  rfl dX8_enter_87 ?_
  refine zr_get (pc := 88)  fl_X8_102 (by first | assumption | rfl | (repeat (first | assumption | exact zup_s | refine zup_g (by decide) ?_))) rfl dX8_enter_88 ?_
  refine zr_iconst (pc := 91)  dX8_enter_91 ?_
  refine zr_iadd (pc := 92)  dX8_enter_92 ?_
  refine zr_put (pc := 93)  (oMod _ _ _ _ _ _ _ _ _ _) (fp_X8_102 rfl) (by first | assumption | rfl | (repeat (first | assumption | exact zup_s | refine zup_g (by decide) ?_))) (Nat.le_of_ble_eq_true rfl) rfl rfl rfl dX8_enter_93 ?_
  refine zr_vreturn (pc := 96)  rfl (by decide) (by decide) dX8_enter_96 ?_
  unfold k3 hEn at k
  rw [zup_zup, zup_zup, Int.mul_comm 3 (N : Int)]
  exact k
theorem seg_k3g {bk F : Int → Int} {N m v : Int} (hm : 0 ≤ m) (h0 : F (m * 3) = v) (h1 : F (m * 3 + 1) = 0) (h2 : F (m * 3 + 1 + 1) = 0) : k3 (seg bk (N * 3) (m * 3) F) ((N + m) * 3) v 0 0 = seg bk (N * 3) ((m + 1) * 3) F := by
  unfold k3
  rw [show (N + m) * 3 = N * 3 + m * 3 by omega, seg_s (by omega) h0.symm, show N * 3 + m * 3 + 1 = N * 3 + (m * 3 + 1) by omega, seg_s (by omega) h1.symm, show N * 3 + m * 3 + 2 = N * 3 + (m * 3 + 1 + 1) by omega, seg_s (by omega) h2.symm, show m * 3 + 1 + 1 + 1 = (m + 1) * 3 by omega]
def kgZ (tb : Int → Int) : Int → Int := fun j => if j % 3 = 0 then tb (j / 3) else 0
theorem l_X8_counts2 {er ed : Int → Int} {r d L : Int} (m39 : h 39 = some (aB 200 (sbR tb))) (i3 : ∀ i, 0 ≤ tb i ∧ tb i ≤ 255) (hr : iR r) (hd : 0 ≤ d ∧ d ≤ 84 - L) (hL : 0 ≤ L ∧ L ≤ 200) (hN : (N : Int) + L ≤ 600) (kk : Post (some (vi L)) n (hEn h (oMod th 0 ((N : Int) + L) now al pm pd sq up lw) (seg er N L (fun _ => r)) (seg ed N L (fun i => d + i)) (seg bt N L (fun _ => now)) (seg bc N L (fun i => cvZ (tb i))) (seg ek (N * 3) (L * 3) (kgZ tb)))) : ∀ (k : Nat) (m : Int), L - m ≤ k → 0 ≤ m → m ≤ L → zAW G mX8_counts zTT (zF G mX8_counts Post) 87 [some (.ref 38), some (vi r), some (vi d), some (vi L), some (vi m)] [] n (hEn h (oMod th 0 ((N : Int) + m) now al pm pd sq up lw) (seg er N m (fun _ => r)) (seg ed N m (fun i => d + i)) (seg bt N m (fun _ => now)) (seg bc N m (fun i => cvZ (tb i))) (seg ek (N * 3) (m * 3) (kgZ tb))) 0 0 := by
  intro k
  induction k with
  | zero =>
    intro m hk h0 hm
    obtain rfl : m = L := by omega
    refine zr_iload (pc := 87)  rfl dX8_counts_87 ?_
    refine zr_iload_n (pc := 89)  (i := 3) rfl rfl dX8_counts_89 ?_
    refine zr_icmp_ge (pc := 90)  (tgt := 138) ⟨by omega, by omega⟩ ⟨by omega, by omega⟩ (by decide) dX8_counts_90 (fun q90 => ?_) (fun q90 => ?_)
    · refine zr_iload_n (pc := 138)  (i := 3) rfl rfl dX8_counts_138 ?_
      refine zr_ireturn (pc := 139)  rfl (by decide) (by decide) dX8_counts_139 ?_
      exact kk
    · exact absurd q90 (by omega)
  | succ k ih =>
    intro m hk h0 hm
    have t := i3 m
    have ent : m < L → ∀ v : Int, v = cvZ (tb m) → ∀ {P2 : Option Value → Nat → zH → Prop}, P2 none n (hEn h (oMod th 0 ((N : Int) + (m + 1)) now al pm pd sq up lw) (seg er N (m + 1) (fun _ => r)) (seg ed N (m + 1) (fun i => d + i)) (seg bt N (m + 1) (fun _ => now)) (seg bc N (m + 1) (fun i => cvZ (tb i))) (seg ek (N * 3) ((m + 1) * 3) (kgZ tb))) → zMP G mX8_enter [.ref 38, vi r, vi (d + m), vi v, vi (tb m), vi 0, vi 0] n (hEn h (oMod th 0 ((N : Int) + m) now al pm pd sq up lw) (seg er N m (fun _ => r)) (seg ed N m (fun i => d + i)) (seg bt N m (fun _ => now)) (seg bc N m (fun i => cvZ (tb i))) (seg ek (N * 3) (m * 3) (kgZ tb))) P2 := fun hmL v hv P2 hP => by
      have e : (N : Int) + m = ((N + m.toNat : Nat) : Int) := by omega
      rw [e]
      refine k_X8_enter rfl rfl rfl rfl rfl rfl (by omega) ?_
      rw [hN_N, ← e, seg_s h0 rfl, seg_s h0 rfl, seg_s h0 rfl, seg_s h0 hv, seg_k3g h0 (by unfold kgZ; rw [if_pos (by omega), show m * 3 / 3 = m by omega]) (by unfold kgZ; rw [if_neg (by omega)]) (by unfold kgZ; rw [if_neg (by omega)]), Int.add_assoc]
      exact hP
    refine zr_iload (pc := 87)  rfl dX8_counts_87 ?_
    refine zr_iload_n (pc := 89)  (i := 3) rfl rfl dX8_counts_89 ?_
    refine zr_icmp_ge (pc := 90)  (tgt := 138) ⟨by omega, by omega⟩ ⟨by omega, by omega⟩ (by decide) dX8_counts_90 (fun q90 => ?_) (fun q90 => ?_)
    · refine zr_iload_n (pc := 138)  (i := 3) rfl rfl dX8_counts_138 ?_
      refine zr_ireturn (pc := 139)  rfl (by decide) (by decide) dX8_counts_139 ?_
      obtain rfl : m = L := by omega
      exact kk
    · refine zr_aload_n (pc := 93)  (i := 0) rfl rfl dX8_counts_93 ?_
      refine zr_iload_n (pc := 94)  (i := 1) rfl rfl dX8_counts_94 ?_
      refine zr_iload_n (pc := 95)  (i := 2) rfl rfl dX8_counts_95 ?_
      refine zr_iload (pc := 96)  rfl dX8_counts_96 ?_
      refine zr_iadd (pc := 98)  dX8_counts_98 ?_
      refine zr_aload_n (pc := 99)  (i := 0) rfl rfl dX8_counts_99 ?_
      refine zr_iload (pc := 100)  rfl dX8_counts_100 ?_
      refine zv_call1 (pc := 102)  cv_X8_counts_119 (by first | assumption | rfl | (repeat (first | assumption | exact zup_s | refine zup_g (by decide) ?_))) ⟨_, rfl, rfl⟩ (Nat.le_of_ble_eq_true rfl) (by decide) dX8_counts_102 ?_
      refine k_X8_at rfl m39 i3 (by omega) ?_
      dsimp only [Option.toList, List.cons_append, List.nil_append]
      refine zr_sipush (pc := 105)  (by decide) dX8_counts_105 ?_
      refine zr_icmp_ne (pc := 108)  (tgt := 115) ⟨by omega, by omega⟩ ⟨by omega, by omega⟩ (by decide) dX8_counts_108 (fun q108 => ?_) (fun q108 => ?_)
      · refine zr_aload_n (pc := 115)  (i := 0) rfl rfl dX8_counts_115 ?_
        refine zr_iload (pc := 116)  rfl dX8_counts_116 ?_
        refine zv_call1 (pc := 118)  cv_X8_counts_119 (by first | assumption | rfl | (repeat (first | assumption | exact zup_s | refine zup_g (by decide) ?_))) ⟨_, rfl, rfl⟩ (Nat.le_of_ble_eq_true rfl) (by decide) dX8_counts_118 ?_
        refine k_X8_at rfl m39 i3 (by omega) ?_
        dsimp only [Option.toList, List.cons_append, List.nil_append]
        refine zr_aload_n (pc := 121)  (i := 0) rfl rfl dX8_counts_121 ?_
        refine zr_iload (pc := 122)  rfl dX8_counts_122 ?_
        refine zv_call1 (pc := 124)  cv_X8_counts_119 (by first | assumption | rfl | (repeat (first | assumption | exact zup_s | refine zup_g (by decide) ?_))) ⟨_, rfl, rfl⟩ (Nat.le_of_ble_eq_true rfl) (by decide) dX8_counts_124 ?_
        refine k_X8_at rfl m39 i3 (by omega) ?_
        dsimp only [Option.toList, List.cons_append, List.nil_append]
        refine zr_iconst (pc := 127)  dX8_counts_127 ?_
        refine zr_iconst (pc := 128)  dX8_counts_128 ?_
        refine zv_call6 (pc := 129)  cv_X8_counts_123 (by first | assumption | rfl | (repeat (first | assumption | exact zup_s | refine zup_g (by decide) ?_))) ⟨_, rfl, rfl⟩ (Nat.le_of_ble_eq_true rfl) (by decide) dX8_counts_129 ?_
        first | refine ent (by omega) _ (by unfold cvZ; rw [if_pos (by omega)]) ?_ | refine ent (by omega) _ (by unfold cvZ; rw [if_neg (by omega)]) ?_
        dsimp only [Option.toList, List.cons_append, List.nil_append]
        refine zs_iinc_4 (pc := 132)  (by first | exact zn_i | exact zn_r | exact zn_0) (by decide) dX8_counts_132 ?_
        refine zr_goto (pc := 135)  (tgt := 87) (by decide) dX8_counts_135 ?_
        exact ih (m + 1) (by omega) (by omega) (by omega)
      · refine zr_iconst (pc := 111)  dX8_counts_111 ?_
        refine zr_goto (pc := 112)  (tgt := 121) (by decide) dX8_counts_112 ?_
        refine zr_aload_n (pc := 121)  (i := 0) rfl rfl dX8_counts_121 ?_
        refine zr_iload (pc := 122)  rfl dX8_counts_122 ?_
        refine zv_call1 (pc := 124)  cv_X8_counts_119 (by first | assumption | rfl | (repeat (first | assumption | exact zup_s | refine zup_g (by decide) ?_))) ⟨_, rfl, rfl⟩ (Nat.le_of_ble_eq_true rfl) (by decide) dX8_counts_124 ?_
        refine k_X8_at rfl m39 i3 (by omega) ?_
        dsimp only [Option.toList, List.cons_append, List.nil_append]
        refine zr_iconst (pc := 127)  dX8_counts_127 ?_
        refine zr_iconst (pc := 128)  dX8_counts_128 ?_
        refine zv_call6 (pc := 129)  cv_X8_counts_123 (by first | assumption | rfl | (repeat (first | assumption | exact zup_s | refine zup_g (by decide) ?_))) ⟨_, rfl, rfl⟩ (Nat.le_of_ble_eq_true rfl) (by decide) dX8_counts_129 ?_
        first | refine ent (by omega) _ (by unfold cvZ; rw [if_pos (by omega)]) ?_ | refine ent (by omega) _ (by unfold cvZ; rw [if_neg (by omega)]) ?_
        dsimp only [Option.toList, List.cons_append, List.nil_append]
        refine zs_iinc_4 (pc := 132)  (by first | exact zn_i | exact zn_r | exact zn_0) (by decide) dX8_counts_132 ?_
        refine zr_goto (pc := 135)  (tgt := 87) (by decide) dX8_counts_135 ?_
        exact ih (m + 1) (by omega) (by omega) (by omega)
theorem l_X8_counts1 {er ed : Int → Int} {r d L : Int} (m38 : h 38 = some (oMod th 0 N now al pm pd sq up lw)) (m39 : h 39 = some (aB 200 (sbR tb))) (m45 : h 45 = some (aI 600 er)) (m46 : h 46 = some (aI 600 ed)) (m47 : h 47 = some (aI 600 bt)) (m48 : h 48 = some (aI 600 bc)) (m49 : h 49 = some (aI 1800 ek)) (i3 : ∀ i, 0 ≤ tb i ∧ tb i ≤ 255) (hr : iR r) (hd : 0 ≤ d ∧ d ≤ 84 - L) (hL : 0 ≤ L ∧ L ≤ 200) (hN : (N : Int) + L ≤ 600) (k0 : ¬ (∀ i, 0 ≤ i → i < L → tb i ≤ 50 ∨ tb i = 255) → Post (some (vi (-1))) n h) (k1 : (∀ i, 0 ≤ i → i < L → tb i ≤ 50 ∨ tb i = 255) → Post (some (vi L)) n (hEn h (oMod th 0 ((N : Int) + L) now al pm pd sq up lw) (seg er N L (fun _ => r)) (seg ed N L (fun i => d + i)) (seg bt N L (fun _ => now)) (seg bc N L (fun i => cvZ (tb i))) (seg ek (N * 3) (L * 3) (kgZ tb)))) : ∀ (k : Nat) (m : Int), L - m ≤ k → 0 ≤ m → m ≤ L → (∀ i, 0 ≤ i → i < m → tb i ≤ 50 ∨ tb i = 255) → zAW G mX8_counts zTT (zF G mX8_counts Post) 47 [some (.ref 38), some (vi r), some (vi d), some (vi L), some (vi m)] [] n h 0 0 := by
  have self : h = hEn h (oMod th 0 ((N : Int) + 0) now al pm pd sq up lw) (seg er N 0 (fun _ => r)) (seg ed N 0 (fun i => d + i)) (seg bt N 0 (fun _ => now)) (seg bc N 0 (fun i => cvZ (tb i))) (seg ek (N * 3) (0 * 3) (kgZ tb)) := by
    unfold hEn
    rw [Int.add_zero, Int.zero_mul, seg_0, seg_0, seg_0, seg_0, seg_0, zup_self m45, zup_self m46, zup_self m47, zup_self m48, zup_self m49, zup_self m38]
  intro k
  induction k with
  | zero =>
    intro m hk h0 hm ha
    obtain rfl : m = L := by omega
    refine zr_iload (pc := 47)  rfl dX8_counts_47 ?_
    refine zr_iload_n (pc := 49)  (i := 3) rfl rfl dX8_counts_49 ?_
    refine zr_icmp_ge (pc := 50)  (tgt := 84) ⟨by omega, by omega⟩ ⟨by omega, by omega⟩ (by decide) dX8_counts_50 (fun q50 => ?_) (fun q50 => ?_)
    · refine zr_iconst (pc := 84)  dX8_counts_84 ?_
      refine zs_istore_4 (pc := 85)  (by first | exact zn_i | exact zn_r | exact zn_0) (by decide) dX8_counts_85 ?_
      refine zr_heap self ?_
      exact l_X8_counts2 m39 i3 hr hd hL hN (k1 ha) 200 0 (by omega) (by omega) (by omega)
    · exact absurd q50 (by omega)
  | succ k ih =>
    intro m hk h0 hm ha
    have t := i3 m
    refine zr_iload (pc := 47)  rfl dX8_counts_47 ?_
    refine zr_iload_n (pc := 49)  (i := 3) rfl rfl dX8_counts_49 ?_
    refine zr_icmp_ge (pc := 50)  (tgt := 84) ⟨by omega, by omega⟩ ⟨by omega, by omega⟩ (by decide) dX8_counts_50 (fun q50 => ?_) (fun q50 => ?_)
    · refine zr_iconst (pc := 84)  dX8_counts_84 ?_
      refine zs_istore_4 (pc := 85)  (by first | exact zn_i | exact zn_r | exact zn_0) (by decide) dX8_counts_85 ?_
      obtain rfl : m = L := by omega
      refine zr_heap self ?_
      exact l_X8_counts2 m39 i3 hr hd hL hN (k1 ha) 200 0 (by omega) (by omega) (by omega)
    · refine zr_aload_n (pc := 53)  (i := 0) rfl rfl dX8_counts_53 ?_
      refine zr_iload (pc := 54)  rfl dX8_counts_54 ?_
      refine zv_call1 (pc := 56)  cv_X8_counts_119 (by first | assumption | rfl | (repeat (first | assumption | exact zup_s | refine zup_g (by decide) ?_))) ⟨_, rfl, rfl⟩ (Nat.le_of_ble_eq_true rfl) (by decide) dX8_counts_56 ?_
      refine k_X8_at m38 m39 i3 (by omega) ?_
      dsimp only [Option.toList, List.cons_append, List.nil_append]
      refine zr_sipush (pc := 59)  (by decide) dX8_counts_59 ?_
      refine zr_icmp_eq (pc := 62)  (tgt := 78) ⟨by omega, by omega⟩ ⟨by omega, by omega⟩ (by decide) dX8_counts_62 (fun q62 => ?_) (fun q62 => ?_)
      · refine zs_iinc_4 (pc := 78)  (by first | exact zn_i | exact zn_r | exact zn_0) (by decide) dX8_counts_78 ?_
        refine zr_goto (pc := 81)  (tgt := 47) (by decide) dX8_counts_81 ?_
        exact ih (m + 1) (by omega) (by omega) (by omega) (fun i a b => by rcases Int.lt_or_le i m with q | q; exact ha i a q; (obtain rfl : i = m := by omega); omega)
      · refine zr_aload_n (pc := 65)  (i := 0) rfl rfl dX8_counts_65 ?_
        refine zr_iload (pc := 66)  rfl dX8_counts_66 ?_
        refine zv_call1 (pc := 68)  cv_X8_counts_119 (by first | assumption | rfl | (repeat (first | assumption | exact zup_s | refine zup_g (by decide) ?_))) ⟨_, rfl, rfl⟩ (Nat.le_of_ble_eq_true rfl) (by decide) dX8_counts_68 ?_
        refine k_X8_at m38 m39 i3 (by omega) ?_
        dsimp only [Option.toList, List.cons_append, List.nil_append]
        refine zr_bipush (pc := 71)  (by decide) dX8_counts_71 ?_
        refine zr_icmp_le (pc := 73)  (tgt := 78) ⟨by omega, by omega⟩ ⟨by omega, by omega⟩ (by decide) dX8_counts_73 (fun q73 => ?_) (fun q73 => ?_)
        · refine zs_iinc_4 (pc := 78)  (by first | exact zn_i | exact zn_r | exact zn_0) (by decide) dX8_counts_78 ?_
          refine zr_goto (pc := 81)  (tgt := 47) (by decide) dX8_counts_81 ?_
          exact ih (m + 1) (by omega) (by omega) (by omega) (fun i a b => by rcases Int.lt_or_le i m with q | q; exact ha i a q; (obtain rfl : i = m := by omega); omega)
        · refine zr_iconst (pc := 76)  dX8_counts_76 ?_
          refine zr_ireturn (pc := 77)  rfl (by decide) (by decide) dX8_counts_77 ?_
          exact k0 (fun z => by have := z m h0 (by omega); omega)
theorem l_X8_works {r a b on : Int} (m38 : h 38 = some (oMod th len N now al pm pd sq up lw)) (i3 : ∀ i, ap i = 0 ∨ ap i = 1) (hon : on = 0 ∨ on = 1) (hr : 0 ≤ r ∧ r < 16) (hab : 0 ≤ a ∧ a ≤ b ∧ b ≤ 84) (kk : Post (some (vi (sumZ (fun i => ind (ap (r * 84 + (a + i)) ≠ on)) (b - a).toNat))) n (zup h 41 (aZ 1344 (clZ ap (r * 84 + a) (r * 84 + b) on)))) : ∀ (k : Nat) (m ct : Int), b - m ≤ k → a ≤ m → m ≤ b → ct = sumZ (fun i => ind (ap (r * 84 + (a + i)) ≠ on)) (m - a).toNat → zAW G mX8_works zTT (zF G mX8_works Post) 36 [some (.ref 38), some (vi r), some (vi a), some (vi b), some (vi on), some (vi ct), some (vi m)] [] n (zup h 41 (aZ 1344 (clZ ap (r * 84 + a) (r * 84 + m) on))) 0 0 := by
  intro k
  induction k with
  | zero =>
    intro m ct hk h0 hm hT
    obtain rfl : m = b := by omega
    rw [← hT] at kk
    refine zr_iload (pc := 36)  rfl dX8_works_36 ?_
    refine zr_iload_n (pc := 38)  (i := 3) rfl rfl dX8_works_38 ?_
    refine zr_icmp_ge (pc := 39)  (tgt := 89) ⟨by omega, by omega⟩ ⟨by omega, by omega⟩ (by decide) dX8_works_39 (fun q39 => ?_) (fun q39 => ?_)
    · refine zr_iload (pc := 89)  rfl dX8_works_89 ?_
      refine zr_ireturn (pc := 91)  rfl (by decide) (by decide) dX8_works_91 ?_
      exact kk
    · exact absurd q39 (by omega)
  | succ k ih =>
    intro m ct hk h0 hm hT
    have es : sumZ (fun i => ind (ap (r * 84 + (a + i)) ≠ on)) (m + 1 - a).toNat = ct + ind (ap (r * 84 + m) ≠ on) := by
      rw [show (m + 1 - a).toNat = (m - a).toNat + 1 by omega]
      show sumZ _ (m - a).toNat + ind (ap (r * 84 + (a + (((m - a).toNat : Nat) : Int))) ≠ on) = _
      rw [← hT, show a + (((m - a).toNat : Nat) : Int) = m by omega]
    have ecl : clZ ap (r * 84 + a) (r * 84 + m) on (84 * r + m) = ap (r * 84 + m) := by rw [Int.mul_comm 84 r]; exact clZ_out (by omega)
    have hai := i3 (r * 84 + m)
    refine zr_iload (pc := 36)  rfl dX8_works_36 ?_
    refine zr_iload_n (pc := 38)  (i := 3) rfl rfl dX8_works_38 ?_
    refine zr_icmp_ge (pc := 39)  (tgt := 89) ⟨by omega, by omega⟩ ⟨by omega, by omega⟩ (by decide) dX8_works_39 (fun q39 => ?_) (fun q39 => ?_)
    · refine zr_iload (pc := 89)  rfl dX8_works_89 ?_
      refine zr_ireturn (pc := 91)  rfl (by decide) (by decide) dX8_works_91 ?_
      obtain rfl : m = b := by omega
      rw [← hT] at kk
      exact kk
    · refine zr_iload (pc := 42)  rfl dX8_works_42 ?_
      refine zr_aload_n (pc := 44)  (i := 0) rfl rfl dX8_works_44 ?_
      refine zr_get (pc := 45)  fl_X8_17 (by first | assumption | rfl | (repeat (first | assumption | exact zup_s | refine zup_g (by decide) ?_))) rfl dX8_works_45 ?_
      refine zr_bipush (pc := 48)  (by decide) dX8_works_48 ?_
      refine zr_iload_n (pc := 50)  (i := 1) rfl rfl dX8_works_50 ?_
      refine zr_imul (pc := 51)  dX8_works_51 ?_
      refine zr_iload (pc := 52)  rfl dX8_works_52 ?_
      refine zr_iadd (pc := 54)  dX8_works_54 ?_
      refine zr_zald (pc := 55)  (by first | assumption | rfl | (repeat (first | assumption | exact zup_s | refine zup_g (by decide) ?_))) ⟨by omega, by omega⟩ (by decide) dX8_works_55 ?_
      rw [ecl]
      refine zr_iload (pc := 56)  rfl dX8_works_56 ?_
      refine zr_icmp_eq (pc := 58)  (tgt := 65) ⟨by omega, by omega⟩ ⟨by omega, by omega⟩ (by decide) dX8_works_58 (fun q58 => ?_) (fun q58 => ?_)
      · refine zr_iconst (pc := 65)  dX8_works_65 ?_
        refine zr_iadd (pc := 66)  dX8_works_66 ?_
        refine zs_istore_5 (pc := 67)  (by first | exact zn_i | exact zn_r | exact zn_0) (by decide) dX8_works_67 ?_
        refine zr_aload_n (pc := 69)  (i := 0) rfl rfl dX8_works_69 ?_
        refine zr_get (pc := 70)  fl_X8_17 (by first | assumption | rfl | (repeat (first | assumption | exact zup_s | refine zup_g (by decide) ?_))) rfl dX8_works_70 ?_
        refine zr_bipush (pc := 73)  (by decide) dX8_works_73 ?_
        refine zr_iload_n (pc := 75)  (i := 1) rfl rfl dX8_works_75 ?_
        refine zr_imul (pc := 76)  dX8_works_76 ?_
        refine zr_iload (pc := 77)  rfl dX8_works_77 ?_
        refine zr_iadd (pc := 79)  dX8_works_79 ?_
        refine zr_iload (pc := 80)  rfl dX8_works_80 ?_
        refine zr_zast (pc := 82)  (by first | assumption | rfl | (repeat (first | assumption | exact zup_s | refine zup_g (by decide) ?_))) ⟨by omega, by omega⟩ (by decide) (by omega) dX8_works_82 ?_
        refine zr_heap (show _ = zup h 41 (aZ 1344 (clZ ap (r * 84 + a) (r * 84 + (m + 1)) on)) from by rw [zup_zup, Int.mul_comm 84 r, clZ_s (by omega), Int.add_assoc]) ?_
        refine zs_iinc_6 (pc := 83)  (by first | exact zn_i | exact zn_r | exact zn_0) (by decide) dX8_works_83 ?_
        refine zr_goto (pc := 86)  (tgt := 36) (by decide) dX8_works_86 ?_
        first | exact ih (m + 1) _ (by omega) (by omega) (by omega) (by rw [es, ind_f (P := ap (r * 84 + m) ≠ on) (by intro z; exact z (by assumption))]) | exact ih (m + 1) _ (by omega) (by omega) (by omega) (by rw [es, ind_t (P := ap (r * 84 + m) ≠ on) (by assumption)])
      · refine zr_iconst (pc := 61)  dX8_works_61 ?_
        refine zr_goto (pc := 62)  (tgt := 66) (by decide) dX8_works_62 ?_
        refine zr_iadd (pc := 66)  dX8_works_66 ?_
        refine zs_istore_5 (pc := 67)  (by first | exact zn_i | exact zn_r | exact zn_0) (by decide) dX8_works_67 ?_
        refine zr_aload_n (pc := 69)  (i := 0) rfl rfl dX8_works_69 ?_
        refine zr_get (pc := 70)  fl_X8_17 (by first | assumption | rfl | (repeat (first | assumption | exact zup_s | refine zup_g (by decide) ?_))) rfl dX8_works_70 ?_
        refine zr_bipush (pc := 73)  (by decide) dX8_works_73 ?_
        refine zr_iload_n (pc := 75)  (i := 1) rfl rfl dX8_works_75 ?_
        refine zr_imul (pc := 76)  dX8_works_76 ?_
        refine zr_iload (pc := 77)  rfl dX8_works_77 ?_
        refine zr_iadd (pc := 79)  dX8_works_79 ?_
        refine zr_iload (pc := 80)  rfl dX8_works_80 ?_
        refine zr_zast (pc := 82)  (by first | assumption | rfl | (repeat (first | assumption | exact zup_s | refine zup_g (by decide) ?_))) ⟨by omega, by omega⟩ (by decide) (by omega) dX8_works_82 ?_
        refine zr_heap (show _ = zup h 41 (aZ 1344 (clZ ap (r * 84 + a) (r * 84 + (m + 1)) on)) from by rw [zup_zup, Int.mul_comm 84 r, clZ_s (by omega), Int.add_assoc]) ?_
        refine zs_iinc_6 (pc := 83)  (by first | exact zn_i | exact zn_r | exact zn_0) (by decide) dX8_works_83 ?_
        refine zr_goto (pc := 86)  (tgt := 36) (by decide) dX8_works_86 ?_
        first | exact ih (m + 1) _ (by omega) (by omega) (by omega) (by rw [es, ind_f (P := ap (r * 84 + m) ≠ on) (by intro z; exact z (by assumption))]) | exact ih (m + 1) _ (by omega) (by omega) (by omega) (by rw [es, ind_t (P := ap (r * 84 + m) ≠ on) (by assumption)])
theorem l_X8_told (m38 : h 38 = some (oMod th len N now al pm pd sq up lw)) (m40 : h 40 = some (aZ 16 rk)) (i4 : ∀ i, rk i = 0 ∨ rk i = 1) {w : Int} (kk : Post (some (vi (sumZ rk 16))) n h) : ∀ (k m : Nat) (ct : Int), 16 - m ≤ k → m ≤ 16 → ct = sumZ rk m → zAW G mX8_told zTT (zF G mX8_told Post) 40 [some (.ref 38), some (vi w), some (vi ct), some (vi m)] [] n h 0 0 := by
  intro k
  induction k with
  | zero =>
    intro m ct hk hm hT
    obtain rfl : m = 16 := by omega
    rw [← hT] at kk
    refine zr_iload_n (pc := 40)  (i := 3) rfl rfl dX8_told_40 ?_
    refine zr_bipush (pc := 41)  (by decide) dX8_told_41 ?_
    refine zr_icmp_ge (pc := 43)  (tgt := 69) ⟨by omega, by omega⟩ ⟨by omega, by omega⟩ (by decide) dX8_told_43 (fun q43 => ?_) (fun q43 => ?_)
    · refine zr_iload_n (pc := 69)  (i := 2) rfl rfl dX8_told_69 ?_
      refine zr_ireturn (pc := 70)  rfl (by decide) (by decide) dX8_told_70 ?_
      exact kk
    · exact absurd q43 (by omega)
  | succ k ih =>
    intro m ct hk hm hT
    have es : sumZ rk (m + 1) = ct + rk m := by rw [hT]; rfl
    have hrm := i4 m
    refine zr_iload_n (pc := 40)  (i := 3) rfl rfl dX8_told_40 ?_
    refine zr_bipush (pc := 41)  (by decide) dX8_told_41 ?_
    refine zr_icmp_ge (pc := 43)  (tgt := 69) ⟨by omega, by omega⟩ ⟨by omega, by omega⟩ (by decide) dX8_told_43 (fun q43 => ?_) (fun q43 => ?_)
    · refine zr_iload_n (pc := 69)  (i := 2) rfl rfl dX8_told_69 ?_
      refine zr_ireturn (pc := 70)  rfl (by decide) (by decide) dX8_told_70 ?_
      obtain rfl : m = 16 := by omega
      rw [← hT] at kk
      exact kk
    · refine zr_iload_n (pc := 46)  (i := 2) rfl rfl dX8_told_46 ?_
      refine zr_aload_n (pc := 47)  (i := 0) rfl rfl dX8_told_47 ?_
      refine zr_get (pc := 48)  fl_X8_13 (by first | assumption | rfl | (repeat (first | assumption | exact zup_s | refine zup_g (by decide) ?_))) rfl dX8_told_48 ?_
      refine zr_iload_n (pc := 51)  (i := 3) rfl rfl dX8_told_51 ?_
      refine zr_zald (pc := 52)  (by first | assumption | rfl | (repeat (first | assumption | exact zup_s | refine zup_g (by decide) ?_))) ⟨by omega, by omega⟩ (by decide) dX8_told_52 ?_
      refine zr_if_eq (pc := 53)  (tgt := 60) ⟨by omega, by omega⟩ (by decide) dX8_told_53 (fun q53 => ?_) (fun q53 => ?_)
      · refine zr_iconst (pc := 60)  dX8_told_60 ?_
        refine zr_iadd (pc := 61)  dX8_told_61 ?_
        refine zs_istore_n_2 (pc := 62)  (by first | exact zn_i | exact zn_r | exact zn_0) (by decide) dX8_told_62 ?_
        refine zs_iinc_3 (pc := 63)  (by first | exact zn_i | exact zn_r | exact zn_0) (by decide) dX8_told_63 ?_
        refine zr_goto (pc := 66)  (tgt := 40) (by decide) dX8_told_66 ?_
        exact ih (m + 1) _ (by omega) (by omega) (by rw [es]; omega)
      · refine zr_iconst (pc := 56)  dX8_told_56 ?_
        refine zr_goto (pc := 57)  (tgt := 61) (by decide) dX8_told_57 ?_
        refine zr_iadd (pc := 61)  dX8_told_61 ?_
        refine zs_istore_n_2 (pc := 62)  (by first | exact zn_i | exact zn_r | exact zn_0) (by decide) dX8_told_62 ?_
        refine zs_iinc_3 (pc := 63)  (by first | exact zn_i | exact zn_r | exact zn_0) (by decide) dX8_told_63 ?_
        refine zr_goto (pc := 66)  (tgt := 40) (by decide) dX8_told_66 ?_
        exact ih (m + 1) _ (by omega) (by omega) (by rw [es]; omega)
theorem l_X8_holds {r d t : Int} (m38 : h 38 = some (oMod th len N now al pm pd sq up lw)) (m45 : h 45 = some (aI 600 (fun e => pl e / 84))) (m46 : h 46 = some (aI 600 (fun e => pl e % 84))) (m47 : h 47 = some (aI 600 bt)) (hN : N ≤ 600) (hp : ∀ e, 0 ≤ pl e ∧ pl e < 1344) (hb : ∀ i, 0 ≤ bt i ∧ bt i ≤ 99) (hr : iR r) (hd : 0 ≤ d ∧ d < 84) (ht : iR t) (kk : Post (some (vi (holdZ pl bt N (r * 84 + d) t))) n h) : ∀ k : Nat, k ≤ N → holdZ pl bt N (r * 84 + d) t = holdZ pl bt k (r * 84 + d) t → zAW G mX8_holds zTT (zF G mX8_holds Post) 8 [some (.ref 38), some (vi r), some (vi d), some (vi t), some (vi ((k : Int) - 1))] [] n h 0 0 := by
  intro k
  induction k with
  | zero =>
    intro hk he
    rw [he] at kk
    refine zr_iload (pc := 8)  rfl dX8_holds_8 ?_
    refine zr_if_lt (pc := 10)  (tgt := 55) ⟨by omega, by omega⟩ (by decide) dX8_holds_10 (fun q10 => ?_) (fun q10 => ?_)
    · refine zr_iconst (pc := 55)  dX8_holds_55 ?_
      refine zr_ireturn (pc := 56)  rfl (by decide) (by decide) dX8_holds_56 ?_
      exact kk
    · exact absurd q10 (by omega)
  | succ k ih =>
    intro hk he
    have e1 : ((k + 1 : Nat) : Int) - 1 = k := by omega
    have hpk := hp k
    have hbk := hb k
    have hz : holdZ pl bt (k + 1) (r * 84 + d) t = if (pl k == r * 84 + d && decide (bt k ≤ t)) = true then (k : Int) else holdZ pl bt k (r * 84 + d) t := rfl
    have hf : ¬ (pl k = r * 84 + d ∧ bt k ≤ t) → holdZ pl bt (k + 1) (r * 84 + d) t = holdZ pl bt k (r * 84 + d) t := fun z => by
      rw [hz, if_neg (by simp only [Bool.and_eq_true, beq_iff_eq, decide_eq_true_eq]; exact z)]
    rw [e1]
    refine zr_iload (pc := 8)  rfl dX8_holds_8 ?_
    refine zr_if_lt (pc := 10)  (tgt := 55) ⟨by omega, by omega⟩ (by decide) dX8_holds_10 (fun q10 => ?_) (fun q10 => ?_)
    · exact absurd q10 (by omega)
    · refine zr_aload_n (pc := 13)  (i := 0) rfl rfl dX8_holds_13 ?_
      refine zr_get (pc := 14)  fl_X8_30 (by first | assumption | rfl | (repeat (first | assumption | exact zup_s | refine zup_g (by decide) ?_))) rfl dX8_holds_14 ?_
      refine zr_iload (pc := 17)  rfl dX8_holds_17 ?_
      refine zr_iald (pc := 19)  (by first | assumption | rfl | (repeat (first | assumption | exact zup_s | refine zup_g (by decide) ?_))) ⟨by omega, by omega⟩ (by decide) dX8_holds_19 ?_
      refine zr_iload_n (pc := 20)  (i := 1) rfl rfl dX8_holds_20 ?_
      refine zr_icmp_ne (pc := 21)  (tgt := 49) ⟨by omega, by omega⟩ ⟨by omega, by omega⟩ (by decide) dX8_holds_21 (fun q21 => ?_) (fun q21 => ?_)
      · refine zs_iinc_4 (pc := 49)  (by first | exact zn_i | exact zn_r | exact zn_0) (by decide) dX8_holds_49 ?_
        refine zr_goto (pc := 52)  (tgt := 8) (by decide) dX8_holds_52 ?_
        exact ih (by omega) (he.trans (hf (by omega)))
      · refine zr_aload_n (pc := 24)  (i := 0) rfl rfl dX8_holds_24 ?_
        refine zr_get (pc := 25)  fl_X8_33 (by first | assumption | rfl | (repeat (first | assumption | exact zup_s | refine zup_g (by decide) ?_))) rfl dX8_holds_25 ?_
        refine zr_iload (pc := 28)  rfl dX8_holds_28 ?_
        refine zr_iald (pc := 30)  (by first | assumption | rfl | (repeat (first | assumption | exact zup_s | refine zup_g (by decide) ?_))) ⟨by omega, by omega⟩ (by decide) dX8_holds_30 ?_
        refine zr_iload_n (pc := 31)  (i := 2) rfl rfl dX8_holds_31 ?_
        refine zr_icmp_ne (pc := 32)  (tgt := 49) ⟨by omega, by omega⟩ ⟨by omega, by omega⟩ (by decide) dX8_holds_32 (fun q32 => ?_) (fun q32 => ?_)
        · refine zs_iinc_4 (pc := 49)  (by first | exact zn_i | exact zn_r | exact zn_0) (by decide) dX8_holds_49 ?_
          refine zr_goto (pc := 52)  (tgt := 8) (by decide) dX8_holds_52 ?_
          exact ih (by omega) (he.trans (hf (by omega)))
        · refine zr_aload_n (pc := 35)  (i := 0) rfl rfl dX8_holds_35 ?_
          refine zr_get (pc := 36)  fl_X8_36 (by first | assumption | rfl | (repeat (first | assumption | exact zup_s | refine zup_g (by decide) ?_))) rfl dX8_holds_36 ?_
          refine zr_iload (pc := 39)  rfl dX8_holds_39 ?_
          refine zr_iald (pc := 41)  (by first | assumption | rfl | (repeat (first | assumption | exact zup_s | refine zup_g (by decide) ?_))) ⟨by omega, by omega⟩ (by decide) dX8_holds_41 ?_
          refine zr_iload_n (pc := 42)  (i := 3) rfl rfl dX8_holds_42 ?_
          refine zr_icmp_gt (pc := 43)  (tgt := 49) ⟨by omega, by omega⟩ ⟨by omega, by omega⟩ (by decide) dX8_holds_43 (fun q43 => ?_) (fun q43 => ?_)
          · refine zs_iinc_4 (pc := 49)  (by first | exact zn_i | exact zn_r | exact zn_0) (by decide) dX8_holds_49 ?_
            refine zr_goto (pc := 52)  (tgt := 8) (by decide) dX8_holds_52 ?_
            exact ih (by omega) (he.trans (hf (by omega)))
          · refine zr_iload (pc := 46)  rfl dX8_holds_46 ?_
            refine zr_ireturn (pc := 48)  rfl (by decide) (by decide) dX8_holds_48 ?_
            rw [he, hz, if_pos (by simp only [Bool.and_eq_true, beq_iff_eq, decide_eq_true_eq]; omega)] at kk
            exact kk
theorem k_X8_holds {r d t : Int} (m38 : h 38 = some (oMod th len N now al pm pd sq up lw)) (m45 : h 45 = some (aI 600 (fun e => pl e / 84))) (m46 : h 46 = some (aI 600 (fun e => pl e % 84))) (m47 : h 47 = some (aI 600 bt)) (hN : N ≤ 600) (hp : ∀ e, 0 ≤ pl e ∧ pl e < 1344) (hb : ∀ i, 0 ≤ bt i ∧ bt i ≤ 99) (hr : iR r) (hd : 0 ≤ d ∧ d < 84) (ht : iR t) (k : Post (some (vi (holdZ pl bt N (r * 84 + d) t))) n h) : zMP G mX8_holds [.ref 38, vi r, vi d, vi t] n h Post := by
  refine zMP_of (by decide) [some _, some _, some _, some _, none] (Nat.le_of_ble_eq_true rfl) rfl ?_
  refine zr_aload_n (pc := 0)  (i := 0) rfl rfl dX8_holds_0 ?_
  refine zr_get (pc := 1)  fl_X8_102 (by first | assumption | rfl | (repeat (first | assumption | exact zup_s | refine zup_g (by decide) ?_))) rfl dX8_holds_1 ?_
  refine zr_iconst (pc := 4)  dX8_holds_4 ?_
  refine zr_isub (pc := 5)  dX8_holds_5 ?_
  refine zs_istore_4 (pc := 6)  (by first | exact zn_i | exact zn_r | exact zn_0) (by decide) dX8_holds_6 ?_
  exact l_X8_holds m38 m45 m46 m47 hN hp hb hr hd ht k N (Nat.le_refl _) rfl
theorem k_X8_look {r d t : Int} (m38 : h 38 = some (oMod th len N now al pm pd sq up lw)) (m41 : h 41 = some (aZ 1344 ap)) (m45 : h 45 = some (aI 600 (fun e => pl e / 84))) (m46 : h 46 = some (aI 600 (fun e => pl e % 84))) (m47 : h 47 = some (aI 600 bt)) (m48 : h 48 = some (aI 600 bc)) (hN : N ≤ 600) (hp : ∀ e, 0 ≤ pl e ∧ pl e < 1344) (hb : ∀ i, 0 ≤ bt i ∧ bt i ≤ 99) (i3 : ∀ i, ap i = 0 ∨ ap i = 1) (hr : 0 ≤ r ∧ r < 16) (hd : 0 ≤ d ∧ d < 84) (ht : iR t) (k : Post (some (vi (SA ap bc pl bt N t (r * 84 + d)))) n h) : zMP G mX8_look [.ref 38, vi r, vi d, vi t] n h Post := by
  have hh := lastE_R (fun e => pl e == r * 84 + d && decide (bt e ≤ t)) N
  have hh : -1 ≤ holdZ pl bt N (r * 84 + d) t ∧ holdZ pl bt N (r * 84 + d) t < N := hh
  have i3p := i3 (84 * r + d)
  have e : SA ap bc pl bt N t (r * 84 + d) = if ap (84 * r + d) = 1 then -3 else if holdZ pl bt N (r * 84 + d) t = -1 then -2 else bc (holdZ pl bt N (r * 84 + d) t) := by rw [Int.mul_comm 84 r]; rfl
  rw [e] at k
  refine zMP_of (by decide) [some _, some _, some _, some _, none] (Nat.le_of_ble_eq_true rfl) rfl ?_
  refine zr_aload_n (pc := 0)  (i := 0) rfl rfl dX8_look_0 ?_
  refine zr_get (pc := 1)  fl_X8_17 (by first | assumption | rfl | (repeat (first | assumption | exact zup_s | refine zup_g (by decide) ?_))) rfl dX8_look_1 ?_
  refine zr_bipush (pc := 4)  (by decide) dX8_look_4 ?_
  refine zr_iload_n (pc := 6)  (i := 1) rfl rfl dX8_look_6 ?_
  refine zr_imul (pc := 7)  dX8_look_7 ?_
  refine zr_iload_n (pc := 8)  (i := 2) rfl rfl dX8_look_8 ?_
  refine zr_iadd (pc := 9)  dX8_look_9 ?_
  refine zr_zald (pc := 10)  (by first | assumption | rfl | (repeat (first | assumption | exact zup_s | refine zup_g (by decide) ?_))) ⟨by omega, by omega⟩ (by decide) dX8_look_10 ?_
  refine zr_if_eq (pc := 11)  (tgt := 17) ⟨by omega, by omega⟩ (by decide) dX8_look_11 (fun q11 => ?_) (fun q11 => ?_)
  · refine zr_aload_n (pc := 17)  (i := 0) rfl rfl dX8_look_17 ?_
    refine zr_iload_n (pc := 18)  (i := 1) rfl rfl dX8_look_18 ?_
    refine zr_iload_n (pc := 19)  (i := 2) rfl rfl dX8_look_19 ?_
    refine zr_iload_n (pc := 20)  (i := 3) rfl rfl dX8_look_20 ?_
    refine zv_call3 (pc := 21)  cv_X8_look_127 (by first | assumption | rfl | (repeat (first | assumption | exact zup_s | refine zup_g (by decide) ?_))) ⟨_, rfl, rfl⟩ (Nat.le_of_ble_eq_true rfl) (by decide) dX8_look_21 ?_
    refine k_X8_holds m38 m45 m46 m47 hN hp hb ⟨by omega, by omega⟩ hd ht ?_
    dsimp only [Option.toList, List.cons_append, List.nil_append]
    refine zs_istore_4 (pc := 24)  (by first | exact zn_i | exact zn_r | exact zn_0) (by decide) dX8_look_24 ?_
    refine zr_iload (pc := 26)  rfl dX8_look_26 ?_
    refine zr_if_ge (pc := 28)  (tgt := 36) ⟨by omega, by omega⟩ (by decide) dX8_look_28 (fun q28 => ?_) (fun q28 => ?_)
    · refine zr_aload_n (pc := 36)  (i := 0) rfl rfl dX8_look_36 ?_
      refine zr_get (pc := 37)  fl_X8_39 (by first | assumption | rfl | (repeat (first | assumption | exact zup_s | refine zup_g (by decide) ?_))) rfl dX8_look_37 ?_
      refine zr_iload (pc := 40)  rfl dX8_look_40 ?_
      refine zr_iald (pc := 42)  (by first | assumption | rfl | (repeat (first | assumption | exact zup_s | refine zup_g (by decide) ?_))) ⟨by omega, by omega⟩ (by decide) dX8_look_42 ?_
      refine zr_ireturn (pc := 43)  rfl (by decide) (by decide) dX8_look_43 ?_
      first | (rw [if_pos (by omega)] at k; exact k) | (rw [if_neg (by omega), if_pos (by omega)] at k; exact k) | (rw [if_neg (by omega), if_neg (by omega)] at k; exact k)
    · refine zr_bipush (pc := 31)  (by decide) dX8_look_31 ?_
      refine zr_goto (pc := 33)  (tgt := 43) (by decide) dX8_look_33 ?_
      refine zr_ireturn (pc := 43)  rfl (by decide) (by decide) dX8_look_43 ?_
      first | (rw [if_pos (by omega)] at k; exact k) | (rw [if_neg (by omega), if_pos (by omega)] at k; exact k) | (rw [if_neg (by omega), if_neg (by omega)] at k; exact k)
  · refine zr_bipush (pc := 14)  (by decide) dX8_look_14 ?_
    refine zr_ireturn (pc := 16)  rfl (by decide) (by decide) dX8_look_16 ?_
    first | (rw [if_pos (by omega)] at k; exact k) | (rw [if_neg (by omega), if_pos (by omega)] at k; exact k) | (rw [if_neg (by omega), if_neg (by omega)] at k; exact k)
end MODB
