theorem k3_out {g : Int → Int} {i a b c j : Int} (h : j < i) : k3 g i a b c j = g j := by unfold k3; rw [uZ_n (by omega), uZ_n (by omega), uZ_n (by omega)]
theorem k3_at {g g2 : Int → Int} {i a b c x : Int} (h : 0 ≤ x ∧ x < 3) : k3 g i a b c (i + x) = k3 g2 i a b c (i + x) := by
  have : x = 0 ∨ x = 1 ∨ x = 2 := by omega
  unfold k3 uZ
  rcases this with rfl | rfl | rfl
  · rw [if_neg (by omega), if_neg (by omega), if_pos (by omega), if_neg (by omega), if_neg (by omega), if_pos (by omega)]
  · rw [if_neg (by omega), if_pos (by omega), if_neg (by omega), if_pos (by omega)]
  · rw [if_pos (by omega), if_pos (by omega)]
theorem pl_u {pl : Int → Int} {N r d : Int} (hd : 0 ≤ d ∧ d < 84) : (fun e => uZ pl N (r * 84 + d) e / 84) = uZ (fun e => pl e / 84) N r ∧ (fun e => uZ pl N (r * 84 + d) e % 84) = uZ (fun e => pl e % 84) N d := by
  refine ⟨funext fun e => ?_, funext fun e => ?_⟩
  · unfold uZ; dsimp only; split <;> omega
  · unfold uZ; dsimp only; split <;> omega
theorem pl_s {pl : Int → Int} {N r d L : Int} (hd : 0 ≤ d ∧ d ≤ 84 - L) : (fun e => seg pl N L (fun i => r * 84 + d + i) e / 84) = seg (fun e => pl e / 84) N L (fun _ => r) ∧ (fun e => seg pl N L (fun i => r * 84 + d + i) e % 84) = seg (fun e => pl e % 84) N L (fun i => d + i) := by
  refine ⟨funext fun e => ?_, funext fun e => ?_⟩
  · unfold seg; dsimp only; split <;> omega
  · unfold seg; dsimp only; split <;> omega
theorem ekR_c {N : Nat} {bc bk ek : Int → Int} {v a b c : Int} (h : ekR N bc bk ek) : ekR (N + 1) (uZ bc N v) (k3 bk (N * 3) a b c) (k3 ek (N * 3) a b c) := by
  intro e e0 e1 hb x x0 x3
  by_cases q : e = N
  · rw [q]; exact k3_at ⟨x0, x3⟩
  · rw [uZ_n q] at hb
    rw [k3_out (by omega), k3_out (by omega)]
    exact h e e0 (by omega) hb x x0 x3
theorem ekR_s {N : Nat} {bc bk ek tb : Int → Int} {L : Int} (hL : 0 ≤ L) (h : ekR N bc bk ek) : ekR (N + L.toNat) (seg bc N L (fun i => cvZ (tb i))) (seg bk (N * 3) (L * 3) (kfZ tb)) (seg ek (N * 3) (L * 3) (kgZ tb)) := by
  intro e e0 e1 hb x x0 x3
  by_cases q : (N : Int) ≤ e
  · rw [seg_in (by omega)] at hb
    rw [seg_in (by omega), seg_in (by omega)]
    unfold kfZ kgZ
    split
    · rw [show (e * 3 + x - N * 3) / 3 = e - N by omega]
      unfold cvZ at hb
      unfold kvZ
      split at hb
      · omega
      · rename_i z; rw [if_neg z]
    · rfl
  · rw [seg_out (by omega)] at hb
    rw [seg_out (by omega), seg_out (by omega)]
    exact h e e0 (by omega) hb x x0 x3
section MOD2
variable {G : zG} {n : Nat} {h : zH} {Post : Option Value → Nat → zH → Prop} {th len now num : Int} {tb rk rs rg gr bt bc bk be bn ap pl : Int → Int} {N : Nat}
theorem k_X8_count {r d : Int} (hM : mK h th now len tb rk rs rg gr N bt bc bk ap pl) (hI : oI now len tb rk rs rg gr num N bt bc be bn ap pl) (hr : iR r) (hd : iR d) (k1 : ((((0 ≤ r ∧ r < 16) ∧ rk r = 1) ∧ (0 ≤ d ∧ d < 84)) ∧ len = 7 ∧ N < 600) ∧ (0 ≤ ckZ tb ∧ ckZ tb ≤ 50) → ∀ h', mK h' 0 now 0 tb rk rs rg gr (N + 1) (uZ bt N now) (uZ bc N (ckZ tb)) (k3 bk (N * 3) (tb 0 + tb 3) (tb 1 + tb 4) (tb 2 + tb 5)) ap (uZ pl N (r * 84 + d)) → (∀ j, j < 38 ∨ 64 < j → h' j = h j) → Post (some (vi (ckZ tb))) n h') (k0 : ¬ (((((0 ≤ r ∧ r < 16) ∧ rk r = 1) ∧ (0 ≤ d ∧ d < 84)) ∧ len = 7 ∧ N < 600) ∧ (0 ≤ ckZ tb ∧ ckZ tb ≤ 50)) → ∀ h', mK h' 0 now 0 tb rk rs rg gr N bt bc bk ap pl → (∀ j, j < 38 ∨ 64 < j → h' j = h j) → Post (some (vi (-1))) n h') : zMP G mX8_count [.ref 38, vi r, vi d] n h Post := by
  obtain ⟨⟨al, pm, pd, sq, up, lw, m38⟩, ⟨ek, hA, hE⟩, hT, hp⟩ := hM
  obtain ⟨i1, i2, i3, i4, i5, i6, i7, i8, i9, i10⟩ := hI
  have hA' := hA
  obtain ⟨m39, m40, m41, m42, m43, m44, m45, m46, m47, m48, m49⟩ := hA'
  have hN6 := i10.2.2.2.2
  have t0 := i3 0
  have t1 := i3 1
  have t2 := i3 2
  have t3 := i3 3
  have t4 := i3 4
  have t5 := i3 5
  have t6 := i3 6
  have eck : tb 0 + tb 1 + tb 2 + tb 3 + tb 4 + tb 5 - tb 6 = ckZ tb := by unfold ckZ; omega
  have k0' : ¬ (((((0 ≤ r ∧ r < 16) ∧ rk r = 1) ∧ (0 ≤ d ∧ d < 84)) ∧ len = 7 ∧ N < 600) ∧ (0 ≤ ckZ tb ∧ ckZ tb ≤ 50)) → Post (some (vi (-1))) n (zup h 38 (oMod 0 0 N now al pm pd sq up lw)) := fun q => k0 q _ ⟨⟨_, _, _, _, _, _, rfl⟩, ⟨ek, mA_fr hA (fun j a b => zup_n (by omega)), hE⟩, mT_fr hT (fun j a b => zup_n (by omega)), hp⟩ (fun j hj => zup_n (by omega))
  refine zMP_of (by decide) [some _, some _, some _, none, none] (Nat.le_of_ble_eq_true rfl) rfl ?_
  refine zr_aload_n (pc := 0)  (i := 0) rfl rfl dX8_count_0 ?_
  refine zr_iconst (pc := 1)  dX8_count_1 ?_
  refine zr_put (pc := 2)  (oMod _ _ _ _ _ _ _ _ _ _) (fp_X8_91 rfl) (by first | assumption | rfl | (repeat (first | assumption | exact zup_s | refine zup_g (by decide) ?_))) (Nat.le_of_ble_eq_true rfl) rfl rfl rfl dX8_count_2 ?_
  refine zr_aload_n (pc := 5)  (i := 0) rfl rfl dX8_count_5 ?_
  refine zv_call0 (pc := 6)  cv_X8_count_108 (by first | assumption | rfl | (repeat (first | assumption | exact zup_s | refine zup_g (by decide) ?_))) ⟨_, rfl, rfl⟩ (Nat.le_of_ble_eq_true rfl) (by decide) dX8_count_6 ?_
  refine k_X8_taken zup_s ?_
  rw [zup_zup]
  dsimp only [Option.toList, List.cons_append, List.nil_append]
  refine zs_istore_n_3 (pc := 9)  (by first | exact zn_i | exact zn_r | exact zn_0) (by decide) dX8_count_9 ?_
  refine zr_aload_n (pc := 10)  (i := 0) rfl rfl dX8_count_10 ?_
  refine zr_iload_n (pc := 11)  (i := 1) rfl rfl dX8_count_11 ?_
  refine zv_call1 (pc := 12)  cv_X8_count_112 (by first | assumption | rfl | (repeat (first | assumption | exact zup_s | refine zup_g (by decide) ?_))) ⟨_, rfl, rfl⟩ (Nat.le_of_ble_eq_true rfl) (by decide) dX8_count_12 ?_
  refine k_X8_isRoad (by first | assumption | omega | (refine ⟨?_, ?_⟩ <;> omega) | rfl | (repeat (first | assumption | exact zup_s | refine zup_g (by decide) ?_))) (by first | assumption | omega | (refine ⟨?_, ?_⟩ <;> omega) | rfl | (repeat (first | assumption | exact zup_s | refine zup_g (by decide) ?_))) (by first | assumption | omega | (refine ⟨?_, ?_⟩ <;> omega) | rfl | (repeat (first | assumption | exact zup_s | refine zup_g (by decide) ?_))) (by first | assumption | omega | (refine ⟨?_, ?_⟩ <;> omega) | rfl | (repeat (first | assumption | exact zup_s | refine zup_g (by decide) ?_))) ?_
  dsimp only [Option.toList, List.cons_append, List.nil_append]
  refine zb_eq (pc := 15) (tgt := 41) (by decide) dX8_count_15 (fun q15 => ?_) (fun q15 => ?_)
  · refine zr_iconst (pc := 41)  dX8_count_41 ?_
    refine zr_ireturn (pc := 42)  rfl (by decide) (by decide) dX8_count_42 ?_
    exact k0' (by omega)
  · refine zr_iload_n (pc := 18)  (i := 2) rfl rfl dX8_count_18 ?_
    refine zc_call1 (pc := 19)  cs_X8_count_116 (Nat.le_of_ble_eq_true rfl) (by decide) dX8_count_19 ?_
    refine k_X8_isDay (by first | assumption | omega | (refine ⟨?_, ?_⟩ <;> omega) | rfl | (repeat (first | assumption | exact zup_s | refine zup_g (by decide) ?_))) ?_
    dsimp only [Option.toList, List.cons_append, List.nil_append]
    refine zb_eq (pc := 22) (tgt := 41) (by decide) dX8_count_22 (fun q22 => ?_) (fun q22 => ?_)
    · refine zr_iconst (pc := 41)  dX8_count_41 ?_
      refine zr_ireturn (pc := 42)  rfl (by decide) (by decide) dX8_count_42 ?_
      exact k0' (by omega)
    · refine zr_iload_n (pc := 25)  (i := 3) rfl rfl dX8_count_25 ?_
      refine zr_bipush (pc := 26)  (by decide) dX8_count_26 ?_
      refine zr_icmp_ne (pc := 28)  (tgt := 41) ⟨by omega, by omega⟩ ⟨by omega, by omega⟩ (by decide) dX8_count_28 (fun q28 => ?_) (fun q28 => ?_)
      · refine zr_iconst (pc := 41)  dX8_count_41 ?_
        refine zr_ireturn (pc := 42)  rfl (by decide) (by decide) dX8_count_42 ?_
        exact k0' (by omega)
      · refine zr_aload_n (pc := 31)  (i := 0) rfl rfl dX8_count_31 ?_
        refine zr_get (pc := 32)  fl_X8_102 (by first | assumption | rfl | (repeat (first | assumption | exact zup_s | refine zup_g (by decide) ?_))) rfl dX8_count_32 ?_
        refine zr_sipush (pc := 35)  (by decide) dX8_count_35 ?_
        refine zr_icmp_ne (pc := 38)  (tgt := 43) ⟨by omega, by omega⟩ ⟨by omega, by omega⟩ (by decide) dX8_count_38 (fun q38 => ?_) (fun q38 => ?_)
        · refine zr_aload_n (pc := 43)  (i := 0) rfl rfl dX8_count_43 ?_
          refine zr_iconst (pc := 44)  dX8_count_44 ?_
          refine zv_call1 (pc := 45)  cv_X8_count_119 (by first | assumption | rfl | (repeat (first | assumption | exact zup_s | refine zup_g (by decide) ?_))) ⟨_, rfl, rfl⟩ (Nat.le_of_ble_eq_true rfl) (by decide) dX8_count_45 ?_
          refine k_X8_at zup_s m39 i3 (by omega) ?_
          dsimp only [Option.toList, List.cons_append, List.nil_append]
          refine zr_aload_n (pc := 48)  (i := 0) rfl rfl dX8_count_48 ?_
          refine zr_iconst (pc := 49)  dX8_count_49 ?_
          refine zv_call1 (pc := 50)  cv_X8_count_119 (by first | assumption | rfl | (repeat (first | assumption | exact zup_s | refine zup_g (by decide) ?_))) ⟨_, rfl, rfl⟩ (Nat.le_of_ble_eq_true rfl) (by decide) dX8_count_50 ?_
          refine k_X8_at zup_s m39 i3 (by omega) ?_
          dsimp only [Option.toList, List.cons_append, List.nil_append]
          refine zr_iadd (pc := 53)  dX8_count_53 ?_
          refine zr_aload_n (pc := 54)  (i := 0) rfl rfl dX8_count_54 ?_
          refine zr_iconst (pc := 55)  dX8_count_55 ?_
          refine zv_call1 (pc := 56)  cv_X8_count_119 (by first | assumption | rfl | (repeat (first | assumption | exact zup_s | refine zup_g (by decide) ?_))) ⟨_, rfl, rfl⟩ (Nat.le_of_ble_eq_true rfl) (by decide) dX8_count_56 ?_
          refine k_X8_at zup_s m39 i3 (by omega) ?_
          dsimp only [Option.toList, List.cons_append, List.nil_append]
          refine zr_iadd (pc := 59)  dX8_count_59 ?_
          refine zr_aload_n (pc := 60)  (i := 0) rfl rfl dX8_count_60 ?_
          refine zr_iconst (pc := 61)  dX8_count_61 ?_
          refine zv_call1 (pc := 62)  cv_X8_count_119 (by first | assumption | rfl | (repeat (first | assumption | exact zup_s | refine zup_g (by decide) ?_))) ⟨_, rfl, rfl⟩ (Nat.le_of_ble_eq_true rfl) (by decide) dX8_count_62 ?_
          refine k_X8_at zup_s m39 i3 (by omega) ?_
          dsimp only [Option.toList, List.cons_append, List.nil_append]
          refine zr_iadd (pc := 65)  dX8_count_65 ?_
          refine zr_aload_n (pc := 66)  (i := 0) rfl rfl dX8_count_66 ?_
          refine zr_iconst (pc := 67)  dX8_count_67 ?_
          refine zv_call1 (pc := 68)  cv_X8_count_119 (by first | assumption | rfl | (repeat (first | assumption | exact zup_s | refine zup_g (by decide) ?_))) ⟨_, rfl, rfl⟩ (Nat.le_of_ble_eq_true rfl) (by decide) dX8_count_68 ?_
          refine k_X8_at zup_s m39 i3 (by omega) ?_
          dsimp only [Option.toList, List.cons_append, List.nil_append]
          refine zr_iadd (pc := 71)  dX8_count_71 ?_
          refine zr_aload_n (pc := 72)  (i := 0) rfl rfl dX8_count_72 ?_
          refine zr_iconst (pc := 73)  dX8_count_73 ?_
          refine zv_call1 (pc := 74)  cv_X8_count_119 (by first | assumption | rfl | (repeat (first | assumption | exact zup_s | refine zup_g (by decide) ?_))) ⟨_, rfl, rfl⟩ (Nat.le_of_ble_eq_true rfl) (by decide) dX8_count_74 ?_
          refine k_X8_at zup_s m39 i3 (by omega) ?_
          dsimp only [Option.toList, List.cons_append, List.nil_append]
          refine zr_iadd (pc := 77)  dX8_count_77 ?_
          refine zr_aload_n (pc := 78)  (i := 0) rfl rfl dX8_count_78 ?_
          refine zr_bipush (pc := 79)  (by decide) dX8_count_79 ?_
          refine zv_call1 (pc := 81)  cv_X8_count_119 (by first | assumption | rfl | (repeat (first | assumption | exact zup_s | refine zup_g (by decide) ?_))) ⟨_, rfl, rfl⟩ (Nat.le_of_ble_eq_true rfl) (by decide) dX8_count_81 ?_
          refine k_X8_at zup_s m39 i3 (by omega) ?_
          dsimp only [Option.toList, List.cons_append, List.nil_append]
          refine zr_isub (pc := 84)  dX8_count_84 ?_
          rw [eck]
          refine zs_istore_4 (pc := 85)  (by first | exact zn_i | exact zn_r | exact zn_0) (by decide) dX8_count_85 ?_
          refine zr_iload (pc := 87)  rfl dX8_count_87 ?_
          refine zr_if_lt (pc := 89)  (tgt := 99) ⟨by omega, by omega⟩ (by decide) dX8_count_89 (fun q89 => ?_) (fun q89 => ?_)
          · refine zr_iconst (pc := 99)  dX8_count_99 ?_
            refine zr_ireturn (pc := 100)  rfl (by decide) (by decide) dX8_count_100 ?_
            exact k0' (by omega)
          · refine zr_iload (pc := 92)  rfl dX8_count_92 ?_
            refine zr_bipush (pc := 94)  (by decide) dX8_count_94 ?_
            refine zr_icmp_le (pc := 96)  (tgt := 101) ⟨by omega, by omega⟩ ⟨by omega, by omega⟩ (by decide) dX8_count_96 (fun q96 => ?_) (fun q96 => ?_)
            · refine zr_aload_n (pc := 101)  (i := 0) rfl rfl dX8_count_101 ?_
              refine zr_iload_n (pc := 102)  (i := 1) rfl rfl dX8_count_102 ?_
              refine zr_iload_n (pc := 103)  (i := 2) rfl rfl dX8_count_103 ?_
              refine zr_iload (pc := 104)  rfl dX8_count_104 ?_
              refine zr_aload_n (pc := 106)  (i := 0) rfl rfl dX8_count_106 ?_
              refine zr_iconst (pc := 107)  dX8_count_107 ?_
              refine zv_call1 (pc := 108)  cv_X8_count_119 (by first | assumption | rfl | (repeat (first | assumption | exact zup_s | refine zup_g (by decide) ?_))) ⟨_, rfl, rfl⟩ (Nat.le_of_ble_eq_true rfl) (by decide) dX8_count_108 ?_
              refine k_X8_at zup_s m39 i3 (by omega) ?_
              dsimp only [Option.toList, List.cons_append, List.nil_append]
              refine zr_aload_n (pc := 111)  (i := 0) rfl rfl dX8_count_111 ?_
              refine zr_iconst (pc := 112)  dX8_count_112 ?_
              refine zv_call1 (pc := 113)  cv_X8_count_119 (by first | assumption | rfl | (repeat (first | assumption | exact zup_s | refine zup_g (by decide) ?_))) ⟨_, rfl, rfl⟩ (Nat.le_of_ble_eq_true rfl) (by decide) dX8_count_113 ?_
              refine k_X8_at zup_s m39 i3 (by omega) ?_
              dsimp only [Option.toList, List.cons_append, List.nil_append]
              refine zr_iadd (pc := 116)  dX8_count_116 ?_
              refine zr_aload_n (pc := 117)  (i := 0) rfl rfl dX8_count_117 ?_
              refine zr_iconst (pc := 118)  dX8_count_118 ?_
              refine zv_call1 (pc := 119)  cv_X8_count_119 (by first | assumption | rfl | (repeat (first | assumption | exact zup_s | refine zup_g (by decide) ?_))) ⟨_, rfl, rfl⟩ (Nat.le_of_ble_eq_true rfl) (by decide) dX8_count_119 ?_
              refine k_X8_at zup_s m39 i3 (by omega) ?_
              dsimp only [Option.toList, List.cons_append, List.nil_append]
              refine zr_aload_n (pc := 122)  (i := 0) rfl rfl dX8_count_122 ?_
              refine zr_iconst (pc := 123)  dX8_count_123 ?_
              refine zv_call1 (pc := 124)  cv_X8_count_119 (by first | assumption | rfl | (repeat (first | assumption | exact zup_s | refine zup_g (by decide) ?_))) ⟨_, rfl, rfl⟩ (Nat.le_of_ble_eq_true rfl) (by decide) dX8_count_124 ?_
              refine k_X8_at zup_s m39 i3 (by omega) ?_
              dsimp only [Option.toList, List.cons_append, List.nil_append]
              refine zr_iadd (pc := 127)  dX8_count_127 ?_
              refine zr_aload_n (pc := 128)  (i := 0) rfl rfl dX8_count_128 ?_
              refine zr_iconst (pc := 129)  dX8_count_129 ?_
              refine zv_call1 (pc := 130)  cv_X8_count_119 (by first | assumption | rfl | (repeat (first | assumption | exact zup_s | refine zup_g (by decide) ?_))) ⟨_, rfl, rfl⟩ (Nat.le_of_ble_eq_true rfl) (by decide) dX8_count_130 ?_
              refine k_X8_at zup_s m39 i3 (by omega) ?_
              dsimp only [Option.toList, List.cons_append, List.nil_append]
              refine zr_aload_n (pc := 133)  (i := 0) rfl rfl dX8_count_133 ?_
              refine zr_iconst (pc := 134)  dX8_count_134 ?_
              refine zv_call1 (pc := 135)  cv_X8_count_119 (by first | assumption | rfl | (repeat (first | assumption | exact zup_s | refine zup_g (by decide) ?_))) ⟨_, rfl, rfl⟩ (Nat.le_of_ble_eq_true rfl) (by decide) dX8_count_135 ?_
              refine k_X8_at zup_s m39 i3 (by omega) ?_
              dsimp only [Option.toList, List.cons_append, List.nil_append]
              refine zr_iadd (pc := 138)  dX8_count_138 ?_
              refine zv_call6 (pc := 139)  cv_X8_count_123 (by first | assumption | rfl | (repeat (first | assumption | exact zup_s | refine zup_g (by decide) ?_))) ⟨_, rfl, rfl⟩ (Nat.le_of_ble_eq_true rfl) (by decide) dX8_count_139 ?_
              refine k_X8_enter zup_s m45 m46 m47 m48 m49 (by omega) ?_
              rw [hN_o]
              dsimp only [Option.toList, List.cons_append, List.nil_append]
              refine zr_iload (pc := 142)  rfl dX8_count_142 ?_
              refine zr_ireturn (pc := 144)  rfl (by decide) (by decide) dX8_count_144 ?_
              refine k1 (by omega) _ ⟨⟨_, _, _, _, _, _, rfl⟩, ⟨_, ⟨m39, m40, m41, m42, m43, m44, ?_, ?_, rfl, rfl, rfl⟩, ekR_c hE⟩, mT_fr hT (fun j a b => hN_fr (by omega)), fun e => ?_⟩ (fun j hj => hN_fr (by omega))
              (rw [(pl_u (by omega)).1]; rfl)
              (rw [(pl_u (by omega)).2]; rfl)
              (unfold uZ; split; omega; exact hp e)
            · refine zr_iconst (pc := 99)  dX8_count_99 ?_
              refine zr_ireturn (pc := 100)  rfl (by decide) (by decide) dX8_count_100 ?_
              exact k0' (by omega)
        · refine zr_iconst (pc := 41)  dX8_count_41 ?_
          refine zr_ireturn (pc := 42)  rfl (by decide) (by decide) dX8_count_42 ?_
          exact k0' (by omega)
theorem k_X8_counts {r d : Int} (hM : mK h th now len tb rk rs rg gr N bt bc bk ap pl) (hI : oI now len tb rk rs rg gr num N bt bc be bn ap pl) (hr : iR r) (hd : iR d) (k1 : crOK len tb rk N r d → ∀ (h' : zH), mK h' 0 now 0 tb rk rs rg gr (N + len.toNat) (seg bt N len (fun _ => now)) (seg bc N len (fun i => cvZ (tb i))) (seg bk (N * 3) (len * 3) (kfZ tb)) ap (seg pl N len (fun i => r * 84 + d + i)) → (∀ j, j < 38 ∨ 64 < j → h' j = h j) → Post (some (vi len)) n h') (k0 : ¬ crOK len tb rk N r d → ∀ h', mK h' 0 now 0 tb rk rs rg gr N bt bc bk ap pl → (∀ j, j < 38 ∨ 64 < j → h' j = h j) → Post (some (vi (-1))) n h') : zMP G mX8_counts [.ref 38, vi r, vi d] n h Post := by
  obtain ⟨⟨al, pm, pd, sq, up, lw, m38⟩, ⟨ek, hA, hE⟩, hT, hp⟩ := hM
  obtain ⟨i1, i2, i3, i4, i5, i6, i7, i8, i9, i10⟩ := hI
  have hA' := hA
  obtain ⟨m39, m40, m41, m42, m43, m44, m45, m46, m47, m48, m49⟩ := hA'
  have hN6 := i10.2.2.2.2
  have k0' : ¬ crOK len tb rk N r d → Post (some (vi (-1))) n (zup h 38 (oMod 0 0 N now al pm pd sq up lw)) := fun q => k0 q _ ⟨⟨_, _, _, _, _, _, rfl⟩, ⟨ek, mA_fr hA (fun j a b => zup_n (by omega)), hE⟩, mT_fr hT (fun j a b => zup_n (by omega)), hp⟩ (fun j hj => zup_n (by omega))
  have go : (((0 ≤ r ∧ r < 16) ∧ rk r = 1) ∧ (0 ≤ d ∧ d ≤ 84 - len)) ∧ (N : Int) + len ≤ 600 → zAW G mX8_counts zTT (zF G mX8_counts Post) 47 [some (.ref 38), some (vi r), some (vi d), some (vi len), some (vi 0)] [] n (zup h 38 (oMod 0 0 N now al pm pd sq up lw)) 0 0 := fun q => by
    refine l_X8_counts1 zup_s m39 m45 m46 m47 m48 m49 i3 hr (by omega) i2 (by omega) (fun z => k0' (fun y => z y.2)) (fun z => ?_) 200 0 (by omega) (by omega) (by omega) (fun i a b => by omega)
    rw [hN_o, show (N : Int) + len = ((N + len.toNat : Nat) : Int) by omega]
    refine k1 ⟨q, z⟩ _ ⟨⟨_, _, _, _, _, _, rfl⟩, ⟨_, ⟨m39, m40, m41, m42, m43, m44, ?_, ?_, rfl, rfl, rfl⟩, ekR_s i2.1 hE⟩, mT_fr hT (fun j a b => hN_fr (by omega)), fun e => ?_⟩ (fun j hj => hN_fr (by omega))
    · rw [(pl_s (by omega)).1]; rfl
    · rw [(pl_s (by omega)).2]; rfl
    · unfold seg
      dsimp only
      split
      · omega
      · exact hp e
  refine zMP_of (by decide) [some _, some _, some _, none, none] (Nat.le_of_ble_eq_true rfl) rfl ?_
  refine zr_aload_n (pc := 0)  (i := 0) rfl rfl dX8_counts_0 ?_
  refine zr_iconst (pc := 1)  dX8_counts_1 ?_
  refine zr_put (pc := 2)  (oMod _ _ _ _ _ _ _ _ _ _) (fp_X8_91 rfl) (by first | assumption | rfl | (repeat (first | assumption | exact zup_s | refine zup_g (by decide) ?_))) (Nat.le_of_ble_eq_true rfl) rfl rfl rfl dX8_counts_2 ?_
  refine zr_aload_n (pc := 5)  (i := 0) rfl rfl dX8_counts_5 ?_
  refine zv_call0 (pc := 6)  cv_X8_counts_108 (by first | assumption | rfl | (repeat (first | assumption | exact zup_s | refine zup_g (by decide) ?_))) ⟨_, rfl, rfl⟩ (Nat.le_of_ble_eq_true rfl) (by decide) dX8_counts_6 ?_
  refine k_X8_taken zup_s ?_
  rw [zup_zup]
  dsimp only [Option.toList, List.cons_append, List.nil_append]
  refine zs_istore_n_3 (pc := 9)  (by first | exact zn_i | exact zn_r | exact zn_0) (by decide) dX8_counts_9 ?_
  refine zr_aload_n (pc := 10)  (i := 0) rfl rfl dX8_counts_10 ?_
  refine zr_iload_n (pc := 11)  (i := 1) rfl rfl dX8_counts_11 ?_
  refine zv_call1 (pc := 12)  cv_X8_counts_112 (by first | assumption | rfl | (repeat (first | assumption | exact zup_s | refine zup_g (by decide) ?_))) ⟨_, rfl, rfl⟩ (Nat.le_of_ble_eq_true rfl) (by decide) dX8_counts_12 ?_
  refine k_X8_isRoad (by first | assumption | omega | (refine ⟨?_, ?_⟩ <;> omega) | rfl | (repeat (first | assumption | exact zup_s | refine zup_g (by decide) ?_))) (by first | assumption | omega | (refine ⟨?_, ?_⟩ <;> omega) | rfl | (repeat (first | assumption | exact zup_s | refine zup_g (by decide) ?_))) (by first | assumption | omega | (refine ⟨?_, ?_⟩ <;> omega) | rfl | (repeat (first | assumption | exact zup_s | refine zup_g (by decide) ?_))) (by first | assumption | omega | (refine ⟨?_, ?_⟩ <;> omega) | rfl | (repeat (first | assumption | exact zup_s | refine zup_g (by decide) ?_))) ?_
  dsimp only [Option.toList, List.cons_append, List.nil_append]
  refine zb_eq (pc := 15) (tgt := 42) (by decide) dX8_counts_15 (fun q15 => ?_) (fun q15 => ?_)
  · refine zr_iconst (pc := 42)  dX8_counts_42 ?_
    refine zr_ireturn (pc := 43)  rfl (by decide) (by decide) dX8_counts_43 ?_
    exact k0' (fun z => by have := z.1; omega)
  · refine zr_iload_n (pc := 18)  (i := 2) rfl rfl dX8_counts_18 ?_
    refine zr_if_lt (pc := 19)  (tgt := 42) ⟨by omega, by omega⟩ (by decide) dX8_counts_19 (fun q19 => ?_) (fun q19 => ?_)
    · refine zr_iconst (pc := 42)  dX8_counts_42 ?_
      refine zr_ireturn (pc := 43)  rfl (by decide) (by decide) dX8_counts_43 ?_
      exact k0' (fun z => by have := z.1; omega)
    · refine zr_iload_n (pc := 22)  (i := 2) rfl rfl dX8_counts_22 ?_
      refine zr_bipush (pc := 23)  (by decide) dX8_counts_23 ?_
      refine zr_iload_n (pc := 25)  (i := 3) rfl rfl dX8_counts_25 ?_
      refine zr_isub (pc := 26)  dX8_counts_26 ?_
      refine zr_icmp_gt (pc := 27)  (tgt := 42) ⟨by omega, by omega⟩ ⟨by omega, by omega⟩ (by decide) dX8_counts_27 (fun q27 => ?_) (fun q27 => ?_)
      · refine zr_iconst (pc := 42)  dX8_counts_42 ?_
        refine zr_ireturn (pc := 43)  rfl (by decide) (by decide) dX8_counts_43 ?_
        exact k0' (fun z => by have := z.1; omega)
      · refine zr_aload_n (pc := 30)  (i := 0) rfl rfl dX8_counts_30 ?_
        refine zr_get (pc := 31)  fl_X8_102 (by first | assumption | rfl | (repeat (first | assumption | exact zup_s | refine zup_g (by decide) ?_))) rfl dX8_counts_31 ?_
        refine zr_iload_n (pc := 34)  (i := 3) rfl rfl dX8_counts_34 ?_
        refine zr_iadd (pc := 35)  dX8_counts_35 ?_
        refine zr_sipush (pc := 36)  (by decide) dX8_counts_36 ?_
        refine zr_icmp_le (pc := 39)  (tgt := 44) ⟨by omega, by omega⟩ ⟨by omega, by omega⟩ (by decide) dX8_counts_39 (fun q39 => ?_) (fun q39 => ?_)
        · refine zr_iconst (pc := 44)  dX8_counts_44 ?_
          refine zs_istore_4 (pc := 45)  (by first | exact zn_i | exact zn_r | exact zn_0) (by decide) dX8_counts_45 ?_
          exact go (by omega)
        · refine zr_iconst (pc := 42)  dX8_counts_42 ?_
          refine zr_ireturn (pc := 43)  rfl (by decide) (by decide) dX8_counts_43 ?_
          exact k0' (fun z => by have := z.1; omega)
theorem k_X8_works {r a b on : Int} (hM : mK h th now len tb rk rs rg gr N bt bc bk ap pl) (hI : oI now len tb rk rs rg gr num N bt bc be bn ap pl) (hr : iR r) (ha : iR a) (hb : iR b) (hon : on = 0 ∨ on = 1) (k1 : (((0 ≤ r ∧ r < 16) ∧ rk r = 1) ∧ 0 ≤ a) ∧ a ≤ b ∧ b ≤ 84 → ∀ h', mK h' 0 now len tb rk rs rg gr N bt bc bk (clZ ap (r * 84 + a) (r * 84 + b) on) pl → (∀ j, j < 38 ∨ 64 < j → h' j = h j) → Post (some (vi (sumZ (fun i => ind (ap (r * 84 + (a + i)) ≠ on)) (b - a).toNat))) n h') (k0 : ¬ ((((0 ≤ r ∧ r < 16) ∧ rk r = 1) ∧ 0 ≤ a) ∧ a ≤ b ∧ b ≤ 84) → ∀ h', mK h' 0 now len tb rk rs rg gr N bt bc bk ap pl → (∀ j, j < 38 ∨ 64 < j → h' j = h j) → Post (some (vi (-1))) n h') : zMP G mX8_works [.ref 38, vi r, vi a, vi b, vi on] n h Post := by
  obtain ⟨⟨al, pm, pd, sq, up, lw, m38⟩, ⟨ek, hA, hE⟩, hT, hp⟩ := hM
  obtain ⟨i1, i2, i3, i4, i5, i6, i7, i8, i9, i10⟩ := hI
  have hA' := hA
  obtain ⟨m39, m40, m41, m42, m43, m44, m45, m46, m47, m48, m49⟩ := hA'
  refine zMP_of (by decide) [some _, some _, some _, some _, some _, none, none] (Nat.le_of_ble_eq_true rfl) rfl ?_
  refine zr_aload_n (pc := 0)  (i := 0) rfl rfl dX8_works_0 ?_
  refine zr_iconst (pc := 1)  dX8_works_1 ?_
  refine zr_put (pc := 2)  (oMod _ _ _ _ _ _ _ _ _ _) (fp_X8_91 rfl) (by first | assumption | rfl | (repeat (first | assumption | exact zup_s | refine zup_g (by decide) ?_))) (Nat.le_of_ble_eq_true rfl) rfl rfl rfl dX8_works_2 ?_
  refine zr_aload_n (pc := 5)  (i := 0) rfl rfl dX8_works_5 ?_
  refine zr_iload_n (pc := 6)  (i := 1) rfl rfl dX8_works_6 ?_
  refine zv_call1 (pc := 7)  cv_X8_works_112 (by first | assumption | rfl | (repeat (first | assumption | exact zup_s | refine zup_g (by decide) ?_))) ⟨_, rfl, rfl⟩ (Nat.le_of_ble_eq_true rfl) (by decide) dX8_works_7 ?_
  refine k_X8_isRoad (by first | assumption | omega | (refine ⟨?_, ?_⟩ <;> omega) | rfl | (repeat (first | assumption | exact zup_s | refine zup_g (by decide) ?_))) (by first | assumption | omega | (refine ⟨?_, ?_⟩ <;> omega) | rfl | (repeat (first | assumption | exact zup_s | refine zup_g (by decide) ?_))) (by first | assumption | omega | (refine ⟨?_, ?_⟩ <;> omega) | rfl | (repeat (first | assumption | exact zup_s | refine zup_g (by decide) ?_))) (by first | assumption | omega | (refine ⟨?_, ?_⟩ <;> omega) | rfl | (repeat (first | assumption | exact zup_s | refine zup_g (by decide) ?_))) ?_
  dsimp only [Option.toList, List.cons_append, List.nil_append]
  refine zb_eq (pc := 10) (tgt := 28) (by decide) dX8_works_10 (fun q10 => ?_) (fun q10 => ?_)
  · refine zr_iconst (pc := 28)  dX8_works_28 ?_
    refine zr_ireturn (pc := 29)  rfl (by decide) (by decide) dX8_works_29 ?_
    exact k0 (by omega) _ ⟨⟨_, _, _, _, _, _, rfl⟩, ⟨ek, mA_fr hA (fun j a b => zup_n (by omega)), hE⟩, mT_fr hT (fun j a b => zup_n (by omega)), hp⟩ (fun j hj => zup_n (by omega))
  · refine zr_iload_n (pc := 13)  (i := 2) rfl rfl dX8_works_13 ?_
    refine zr_if_lt (pc := 14)  (tgt := 28) ⟨by omega, by omega⟩ (by decide) dX8_works_14 (fun q14 => ?_) (fun q14 => ?_)
    · refine zr_iconst (pc := 28)  dX8_works_28 ?_
      refine zr_ireturn (pc := 29)  rfl (by decide) (by decide) dX8_works_29 ?_
      exact k0 (by omega) _ ⟨⟨_, _, _, _, _, _, rfl⟩, ⟨ek, mA_fr hA (fun j a b => zup_n (by omega)), hE⟩, mT_fr hT (fun j a b => zup_n (by omega)), hp⟩ (fun j hj => zup_n (by omega))
    · refine zr_iload_n (pc := 17)  (i := 2) rfl rfl dX8_works_17 ?_
      refine zr_iload_n (pc := 18)  (i := 3) rfl rfl dX8_works_18 ?_
      refine zr_icmp_gt (pc := 19)  (tgt := 28) ⟨by omega, by omega⟩ ⟨by omega, by omega⟩ (by decide) dX8_works_19 (fun q19 => ?_) (fun q19 => ?_)
      · refine zr_iconst (pc := 28)  dX8_works_28 ?_
        refine zr_ireturn (pc := 29)  rfl (by decide) (by decide) dX8_works_29 ?_
        exact k0 (by omega) _ ⟨⟨_, _, _, _, _, _, rfl⟩, ⟨ek, mA_fr hA (fun j a b => zup_n (by omega)), hE⟩, mT_fr hT (fun j a b => zup_n (by omega)), hp⟩ (fun j hj => zup_n (by omega))
      · refine zr_iload_n (pc := 22)  (i := 3) rfl rfl dX8_works_22 ?_
        refine zr_bipush (pc := 23)  (by decide) dX8_works_23 ?_
        refine zr_icmp_le (pc := 25)  (tgt := 30) ⟨by omega, by omega⟩ ⟨by omega, by omega⟩ (by decide) dX8_works_25 (fun q25 => ?_) (fun q25 => ?_)
        · refine zr_iconst (pc := 30)  dX8_works_30 ?_
          refine zs_istore_5 (pc := 31)  (by first | exact zn_i | exact zn_r | exact zn_0) (by decide) dX8_works_31 ?_
          refine zr_iload_n (pc := 33)  (i := 2) rfl rfl dX8_works_33 ?_
          refine zs_istore_6 (pc := 34)  (by first | exact zn_i | exact zn_r | exact zn_0) (by decide) dX8_works_34 ?_
          refine zr_heap (show zup h 38 (oMod 0 len N now al pm pd sq up lw) = zup (zup h 38 (oMod 0 len N now al pm pd sq up lw)) 41 (aZ 1344 (clZ ap (r * 84 + a) (r * 84 + a) on)) from by rw [clZ_0]; exact (zup_self (show zup h 38 (oMod 0 len N now al pm pd sq up lw) 41 = some (aZ 1344 ap) from m41)).symm) ?_
          refine l_X8_works zup_s i10.2.2.1 hon (by omega) (by omega) ?_ 84 a 0 (by omega) (by omega) (by omega) (by rw [show (a - a).toNat = 0 by omega]; rfl)
          exact k1 (by omega) _ ⟨⟨_, _, _, _, _, _, rfl⟩, ⟨ek, ⟨m39, m40, rfl, m42, m43, m44, m45, m46, m47, m48, m49⟩, hE⟩, mT_fr hT (fun j a b => by rw [zup_n (by omega), zup_n (by omega)]), hp⟩ (fun j hj => by rw [zup_n (by omega), zup_n (by omega)])
        · refine zr_iconst (pc := 28)  dX8_works_28 ?_
          refine zr_ireturn (pc := 29)  rfl (by decide) (by decide) dX8_works_29 ?_
          exact k0 (by omega) _ ⟨⟨_, _, _, _, _, _, rfl⟩, ⟨ek, mA_fr hA (fun j a b => zup_n (by omega)), hE⟩, mT_fr hT (fun j a b => zup_n (by omega)), hp⟩ (fun j hj => zup_n (by omega))
theorem k_X8_told {w : Int} (hM : mK h th now len tb rk rs rg gr N bt bc bk ap pl) (hI : oI now len tb rk rs rg gr num N bt bc be bn ap pl) (hw : iR w) (k : ∀ h', mK h' 0 now len tb rk rs rg gr N bt bc bk ap pl → (∀ j, j < 38 ∨ 64 < j → h' j = h j) → (w = 0 → Post (some (vi num)) n h') ∧ (w = 1 → Post (some (vi N)) n h') ∧ (w = 2 → Post (some (vi now)) n h') ∧ (w = 3 → Post (some (vi len)) n h') ∧ (w < 0 ∨ 3 < w → Post (some (vi (-1))) n h')) : zMP G mX8_told [.ref 38, vi w] n h Post := by
  obtain ⟨⟨al, pm, pd, sq, up, lw, m38⟩, ⟨ek, hA, hE⟩, hT, hp⟩ := hM
  obtain ⟨i1, i2, i3, i4, i5, i6, i7, i8, i9, i10⟩ := hI
  have hA' := hA
  obtain ⟨m39, m40, -⟩ := hA'
  have kk := k (zup h 38 (oMod 0 len N now al pm pd sq up lw)) ⟨⟨_, _, _, _, _, _, rfl⟩, ⟨ek, mA_fr hA (fun j a b => zup_n (by omega)), hE⟩, mT_fr hT (fun j a b => zup_n (by omega)), hp⟩ (fun j hj => zup_n (by omega))
  obtain ⟨k0, k1, k2, k3, kn⟩ := kk
  refine zMP_of (by decide) [some _, some _, none, none] (Nat.le_of_ble_eq_true rfl) rfl ?_
  refine zr_aload_n (pc := 0)  (i := 0) rfl rfl dX8_told_0 ?_
  refine zr_iconst (pc := 1)  dX8_told_1 ?_
  refine zr_put (pc := 2)  (oMod _ _ _ _ _ _ _ _ _ _) (fp_X8_91 rfl) (by first | assumption | rfl | (repeat (first | assumption | exact zup_s | refine zup_g (by decide) ?_))) (Nat.le_of_ble_eq_true rfl) rfl rfl rfl dX8_told_2 ?_
  refine zr_iload_n (pc := 5)  (i := 1) rfl rfl dX8_told_5 ?_
  rcases (show w = 0 ∨ w = 1 ∨ w = 2 ∨ w = 3 ∨ (w < 0 ∨ 3 < w) by omega) with q | q | q | q | q
  · refine zr_tblIn (pc := 6) (tgt := 36) hw (by omega) (by omega) (by rw [q]; rfl) (by decide) dX8_told_6 ?_
    refine zr_iconst (pc := 36)  dX8_told_36 ?_
    refine zs_istore_n_2 (pc := 37)  (by first | exact zn_i | exact zn_r | exact zn_0) (by decide) dX8_told_37 ?_
    refine zr_iconst (pc := 38)  dX8_told_38 ?_
    refine zs_istore_n_3 (pc := 39)  (by first | exact zn_i | exact zn_r | exact zn_0) (by decide) dX8_told_39 ?_
    exact l_X8_told zup_s m40 i4 (by rw [← i9]; exact k0 q) 16 0 0 (by omega) (by omega) rfl
  · refine zr_tblIn (pc := 6) (tgt := 71) hw (by omega) (by omega) (by rw [q]; rfl) (by decide) dX8_told_6 ?_
    refine zr_aload_n (pc := 71)  (i := 0) rfl rfl dX8_told_71 ?_
    refine zr_get (pc := 72)  fl_X8_102 (by first | assumption | rfl | (repeat (first | assumption | exact zup_s | refine zup_g (by decide) ?_))) rfl dX8_told_72 ?_
    refine zr_ireturn (pc := 75)  rfl (by decide) (by decide) dX8_told_75 ?_
    exact k1 q
  · refine zr_tblIn (pc := 6) (tgt := 76) hw (by omega) (by omega) (by rw [q]; rfl) (by decide) dX8_told_6 ?_
    refine zr_aload_n (pc := 76)  (i := 0) rfl rfl dX8_told_76 ?_
    refine zr_get (pc := 77)  fl_X8_105 (by first | assumption | rfl | (repeat (first | assumption | exact zup_s | refine zup_g (by decide) ?_))) rfl dX8_told_77 ?_
    refine zr_ireturn (pc := 80)  rfl (by decide) (by decide) dX8_told_80 ?_
    exact k2 q
  · refine zr_tblIn (pc := 6) (tgt := 81) hw (by omega) (by omega) (by rw [q]; rfl) (by decide) dX8_told_6 ?_
    refine zr_aload_n (pc := 81)  (i := 0) rfl rfl dX8_told_81 ?_
    refine zr_get (pc := 82)  fl_X8_95 (by first | assumption | rfl | (repeat (first | assumption | exact zup_s | refine zup_g (by decide) ?_))) rfl dX8_told_82 ?_
    refine zr_ireturn (pc := 85)  rfl (by decide) (by decide) dX8_told_85 ?_
    exact k3 q
  · refine zr_tblOut (pc := 6) (tgt := 86) hw q (by decide) dX8_told_6 ?_
    refine zr_iconst (pc := 86)  dX8_told_86 ?_
    refine zr_ireturn (pc := 87)  rfl (by decide) (by decide) dX8_told_87 ?_
    exact kn q
theorem k_X8_seen {r d t : Int} (hM : mK h th now len tb rk rs rg gr N bt bc bk ap pl) (hI : oI now len tb rk rs rg gr num N bt bc be bn ap pl) (hr : iR r) (hd : iR d) (ht : iR t) (k1 : (((0 ≤ r ∧ r < 16) ∧ rk r = 1) ∧ 0 ≤ t) ∧ (0 ≤ d ∧ d < 84) → ∀ h', mK h' 0 now len tb rk rs rg gr N bt bc bk ap pl → (∀ j, j < 38 ∨ 64 < j → h' j = h j) → Post (some (vi (SA ap bc pl bt N t (r * 84 + d)))) n h') (k0 : ¬ ((((0 ≤ r ∧ r < 16) ∧ rk r = 1) ∧ 0 ≤ t) ∧ (0 ≤ d ∧ d < 84)) → ∀ h', mK h' 0 now len tb rk rs rg gr N bt bc bk ap pl → (∀ j, j < 38 ∨ 64 < j → h' j = h j) → Post (some (vi (-4))) n h') : zMP G mX8_seen [.ref 38, vi r, vi d, vi t] n h Post := by
  obtain ⟨⟨al, pm, pd, sq, up, lw, m38⟩, ⟨ek, hA, hE⟩, hT, hp⟩ := hM
  obtain ⟨i1, i2, i3, i4, i5, i6, i7, i8, i9, i10⟩ := hI
  have hA' := hA
  obtain ⟨m39, m40, m41, m42, m43, m44, m45, m46, m47, m48, m49⟩ := hA'
  have hK' : mK (zup h 38 (oMod 0 len N now al pm pd sq up lw)) 0 now len tb rk rs rg gr N bt bc bk ap pl := ⟨⟨_, _, _, _, _, _, rfl⟩, ⟨ek, mA_fr hA (fun j a b => zup_n (by omega)), hE⟩, mT_fr hT (fun j a b => zup_n (by omega)), hp⟩
  refine zMP_of (by decide) [some _, some _, some _, some _] (Nat.le_of_ble_eq_true rfl) rfl ?_
  refine zr_aload_n (pc := 0)  (i := 0) rfl rfl dX8_seen_0 ?_
  refine zr_iconst (pc := 1)  dX8_seen_1 ?_
  refine zr_put (pc := 2)  (oMod _ _ _ _ _ _ _ _ _ _) (fp_X8_91 rfl) (by first | assumption | rfl | (repeat (first | assumption | exact zup_s | refine zup_g (by decide) ?_))) (Nat.le_of_ble_eq_true rfl) rfl rfl rfl dX8_seen_2 ?_
  refine zr_aload_n (pc := 5)  (i := 0) rfl rfl dX8_seen_5 ?_
  refine zr_iload_n (pc := 6)  (i := 1) rfl rfl dX8_seen_6 ?_
  refine zv_call1 (pc := 7)  cv_X8_seen_112 (by first | assumption | rfl | (repeat (first | assumption | exact zup_s | refine zup_g (by decide) ?_))) ⟨_, rfl, rfl⟩ (Nat.le_of_ble_eq_true rfl) (by decide) dX8_seen_7 ?_
  refine k_X8_isRoad (by first | assumption | omega | (refine ⟨?_, ?_⟩ <;> omega) | rfl | (repeat (first | assumption | exact zup_s | refine zup_g (by decide) ?_))) (by first | assumption | omega | (refine ⟨?_, ?_⟩ <;> omega) | rfl | (repeat (first | assumption | exact zup_s | refine zup_g (by decide) ?_))) (by first | assumption | omega | (refine ⟨?_, ?_⟩ <;> omega) | rfl | (repeat (first | assumption | exact zup_s | refine zup_g (by decide) ?_))) (by first | assumption | omega | (refine ⟨?_, ?_⟩ <;> omega) | rfl | (repeat (first | assumption | exact zup_s | refine zup_g (by decide) ?_))) ?_
  dsimp only [Option.toList, List.cons_append, List.nil_append]
  refine zb_eq (pc := 10) (tgt := 24) (by decide) dX8_seen_10 (fun q10 => ?_) (fun q10 => ?_)
  · refine zr_bipush (pc := 24)  (by decide) dX8_seen_24 ?_
    refine zr_goto (pc := 26)  (tgt := 36) (by decide) dX8_seen_26 ?_
    refine zr_ireturn (pc := 36)  rfl (by decide) (by decide) dX8_seen_36 ?_
    first | exact k1 (by omega) _ hK' (fun j hj => zup_n (by omega)) | exact k0 (by omega) _ hK' (fun j hj => zup_n (by omega))
  · refine zr_iload_n (pc := 13)  (i := 2) rfl rfl dX8_seen_13 ?_
    refine zc_call1 (pc := 14)  cs_X8_seen_116 (Nat.le_of_ble_eq_true rfl) (by decide) dX8_seen_14 ?_
    refine k_X8_isDay (by first | assumption | omega | (refine ⟨?_, ?_⟩ <;> omega) | rfl | (repeat (first | assumption | exact zup_s | refine zup_g (by decide) ?_))) ?_
    dsimp only [Option.toList, List.cons_append, List.nil_append]
    refine zb_eq (pc := 17) (tgt := 24) (by decide) dX8_seen_17 (fun q17 => ?_) (fun q17 => ?_)
    · refine zr_bipush (pc := 24)  (by decide) dX8_seen_24 ?_
      refine zr_goto (pc := 26)  (tgt := 36) (by decide) dX8_seen_26 ?_
      refine zr_ireturn (pc := 36)  rfl (by decide) (by decide) dX8_seen_36 ?_
      first | exact k1 (by omega) _ hK' (fun j hj => zup_n (by omega)) | exact k0 (by omega) _ hK' (fun j hj => zup_n (by omega))
    · refine zr_iload_n (pc := 20)  (i := 3) rfl rfl dX8_seen_20 ?_
      refine zr_if_ge (pc := 21)  (tgt := 29) ⟨by omega, by omega⟩ (by decide) dX8_seen_21 (fun q21 => ?_) (fun q21 => ?_)
      · refine zr_aload_n (pc := 29)  (i := 0) rfl rfl dX8_seen_29 ?_
        refine zr_iload_n (pc := 30)  (i := 1) rfl rfl dX8_seen_30 ?_
        refine zr_iload_n (pc := 31)  (i := 2) rfl rfl dX8_seen_31 ?_
        refine zr_iload_n (pc := 32)  (i := 3) rfl rfl dX8_seen_32 ?_
        refine zv_call3 (pc := 33)  cv_X8_seen_131 (by first | assumption | rfl | (repeat (first | assumption | exact zup_s | refine zup_g (by decide) ?_))) ⟨_, rfl, rfl⟩ (Nat.le_of_ble_eq_true rfl) (by decide) dX8_seen_33 ?_
        refine k_X8_look zup_s m41 m45 m46 m47 m48 i10.2.2.2.2 hp i10.1 i10.2.2.1 (by omega) (by omega) ht ?_
        dsimp only [Option.toList, List.cons_append, List.nil_append]
        refine zr_ireturn (pc := 36)  rfl (by decide) (by decide) dX8_seen_36 ?_
        first | exact k1 (by omega) _ hK' (fun j hj => zup_n (by omega)) | exact k0 (by omega) _ hK' (fun j hj => zup_n (by omega))
      · refine zr_bipush (pc := 24)  (by decide) dX8_seen_24 ?_
        refine zr_goto (pc := 26)  (tgt := 36) (by decide) dX8_seen_26 ?_
        refine zr_ireturn (pc := 36)  rfl (by decide) (by decide) dX8_seen_36 ?_
        first | exact k1 (by omega) _ hK' (fun j hj => zup_n (by omega)) | exact k0 (by omega) _ hK' (fun j hj => zup_n (by omega))
theorem k_X8_kind {r d t c : Int} (hM : mK h th now len tb rk rs rg gr N bt bc bk ap pl) (hI : oI now len tb rk rs rg gr num N bt bc be bn ap pl) (hr : iR r) (hd : iR d) (ht : iR t) (hc : iR c) (k1 : ((((0 ≤ r ∧ r < 16) ∧ rk r = 1) ∧ 0 ≤ t) ∧ (0 ≤ d ∧ d < 84)) ∧ (0 ≤ c ∧ c < 3) → 0 ≤ SA ap bc pl bt N t (r * 84 + d) → ∀ h', mK h' 0 now len tb rk rs rg gr N bt bc bk ap pl → (∀ j, j < 38 ∨ 64 < j → h' j = h j) → Post (some (vi (bk (holdZ pl bt N (r * 84 + d) t * 3 + c)))) n h') (k0 : ¬ ((((((0 ≤ r ∧ r < 16) ∧ rk r = 1) ∧ 0 ≤ t) ∧ (0 ≤ d ∧ d < 84)) ∧ (0 ≤ c ∧ c < 3)) ∧ 0 ≤ SA ap bc pl bt N t (r * 84 + d)) → ∀ h', mK h' 0 now len tb rk rs rg gr N bt bc bk ap pl → (∀ j, j < 38 ∨ 64 < j → h' j = h j) → Post (some (vi (-1))) n h') : zMP G mX8_kind [.ref 38, vi r, vi d, vi t, vi c] n h Post := by
  obtain ⟨⟨al, pm, pd, sq, up, lw, m38⟩, ⟨ek, hA, hE⟩, hT, hp⟩ := hM
  obtain ⟨i1, i2, i3, i4, i5, i6, i7, i8, i9, i10⟩ := hI
  have hA' := hA
  obtain ⟨m39, m40, m41, m42, m43, m44, m45, m46, m47, m48, m49⟩ := hA'
  have hN6 := i10.2.2.2.2
  have hh := lastE_R (fun e => pl e == r * 84 + d && decide (bt e ≤ t)) N
  have hh : -1 ≤ holdZ pl bt N (r * 84 + d) t ∧ holdZ pl bt N (r * 84 + d) t < N := hh
  have hbc := i10.2.1 (holdZ pl bt N (r * 84 + d) t)
  have hSR : -3 ≤ SA ap bc pl bt N t (r * 84 + d) ∧ SA ap bc pl bt N t (r * 84 + d) ≤ 50 := by
    show -3 ≤ stZ ap bc pl bt N (r * 84 + d) t ∧ stZ ap bc pl bt N (r * 84 + d) t ≤ 50
    unfold stZ
    (repeat' split) <;> omega
  have hS : 0 ≤ SA ap bc pl bt N t (r * 84 + d) → 0 ≤ holdZ pl bt N (r * 84 + d) t ∧ 0 ≤ bc (holdZ pl bt N (r * 84 + d) t) := fun q => by
    have q2 : 0 ≤ stZ ap bc pl bt N (r * 84 + d) t := q
    unfold stZ at q2
    split at q2
    · omega
    · split at q2
      · omega
      · omega
  have hK' : mK (zup h 38 (oMod 0 len N now al pm pd sq up lw)) 0 now len tb rk rs rg gr N bt bc bk ap pl := ⟨⟨_, _, _, _, _, _, rfl⟩, ⟨ek, mA_fr hA (fun j a b => zup_n (by omega)), hE⟩, mT_fr hT (fun j a b => zup_n (by omega)), hp⟩
  refine zMP_of (by decide) [some _, some _, some _, some _, some _] (Nat.le_of_ble_eq_true rfl) rfl ?_
  refine zr_aload_n (pc := 0)  (i := 0) rfl rfl dX8_kind_0 ?_
  refine zr_iconst (pc := 1)  dX8_kind_1 ?_
  refine zr_put (pc := 2)  (oMod _ _ _ _ _ _ _ _ _ _) (fp_X8_91 rfl) (by first | assumption | rfl | (repeat (first | assumption | exact zup_s | refine zup_g (by decide) ?_))) (Nat.le_of_ble_eq_true rfl) rfl rfl rfl dX8_kind_2 ?_
  refine zr_aload_n (pc := 5)  (i := 0) rfl rfl dX8_kind_5 ?_
  refine zr_iload_n (pc := 6)  (i := 1) rfl rfl dX8_kind_6 ?_
  refine zv_call1 (pc := 7)  cv_X8_kind_112 (by first | assumption | rfl | (repeat (first | assumption | exact zup_s | refine zup_g (by decide) ?_))) ⟨_, rfl, rfl⟩ (Nat.le_of_ble_eq_true rfl) (by decide) dX8_kind_7 ?_
  refine k_X8_isRoad (by first | assumption | omega | (refine ⟨?_, ?_⟩ <;> omega) | rfl | (repeat (first | assumption | exact zup_s | refine zup_g (by decide) ?_))) (by first | assumption | omega | (refine ⟨?_, ?_⟩ <;> omega) | rfl | (repeat (first | assumption | exact zup_s | refine zup_g (by decide) ?_))) (by first | assumption | omega | (refine ⟨?_, ?_⟩ <;> omega) | rfl | (repeat (first | assumption | exact zup_s | refine zup_g (by decide) ?_))) (by first | assumption | omega | (refine ⟨?_, ?_⟩ <;> omega) | rfl | (repeat (first | assumption | exact zup_s | refine zup_g (by decide) ?_))) ?_
  dsimp only [Option.toList, List.cons_append, List.nil_append]
  refine zb_eq (pc := 10) (tgt := 45) (by decide) dX8_kind_10 (fun q10 => ?_) (fun q10 => ?_)
  · refine zr_iconst (pc := 45)  dX8_kind_45 ?_
    refine zr_ireturn (pc := 46)  rfl (by decide) (by decide) dX8_kind_46 ?_
    exact k0 (by omega) _ hK' (fun j hj => zup_n (by omega))
  · refine zr_iload_n (pc := 13)  (i := 2) rfl rfl dX8_kind_13 ?_
    refine zc_call1 (pc := 14)  cs_X8_kind_116 (Nat.le_of_ble_eq_true rfl) (by decide) dX8_kind_14 ?_
    refine k_X8_isDay (by first | assumption | omega | (refine ⟨?_, ?_⟩ <;> omega) | rfl | (repeat (first | assumption | exact zup_s | refine zup_g (by decide) ?_))) ?_
    dsimp only [Option.toList, List.cons_append, List.nil_append]
    refine zb_eq (pc := 17) (tgt := 45) (by decide) dX8_kind_17 (fun q17 => ?_) (fun q17 => ?_)
    · refine zr_iconst (pc := 45)  dX8_kind_45 ?_
      refine zr_ireturn (pc := 46)  rfl (by decide) (by decide) dX8_kind_46 ?_
      exact k0 (by omega) _ hK' (fun j hj => zup_n (by omega))
    · refine zr_iload_n (pc := 20)  (i := 3) rfl rfl dX8_kind_20 ?_
      refine zr_if_lt (pc := 21)  (tgt := 45) ⟨by omega, by omega⟩ (by decide) dX8_kind_21 (fun q21 => ?_) (fun q21 => ?_)
      · refine zr_iconst (pc := 45)  dX8_kind_45 ?_
        refine zr_ireturn (pc := 46)  rfl (by decide) (by decide) dX8_kind_46 ?_
        exact k0 (by omega) _ hK' (fun j hj => zup_n (by omega))
      · refine zr_iload (pc := 24)  rfl dX8_kind_24 ?_
        refine zr_if_lt (pc := 26)  (tgt := 45) ⟨by omega, by omega⟩ (by decide) dX8_kind_26 (fun q26 => ?_) (fun q26 => ?_)
        · refine zr_iconst (pc := 45)  dX8_kind_45 ?_
          refine zr_ireturn (pc := 46)  rfl (by decide) (by decide) dX8_kind_46 ?_
          exact k0 (by omega) _ hK' (fun j hj => zup_n (by omega))
        · refine zr_iload (pc := 29)  rfl dX8_kind_29 ?_
          refine zr_iconst (pc := 31)  dX8_kind_31 ?_
          refine zr_icmp_gt (pc := 32)  (tgt := 45) ⟨by omega, by omega⟩ ⟨by omega, by omega⟩ (by decide) dX8_kind_32 (fun q32 => ?_) (fun q32 => ?_)
          · refine zr_iconst (pc := 45)  dX8_kind_45 ?_
            refine zr_ireturn (pc := 46)  rfl (by decide) (by decide) dX8_kind_46 ?_
            exact k0 (by omega) _ hK' (fun j hj => zup_n (by omega))
          · refine zr_aload_n (pc := 35)  (i := 0) rfl rfl dX8_kind_35 ?_
            refine zr_iload_n (pc := 36)  (i := 1) rfl rfl dX8_kind_36 ?_
            refine zr_iload_n (pc := 37)  (i := 2) rfl rfl dX8_kind_37 ?_
            refine zr_iload_n (pc := 38)  (i := 3) rfl rfl dX8_kind_38 ?_
            refine zv_call3 (pc := 39)  cv_X8_kind_131 (by first | assumption | rfl | (repeat (first | assumption | exact zup_s | refine zup_g (by decide) ?_))) ⟨_, rfl, rfl⟩ (Nat.le_of_ble_eq_true rfl) (by decide) dX8_kind_39 ?_
            refine k_X8_look zup_s m41 m45 m46 m47 m48 hN6 hp i10.1 i10.2.2.1 (by omega) (by omega) ht ?_
            dsimp only [Option.toList, List.cons_append, List.nil_append]
            refine zr_if_ge (pc := 42)  (tgt := 47) ⟨by omega, by omega⟩ (by decide) dX8_kind_42 (fun q42 => ?_) (fun q42 => ?_)
            · have hS' := hS (by omega)
              refine zr_aload_n (pc := 47)  (i := 0) rfl rfl dX8_kind_47 ?_
              refine zr_get (pc := 48)  fl_X8_42 (by first | assumption | rfl | (repeat (first | assumption | exact zup_s | refine zup_g (by decide) ?_))) rfl dX8_kind_48 ?_
              refine zr_iconst (pc := 51)  dX8_kind_51 ?_
              refine zr_aload_n (pc := 52)  (i := 0) rfl rfl dX8_kind_52 ?_
              refine zr_iload_n (pc := 53)  (i := 1) rfl rfl dX8_kind_53 ?_
              refine zr_iload_n (pc := 54)  (i := 2) rfl rfl dX8_kind_54 ?_
              refine zr_iload_n (pc := 55)  (i := 3) rfl rfl dX8_kind_55 ?_
              refine zv_call3 (pc := 56)  cv_X8_kind_127 (by first | assumption | rfl | (repeat (first | assumption | exact zup_s | refine zup_g (by decide) ?_))) ⟨_, rfl, rfl⟩ (Nat.le_of_ble_eq_true rfl) (by decide) dX8_kind_56 ?_
              refine k_X8_holds zup_s m45 m46 m47 hN6 hp i10.1 hr (by omega) ht ?_
              dsimp only [Option.toList, List.cons_append, List.nil_append]
              refine zr_imul (pc := 59)  dX8_kind_59 ?_
              refine zr_iload (pc := 60)  rfl dX8_kind_60 ?_
              refine zr_iadd (pc := 62)  dX8_kind_62 ?_
              refine zr_iald (pc := 63)  (by first | assumption | rfl | (repeat (first | assumption | exact zup_s | refine zup_g (by decide) ?_))) ⟨by omega, by omega⟩ (by decide) dX8_kind_63 ?_
              refine zr_ireturn (pc := 64)  rfl (by decide) (by decide) dX8_kind_64 ?_
              have e := hE (holdZ pl bt N (r * 84 + d) t) hS'.1 hh.2 hS'.2 c (by omega) (by omega)
              rw [Int.mul_comm 3, e]
              exact k1 (by omega) (by omega) _ hK' (fun j hj => zup_n (by omega))
            · refine zr_iconst (pc := 45)  dX8_kind_45 ?_
              refine zr_ireturn (pc := 46)  rfl (by decide) (by decide) dX8_kind_46 ?_
              exact k0 (by omega) _ hK' (fun j hj => zup_n (by omega))
end MOD2
