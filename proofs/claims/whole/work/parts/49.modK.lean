/-! the reference's trial and flows -/
section MOD2
variable {G : zG} {n : Nat} {h : zH} {Post : Option Value → Nat → zH → Prop} {th len now num : Int} {tb rk rs rg gr bt bc bk be bn ap pl : Int → Int} {N : Nat}
theorem k_X8_trial {r t w : Int} (hM : mK h th now len tb rk rs rg gr N bt bc bk ap pl) (hI : oI now len tb rk rs rg gr num N bt bc be bn ap pl) (hr : iR r) (ht : iR t) (hw : iR w) (k1 : (((0 ≤ r ∧ r < 16) ∧ rk r = 1) ∧ 0 ≤ t) ∧ (w = 0 ∨ w = 1) → wpP (SA ap bc pl bt N t) rk gr r ∧ 0 < QS (SA ap bc pl bt N t) rk gr (dyS (SA ap bc pl bt N t) r) 7 r (gr r) → ∀ h', mK h' 0 now len tb rk rs rg gr N bt bc bk ap pl → (∀ j, j < 38 ∨ 64 < j → h' j = h j) → Post (some (vl (if w = 0 then rdU (PS (SA ap bc pl bt N t) rk gr (dyS (SA ap bc pl bt N t) r) 7 r (gr r) * (TS (SA ap bc pl bt N t) rk gr (gr r) r * TS (SA ap bc pl bt N t) rk gr (gr r) r)) (QS (SA ap bc pl bt N t) rk gr (dyS (SA ap bc pl bt N t) r) 7 r (gr r)) else rdL (PS (SA ap bc pl bt N t) rk gr (dyS (SA ap bc pl bt N t) r) 7 r (gr r) * (TS (SA ap bc pl bt N t) rk gr (gr r) r * TS (SA ap bc pl bt N t) rk gr (gr r) r)) (QS (SA ap bc pl bt N t) rk gr (dyS (SA ap bc pl bt N t) r) 7 r (gr r))))) n h') (kx : ¬ (((((0 ≤ r ∧ r < 16) ∧ rk r = 1) ∧ 0 ≤ t) ∧ (w = 0 ∨ w = 1)) ∧ wpP (SA ap bc pl bt N t) rk gr r ∧ 0 < QS (SA ap bc pl bt N t) rk gr (dyS (SA ap bc pl bt N t) r) 7 r (gr r)) → ∀ h', mK h' 1 now len tb rk rs rg gr N bt bc bk ap pl → (∀ j, j < 38 ∨ 64 < j → h' j = h j) → Post (some (vl 0)) n h') : zMP G mX8_trial [.ref 38, vi r, vi t, vi w] n h Post := by
  have hI' := hI
  obtain ⟨i1, i2, i3, i4, i5, i6, i7, i8, i9, ⟨j1, j2, j3, j4, j5⟩⟩ := hI
  have hM' := hM
  obtain ⟨⟨al, pm, pd, sq, up, lw, m38⟩, ⟨ek, ⟨m39, m40, m41, m42, m43, m44, m45, m46, m47, m48, m49⟩, hE⟩, ⟨⟨sn0, iw0, ⟨m50, m51⟩, hz⟩, ⟨bw0, bm0, m52, m53⟩, ⟨od0, fp0, fq0, m54, m55, m56⟩, ⟨fl0, db0, m57, m58⟩, -⟩, hp⟩ := hM
  have hs := SA_R (ap := ap) (pl := pl) (bt := bt) (N := N) j2 t
  have hs50 : ∀ p, SA ap bc pl bt N t p ≤ 50 := fun p => (hs p).2
  have hK1 : ∀ x : Int, mK (zup h 38 (oMod x len N now al pm pd sq up lw)) x now len tb rk rs rg gr N bt bc bk ap pl := fun x => mK_V hM' rfl (fun j hj => by rw [zup_n (by omega)]) ⟨m50, m51⟩ hz ⟨m52, m53⟩ ⟨m54, m55, m56⟩ ⟨m57, m58⟩
  have i7r := i7 r
  have hPQ := PQ_R (s := (SA ap bc pl bt N t)) (rk := rk) (gr := gr) (f := dyS (SA ap bc pl bt N t) r) (lim := 7) (w := r) (g := gr r) hs50 (by omega) (fun d => hs50 _)
  have hTR : 0 ≤ TS (SA ap bc pl bt N t) rk gr (gr r) r ∧ TS (SA ap bc pl bt N t) rk gr (gr r) r ≤ 16800 := (S_R (rk := rk) (gr := gr) hs50 (gr r) r).2.2.1
  have hK2 : ∀ (sn iw : Int → Int), lkS (SA ap bc pl bt N t) rk gr sn iw → ∀ x : Int, mK (zup (zup (zup h 50 (aI 1344 sn)) 51 (aZ 16 iw)) 38 (oMod x len N now al pm pd sq up lw)) x now len tb rk rs rg gr N bt bc bk ap pl := fun sn iw hl x => mK_V hM' rfl (fun j hj => by (repeat rw [zup_n (by omega)])) ⟨rfl, rfl⟩ hl.2.2 ⟨m52, m53⟩ ⟨m54, m55, m56⟩ ⟨m57, m58⟩
  refine zMP_of (by decide) [some _, some _, some _, some _, none, none] (Nat.le_of_ble_eq_true rfl) rfl ?_
  refine zr_aload_n (pc := 0)  (i := 0) rfl rfl dX8_trial_0 ?_
  refine zr_iload_n (pc := 1)  (i := 3) rfl rfl dX8_trial_1 ?_
  refine zc_call1 (pc := 2)  cs_X8_trial_192 (Nat.le_of_ble_eq_true rfl) (by decide) dX8_trial_2 ?_
  refine k_X8_isWhat hw ?_
  dsimp only [Option.toList, List.cons_append, List.nil_append]
  refine zb_eq (pc := 5) (tgt := 50) (by decide) dX8_trial_5 (fun q5 => ?_) (fun q5 => ?_)
  · refine zr_iconst (pc := 50)  dX8_trial_50 ?_
    refine zr_goto (pc := 51)  (tgt := 55) (by decide) dX8_trial_51 ?_
    refine zv_call1 (pc := 55)  cv_X8_trial_151 (by first | assumption | rfl | (repeat (first | assumption | exact zup_s | refine zup_g (by decide) ?_))) ⟨_, rfl, rfl⟩ (Nat.le_of_ble_eq_true rfl) (by decide) dX8_trial_55 ?_
    refine k_X8_throwsIf (by first | exact m38 | rfl) (by decide) ?_
    dsimp only [Option.toList, List.cons_append, List.nil_append]
    refine zk_eq1 (pc := 58) (tgt := 63) dX8_trial_58 (by decide) ?_
    refine zr_lconst (pc := 61)  (z := 0) (by decide) dX8_trial_61 ?_
    refine zr_lreturn (pc := 62)  rfl (by decide) (by decide) dX8_trial_62 ?_
    first | exact kx (fun z => q5 z.1.2) _ (hK1 1) (fun j hj => by (repeat rw [zup_n (by omega)])) | exact kx (fun z => c11 z.1.1) _ (hK1 1) (fun j hj => by (repeat rw [zup_n (by omega)])) | exact kx (fun z => by have := hwr.mpr z.2.1; omega) _ (hK2 _ _ c11_3 1) (fun j hj => by (repeat rw [zup_n (by omega)])) | exact kx (fun z => by have := Q_no (f := dyS (SA ap bc pl bt N t) r) (lim := 7) hs50 c34_3; omega) _ (mK_V hM' zup_s (fun j hj => by (repeat rw [zup_n (by omega)]); rw [hU_fr (by omega)]; (repeat rw [zup_n (by omega)])) ⟨rfl, rfl⟩ c11_3.2.2 ⟨rfl, rfl⟩ ⟨m54, m55, m56⟩ ⟨m57, m58⟩) (fun j hj => by (repeat rw [zup_n (by omega)]); rw [hU_fr (by omega)]; (repeat rw [zup_n (by omega)])) | exact kx (fun z => c44 (by rw [(pq_of hs50 c34_2 c34_3).2]; exact z.2.2)) _ (mK_V hM' zup_s (fun j hj => by (repeat rw [zup_n (by omega)]); rw [hU_fr (by omega)]; (repeat rw [zup_n (by omega)])) ⟨rfl, rfl⟩ c11_3.2.2 ⟨rfl, rfl⟩ ⟨m54, m55, m56⟩ ⟨m57, m58⟩) (fun j hj => by (repeat rw [zup_n (by omega)]); rw [hU_fr (by omega)]; (repeat rw [zup_n (by omega)]))
  · refine zr_aload_n (pc := 8)  (i := 0) rfl rfl dX8_trial_8 ?_
    refine zr_iload_n (pc := 9)  (i := 1) rfl rfl dX8_trial_9 ?_
    refine zr_iload_n (pc := 10)  (i := 2) rfl rfl dX8_trial_10 ?_
    refine zv_call2 (pc := 11)  cv_X8_trial_195 (by first | assumption | rfl | (repeat (first | assumption | exact zup_s | refine zup_g (by decide) ?_))) ⟨_, rfl, rfl⟩ (Nat.le_of_ble_eq_true rfl) (by decide) dX8_trial_11 ?_
    refine k_X8_begins (hM') (hI') (by first | assumption | omega | (refine ⟨?_, ?_⟩ <;> omega) | rfl | (repeat (first | assumption | exact zup_s | refine zup_g (by decide) ?_))) (by first | assumption | omega | (refine ⟨?_, ?_⟩ <;> omega) | rfl | (repeat (first | assumption | exact zup_s | refine zup_g (by decide) ?_))) (fun c11 c11_1 c11_2 c11_3 => ?_) (fun c11 => ?_)
    · dsimp only [Option.toList, List.cons_append, List.nil_append]
      refine zk_eq1 (pc := 14) (tgt := 50) dX8_trial_14 (by decide) ?_
      have hwr := c11_3.2.1 r (by omega) (by omega)
      have hzr := c11_3.2.2 r
      refine zr_aload_n (pc := 17)  (i := 0) rfl rfl dX8_trial_17 ?_
      refine zr_get (pc := 18)  fl_X8_48 (by first | assumption | rfl | (repeat (first | assumption | exact zup_s | refine zup_g (by decide) ?_))) rfl dX8_trial_18 ?_
      refine zr_iload_n (pc := 21)  (i := 1) rfl rfl dX8_trial_21 ?_
      refine zr_zald (pc := 22)  (by first | assumption | rfl | (repeat (first | assumption | exact zup_s | refine zup_g (by decide) ?_))) ⟨by omega, by omega⟩ (by decide) dX8_trial_22 ?_
      refine zr_if_eq (pc := 23)  (tgt := 50) ⟨by omega, by omega⟩ (by decide) dX8_trial_23 (fun q23 => ?_) (fun q23 => ?_)
      · refine zr_iconst (pc := 50)  dX8_trial_50 ?_
        refine zr_goto (pc := 51)  (tgt := 55) (by decide) dX8_trial_51 ?_
        refine zv_call1 (pc := 55)  cv_X8_trial_151 (by first | assumption | rfl | (repeat (first | assumption | exact zup_s | refine zup_g (by decide) ?_))) ⟨_, rfl, rfl⟩ (Nat.le_of_ble_eq_true rfl) (by decide) dX8_trial_55 ?_
        refine k_X8_throwsIf (by first | exact m38 | rfl) (by decide) ?_
        dsimp only [Option.toList, List.cons_append, List.nil_append]
        refine zk_eq1 (pc := 58) (tgt := 63) dX8_trial_58 (by decide) ?_
        refine zr_lconst (pc := 61)  (z := 0) (by decide) dX8_trial_61 ?_
        refine zr_lreturn (pc := 62)  rfl (by decide) (by decide) dX8_trial_62 ?_
        first | exact kx (fun z => q5 z.1.2) _ (hK1 1) (fun j hj => by (repeat rw [zup_n (by omega)])) | exact kx (fun z => c11 z.1.1) _ (hK1 1) (fun j hj => by (repeat rw [zup_n (by omega)])) | exact kx (fun z => by have := hwr.mpr z.2.1; omega) _ (hK2 _ _ c11_3 1) (fun j hj => by (repeat rw [zup_n (by omega)])) | exact kx (fun z => by have := Q_no (f := dyS (SA ap bc pl bt N t) r) (lim := 7) hs50 c34_3; omega) _ (mK_V hM' zup_s (fun j hj => by (repeat rw [zup_n (by omega)]); rw [hU_fr (by omega)]; (repeat rw [zup_n (by omega)])) ⟨rfl, rfl⟩ c11_3.2.2 ⟨rfl, rfl⟩ ⟨m54, m55, m56⟩ ⟨m57, m58⟩) (fun j hj => by (repeat rw [zup_n (by omega)]); rw [hU_fr (by omega)]; (repeat rw [zup_n (by omega)])) | exact kx (fun z => c44 (by rw [(pq_of hs50 c34_2 c34_3).2]; exact z.2.2)) _ (mK_V hM' zup_s (fun j hj => by (repeat rw [zup_n (by omega)]); rw [hU_fr (by omega)]; (repeat rw [zup_n (by omega)])) ⟨rfl, rfl⟩ c11_3.2.2 ⟨rfl, rfl⟩ ⟨m54, m55, m56⟩ ⟨m57, m58⟩) (fun j hj => by (repeat rw [zup_n (by omega)]); rw [hU_fr (by omega)]; (repeat rw [zup_n (by omega)]))
      · refine zr_aload_n (pc := 26)  (i := 0) rfl rfl dX8_trial_26 ?_
        refine zr_aload_n (pc := 27)  (i := 0) rfl rfl dX8_trial_27 ?_
        refine zr_get (pc := 28)  fl_X8_27 (by first | assumption | rfl | (repeat (first | assumption | exact zup_s | refine zup_g (by decide) ?_))) rfl dX8_trial_28 ?_
        refine zr_iload_n (pc := 31)  (i := 1) rfl rfl dX8_trial_31 ?_
        refine zr_iald (pc := 32)  (by first | assumption | rfl | (repeat (first | assumption | exact zup_s | refine zup_g (by decide) ?_))) ⟨by omega, by omega⟩ (by decide) dX8_trial_32 ?_
        refine zr_iload_n (pc := 33)  (i := 1) rfl rfl dX8_trial_33 ?_
        refine zv_call2 (pc := 34)  cv_X8_trial_147 (by first | assumption | rfl | (repeat (first | assumption | exact zup_s | refine zup_g (by decide) ?_))) ⟨_, rfl, rfl⟩ (Nat.le_of_ble_eq_true rfl) (by decide) dX8_trial_34 ?_
        refine k_X8_sums (m38) (m44) (rfl) (rfl) (m52) (m53) (c11_3) (hs) (by first | assumption | omega | (refine ⟨?_, ?_⟩ <;> omega) | rfl | (repeat (first | assumption | exact zup_s | refine zup_g (by decide) ?_))) (⟨by omega, by omega⟩) (hr) (fun c34 c34_1 c34_2 c34_3 => ?_) (fun c34 c34_1 c34_2 c34_3 => ?_)
        · dsimp only [Option.toList, List.cons_append, List.nil_append]
          refine zk_eq1 (pc := 37) (tgt := 50) dX8_trial_37 (by decide) ?_
          have hsR := sm_R hs50 c34_2
          refine zr_aload_n (pc := 40)  (i := 0) rfl rfl dX8_trial_40 ?_
          refine zr_iload_n (pc := 41)  (i := 1) rfl rfl dX8_trial_41 ?_
          refine zr_bipush (pc := 42)  (by decide) dX8_trial_42 ?_
          refine zv_call2 (pc := 44)  cv_X8_trial_168 (by first | assumption | rfl | (repeat (first | assumption | exact zup_s | refine zup_g (by decide) ?_))) ⟨_, rfl, rfl⟩ (Nat.le_of_ble_eq_true rfl) (by decide) dX8_trial_44 ?_
          refine k_X8_fits (rfl) (rfl) (rfl) (rfl) (c11_3) (hs) (by omega) (by omega) (hsR.1) (hsR.2) (fun c44 => ?_) (fun c44 => ?_)
          · dsimp only [Option.toList, List.cons_append, List.nil_append]
            refine zk_ne1 (pc := 47) (tgt := 54) (by decide) dX8_trial_47 ?_
            rw [show sumD (dyS (SA ap bc pl bt N t) r) 7 (fun d => c34 (d % 7) * c34_1 (d / 7) * dyS (SA ap bc pl bt N t) r d) 84 = PS (SA ap bc pl bt N t) rk gr (dyS (SA ap bc pl bt N t) r) 7 r (gr r) from (pq_of hs50 c34_2 c34_3).1, show sumD (dyS (SA ap bc pl bt N t) r) 7 (fun d => c34 (d % 7) * c34_1 (d / 7) * (c34 (d % 7) * c34_1 (d / 7))) 84 = QS (SA ap bc pl bt N t) rk gr (dyS (SA ap bc pl bt N t) r) 7 r (gr r) from (pq_of hs50 c34_2 c34_3).2]
            have c45 : 0 < QS (SA ap bc pl bt N t) rk gr (dyS (SA ap bc pl bt N t) r) 7 r (gr r) := by rw [← (pq_of hs50 c34_2 c34_3).2]; exact c44
            clear c44
            have k2 := k1 ⟨c11_2, q5⟩ ⟨hwr.mp (by omega), c45⟩
            have hrt := rd_twice (p := PS (SA ap bc pl bt N t) rk gr (dyS (SA ap bc pl bt N t) r) 7 r (gr r)) (q := QS (SA ap bc pl bt N t) rk gr (dyS (SA ap bc pl bt N t) r) 7 r (gr r)) (a := TS (SA ap bc pl bt N t) rk gr (gr r) r) hPQ.1.1 c45
            rw [← hrt.2.1, ← hrt.2.2] at k2
            have hlr := led_R hPQ.1 ⟨c45, hPQ.2.2⟩ hTR
            clear hrt k1 kx
            generalize PS (SA ap bc pl bt N t) rk gr (dyS (SA ap bc pl bt N t) r) 7 r (gr r) = P at *
            generalize QS (SA ap bc pl bt N t) rk gr (dyS (SA ap bc pl bt N t) r) 7 r (gr r) = Q at *
            refine zr_iconst (pc := 54)  dX8_trial_54 ?_
            refine zv_call1 (pc := 55)  cv_X8_trial_151 (by first | assumption | rfl | (repeat (first | assumption | exact zup_s | refine zup_g (by decide) ?_))) ⟨_, rfl, rfl⟩ (Nat.le_of_ble_eq_true rfl) (by decide) dX8_trial_55 ?_
            refine k_X8_throwsIf (by first | exact m38 | rfl) (by decide) ?_
            dsimp only [Option.toList, List.cons_append, List.nil_append]
            refine zk_eq0 (pc := 58) (tgt := 63) (by decide) dX8_trial_58 ?_
            refine zr_aload_n (pc := 63)  (i := 0) rfl rfl dX8_trial_63 ?_
            refine zr_get (pc := 64)  fl_X8_162 (by first | assumption | rfl | (repeat (first | assumption | exact zup_s | refine zup_g (by decide) ?_))) rfl dX8_trial_64 ?_
            refine zr_aload_n (pc := 67)  (i := 0) rfl rfl dX8_trial_67 ?_
            refine zr_get (pc := 68)  fl_X8_165 (by first | assumption | rfl | (repeat (first | assumption | exact zup_s | refine zup_g (by decide) ?_))) rfl dX8_trial_68 ?_
            refine zc_call2 (pc := 71)  cs_X8_trial_178 (Nat.le_of_ble_eq_true rfl) (by decide) dX8_trial_71 ?_
            refine k_X8_common ⟨by omega, by omega⟩ ⟨by omega, by omega⟩ ?_
            rw [show absZ P = P from if_neg (by omega)]
            have hgp := gz_pos (a := P) c45
            have hgl := gz_le (a := P) c45
            dsimp only [Option.toList, List.cons_append, List.nil_append]
            refine zs_lstore_4 (pc := 74)  (by first | exact zn_i | exact zn_r | exact zn_0) (by decide) dX8_trial_74 ?_
            refine zr_aload_n (pc := 76)  (i := 0) rfl rfl dX8_trial_76 ?_
            refine zr_aload_n (pc := 77)  (i := 0) rfl rfl dX8_trial_77 ?_
            refine zr_get (pc := 78)  fl_X8_162 (by first | assumption | rfl | (repeat (first | assumption | exact zup_s | refine zup_g (by decide) ?_))) rfl dX8_trial_78 ?_
            refine zr_lload (pc := 81)  rfl dX8_trial_81 ?_
            refine zr_ldivN (pc := 83)  ⟨by omega, by omega⟩ ⟨by omega, by omega⟩ dX8_trial_83 ?_
            refine zr_aload_n (pc := 84)  (i := 0) rfl rfl dX8_trial_84 ?_
            refine zr_get (pc := 85)  fl_X8_137 (by first | assumption | rfl | (repeat (first | assumption | exact zup_s | refine zup_g (by decide) ?_))) rfl dX8_trial_85 ?_
            refine zr_lmul (pc := 88)  dX8_trial_88 ?_
            refine zr_aload_n (pc := 89)  (i := 0) rfl rfl dX8_trial_89 ?_
            refine zr_get (pc := 90)  fl_X8_137 (by first | assumption | rfl | (repeat (first | assumption | exact zup_s | refine zup_g (by decide) ?_))) rfl dX8_trial_90 ?_
            refine zr_lmul (pc := 93)  dX8_trial_93 ?_
            refine zr_aload_n (pc := 94)  (i := 0) rfl rfl dX8_trial_94 ?_
            refine zr_get (pc := 95)  fl_X8_165 (by first | assumption | rfl | (repeat (first | assumption | exact zup_s | refine zup_g (by decide) ?_))) rfl dX8_trial_95 ?_
            refine zr_lload (pc := 98)  rfl dX8_trial_98 ?_
            refine zr_ldivN (pc := 100)  ⟨by omega, by omega⟩ ⟨by omega, by omega⟩ dX8_trial_100 ?_
            refine zv_call2 (pc := 101)  cv_X8_trial_188 (by first | assumption | rfl | (repeat (first | assumption | exact zup_s | refine zup_g (by decide) ?_))) ⟨_, rfl, rfl⟩ (Nat.le_of_ble_eq_true rfl) (by decide) dX8_trial_101 ?_
            refine k_X8_set rfl (by omega) (by omega) ?_
            dsimp only [Option.toList, List.cons_append, List.nil_append]
            refine zr_iload_n (pc := 104)  (i := 3) rfl rfl dX8_trial_104 ?_
            refine zr_if_ne (pc := 105)  (tgt := 115) ⟨by omega, by omega⟩ (by decide) dX8_trial_105 (fun q105 => ?_) (fun q105 => ?_)
            · refine zr_aload_n (pc := 115)  (i := 0) rfl rfl dX8_trial_115 ?_
              refine zr_get (pc := 116)  fl_X8_185 (by first | assumption | rfl | (repeat (first | assumption | exact zup_s | refine zup_g (by decide) ?_))) rfl dX8_trial_116 ?_
              refine zr_lreturn (pc := 119)  rfl (by decide) (by decide) dX8_trial_119 ?_
              first | (rw [if_pos (by omega)] at k2; exact k2 _ (mK_V hM' zup_s (fun j hj => by (repeat rw [zup_n (by omega)]); rw [hU_fr (by omega)]; (repeat rw [zup_n (by omega)])) ⟨rfl, rfl⟩ c11_3.2.2 ⟨rfl, rfl⟩ ⟨m54, m55, m56⟩ ⟨m57, m58⟩) (fun j hj => by (repeat rw [zup_n (by omega)]); rw [hU_fr (by omega)]; (repeat rw [zup_n (by omega)]))) | (rw [if_neg (by omega)] at k2; exact k2 _ (mK_V hM' zup_s (fun j hj => by (repeat rw [zup_n (by omega)]); rw [hU_fr (by omega)]; (repeat rw [zup_n (by omega)])) ⟨rfl, rfl⟩ c11_3.2.2 ⟨rfl, rfl⟩ ⟨m54, m55, m56⟩ ⟨m57, m58⟩) (fun j hj => by (repeat rw [zup_n (by omega)]); rw [hU_fr (by omega)]; (repeat rw [zup_n (by omega)])))
            · refine zr_aload_n (pc := 108)  (i := 0) rfl rfl dX8_trial_108 ?_
              refine zr_get (pc := 109)  fl_X8_182 (by first | assumption | rfl | (repeat (first | assumption | exact zup_s | refine zup_g (by decide) ?_))) rfl dX8_trial_109 ?_
              refine zr_goto (pc := 112)  (tgt := 119) (by decide) dX8_trial_112 ?_
              refine zr_lreturn (pc := 119)  rfl (by decide) (by decide) dX8_trial_119 ?_
              first | (rw [if_pos (by omega)] at k2; exact k2 _ (mK_V hM' zup_s (fun j hj => by (repeat rw [zup_n (by omega)]); rw [hU_fr (by omega)]; (repeat rw [zup_n (by omega)])) ⟨rfl, rfl⟩ c11_3.2.2 ⟨rfl, rfl⟩ ⟨m54, m55, m56⟩ ⟨m57, m58⟩) (fun j hj => by (repeat rw [zup_n (by omega)]); rw [hU_fr (by omega)]; (repeat rw [zup_n (by omega)]))) | (rw [if_neg (by omega)] at k2; exact k2 _ (mK_V hM' zup_s (fun j hj => by (repeat rw [zup_n (by omega)]); rw [hU_fr (by omega)]; (repeat rw [zup_n (by omega)])) ⟨rfl, rfl⟩ c11_3.2.2 ⟨rfl, rfl⟩ ⟨m54, m55, m56⟩ ⟨m57, m58⟩) (fun j hj => by (repeat rw [zup_n (by omega)]); rw [hU_fr (by omega)]; (repeat rw [zup_n (by omega)])))
          · dsimp only [Option.toList, List.cons_append, List.nil_append]
            refine zk_ne0 (pc := 47) (tgt := 54) dX8_trial_47 (by decide) ?_
            refine zr_iconst (pc := 50)  dX8_trial_50 ?_
            refine zr_goto (pc := 51)  (tgt := 55) (by decide) dX8_trial_51 ?_
            refine zv_call1 (pc := 55)  cv_X8_trial_151 (by first | assumption | rfl | (repeat (first | assumption | exact zup_s | refine zup_g (by decide) ?_))) ⟨_, rfl, rfl⟩ (Nat.le_of_ble_eq_true rfl) (by decide) dX8_trial_55 ?_
            refine k_X8_throwsIf (by first | exact m38 | rfl) (by decide) ?_
            dsimp only [Option.toList, List.cons_append, List.nil_append]
            refine zk_eq1 (pc := 58) (tgt := 63) dX8_trial_58 (by decide) ?_
            refine zr_lconst (pc := 61)  (z := 0) (by decide) dX8_trial_61 ?_
            refine zr_lreturn (pc := 62)  rfl (by decide) (by decide) dX8_trial_62 ?_
            first | exact kx (fun z => q5 z.1.2) _ (hK1 1) (fun j hj => by (repeat rw [zup_n (by omega)])) | exact kx (fun z => c11 z.1.1) _ (hK1 1) (fun j hj => by (repeat rw [zup_n (by omega)])) | exact kx (fun z => by have := hwr.mpr z.2.1; omega) _ (hK2 _ _ c11_3 1) (fun j hj => by (repeat rw [zup_n (by omega)])) | exact kx (fun z => by have := Q_no (f := dyS (SA ap bc pl bt N t) r) (lim := 7) hs50 c34_3; omega) _ (mK_V hM' zup_s (fun j hj => by (repeat rw [zup_n (by omega)]); rw [hU_fr (by omega)]; (repeat rw [zup_n (by omega)])) ⟨rfl, rfl⟩ c11_3.2.2 ⟨rfl, rfl⟩ ⟨m54, m55, m56⟩ ⟨m57, m58⟩) (fun j hj => by (repeat rw [zup_n (by omega)]); rw [hU_fr (by omega)]; (repeat rw [zup_n (by omega)])) | exact kx (fun z => c44 (by rw [(pq_of hs50 c34_2 c34_3).2]; exact z.2.2)) _ (mK_V hM' zup_s (fun j hj => by (repeat rw [zup_n (by omega)]); rw [hU_fr (by omega)]; (repeat rw [zup_n (by omega)])) ⟨rfl, rfl⟩ c11_3.2.2 ⟨rfl, rfl⟩ ⟨m54, m55, m56⟩ ⟨m57, m58⟩) (fun j hj => by (repeat rw [zup_n (by omega)]); rw [hU_fr (by omega)]; (repeat rw [zup_n (by omega)]))
        · dsimp only [Option.toList, List.cons_append, List.nil_append]
          refine zk_eq0 (pc := 37) (tgt := 50) (by decide) dX8_trial_37 ?_
          refine zr_iconst (pc := 50)  dX8_trial_50 ?_
          refine zr_goto (pc := 51)  (tgt := 55) (by decide) dX8_trial_51 ?_
          refine zv_call1 (pc := 55)  cv_X8_trial_151 (by first | assumption | rfl | (repeat (first | assumption | exact zup_s | refine zup_g (by decide) ?_))) ⟨_, rfl, rfl⟩ (Nat.le_of_ble_eq_true rfl) (by decide) dX8_trial_55 ?_
          refine k_X8_throwsIf (by first | exact m38 | rfl) (by decide) ?_
          dsimp only [Option.toList, List.cons_append, List.nil_append]
          refine zk_eq1 (pc := 58) (tgt := 63) dX8_trial_58 (by decide) ?_
          refine zr_lconst (pc := 61)  (z := 0) (by decide) dX8_trial_61 ?_
          refine zr_lreturn (pc := 62)  rfl (by decide) (by decide) dX8_trial_62 ?_
          first | exact kx (fun z => q5 z.1.2) _ (hK1 1) (fun j hj => by (repeat rw [zup_n (by omega)])) | exact kx (fun z => c11 z.1.1) _ (hK1 1) (fun j hj => by (repeat rw [zup_n (by omega)])) | exact kx (fun z => by have := hwr.mpr z.2.1; omega) _ (hK2 _ _ c11_3 1) (fun j hj => by (repeat rw [zup_n (by omega)])) | exact kx (fun z => by have := Q_no (f := dyS (SA ap bc pl bt N t) r) (lim := 7) hs50 c34_3; omega) _ (mK_V hM' zup_s (fun j hj => by (repeat rw [zup_n (by omega)]); rw [hU_fr (by omega)]; (repeat rw [zup_n (by omega)])) ⟨rfl, rfl⟩ c11_3.2.2 ⟨rfl, rfl⟩ ⟨m54, m55, m56⟩ ⟨m57, m58⟩) (fun j hj => by (repeat rw [zup_n (by omega)]); rw [hU_fr (by omega)]; (repeat rw [zup_n (by omega)])) | exact kx (fun z => c44 (by rw [(pq_of hs50 c34_2 c34_3).2]; exact z.2.2)) _ (mK_V hM' zup_s (fun j hj => by (repeat rw [zup_n (by omega)]); rw [hU_fr (by omega)]; (repeat rw [zup_n (by omega)])) ⟨rfl, rfl⟩ c11_3.2.2 ⟨rfl, rfl⟩ ⟨m54, m55, m56⟩ ⟨m57, m58⟩) (fun j hj => by (repeat rw [zup_n (by omega)]); rw [hU_fr (by omega)]; (repeat rw [zup_n (by omega)]))
    · dsimp only [Option.toList, List.cons_append, List.nil_append]
      refine zk_eq0 (pc := 14) (tgt := 50) (by decide) dX8_trial_14 ?_
      refine zr_iconst (pc := 50)  dX8_trial_50 ?_
      refine zr_goto (pc := 51)  (tgt := 55) (by decide) dX8_trial_51 ?_
      refine zv_call1 (pc := 55)  cv_X8_trial_151 (by first | assumption | rfl | (repeat (first | assumption | exact zup_s | refine zup_g (by decide) ?_))) ⟨_, rfl, rfl⟩ (Nat.le_of_ble_eq_true rfl) (by decide) dX8_trial_55 ?_
      refine k_X8_throwsIf (by first | exact m38 | rfl) (by decide) ?_
      dsimp only [Option.toList, List.cons_append, List.nil_append]
      refine zk_eq1 (pc := 58) (tgt := 63) dX8_trial_58 (by decide) ?_
      refine zr_lconst (pc := 61)  (z := 0) (by decide) dX8_trial_61 ?_
      refine zr_lreturn (pc := 62)  rfl (by decide) (by decide) dX8_trial_62 ?_
      first | exact kx (fun z => q5 z.1.2) _ (hK1 1) (fun j hj => by (repeat rw [zup_n (by omega)])) | exact kx (fun z => c11 z.1.1) _ (hK1 1) (fun j hj => by (repeat rw [zup_n (by omega)])) | exact kx (fun z => by have := hwr.mpr z.2.1; omega) _ (hK2 _ _ c11_3 1) (fun j hj => by (repeat rw [zup_n (by omega)])) | exact kx (fun z => by have := Q_no (f := dyS (SA ap bc pl bt N t) r) (lim := 7) hs50 c34_3; omega) _ (mK_V hM' zup_s (fun j hj => by (repeat rw [zup_n (by omega)]); rw [hU_fr (by omega)]; (repeat rw [zup_n (by omega)])) ⟨rfl, rfl⟩ c11_3.2.2 ⟨rfl, rfl⟩ ⟨m54, m55, m56⟩ ⟨m57, m58⟩) (fun j hj => by (repeat rw [zup_n (by omega)]); rw [hU_fr (by omega)]; (repeat rw [zup_n (by omega)])) | exact kx (fun z => c44 (by rw [(pq_of hs50 c34_2 c34_3).2]; exact z.2.2)) _ (mK_V hM' zup_s (fun j hj => by (repeat rw [zup_n (by omega)]); rw [hU_fr (by omega)]; (repeat rw [zup_n (by omega)])) ⟨rfl, rfl⟩ c11_3.2.2 ⟨rfl, rfl⟩ ⟨m54, m55, m56⟩ ⟨m57, m58⟩) (fun j hj => by (repeat rw [zup_n (by omega)]); rw [hU_fr (by omega)]; (repeat rw [zup_n (by omega)]))
end MOD2
def frG (h h' : zH) : Prop := ∀ j, (j < 38 ∨ (38 < j ∧ j < 52) ∨ 58 < j) → h' j = h j
section MOD
variable {G : zG} {n : Nat} {h : zH} {Post : Option Value → Nat → zH → Prop} {th len now al pm pd sq up lw : Int} {tb rk rs rg gr bt bc ek ap pl : Int → Int} {N : Nat}
variable {s sn iw : Int → Int}
theorem l_X8_flowAll {hb0 : zH} {t : Int} (m40 : hb0 40 = some (aZ 16 rk)) (m44 : hb0 44 = some (aI 16 gr)) (m50 : hb0 50 = some (aI 1344 sn)) (m51 : hb0 51 = some (aZ 16 iw)) (hl : lkS s rk gr sn iw) (hs : ∀ p, -3 ≤ s p ∧ s p ≤ 50) (i4 : ∀ i, rk i = 0 ∨ rk i = 1) (i7 : ∀ i, -1 ≤ gr i ∧ gr i < 4) (kk : ∀ (h1 : zH) (od fp fq bw bm fl db : Int → Int) (al pm pd sq up lw : Int), frG hb0 h1 → h1 38 = some (oMod th len N now al pm pd sq up lw) → mW h1 bw bm → mF h1 od fp fq → mG h1 fl db → (∀ i, 0 ≤ i → i < 16 → fl i = flowS s rk gr i ∧ (fl i ≠ -1 → db i = dbtS s rk gr i)) → Post none n h1) : ∀ (k : Nat) (m : Int) (h1 : zH) (od fp fq bw bm fl db : Int → Int) (al pm pd sq up lw : Int) (x3 x4 x5 x6 : Option Value), 16 - m ≤ k → 0 ≤ m → m ≤ 16 → frG hb0 h1 → h1 38 = some (oMod th len N now al pm pd sq up lw) → mW h1 bw bm → mF h1 od fp fq → mG h1 fl db → (∀ i, 0 ≤ i → i < m → fl i = flowS s rk gr i ∧ (fl i ≠ -1 → db i = dbtS s rk gr i)) → zAW G mX8_flowAll zTT (zF G mX8_flowAll Post) 7 [some (.ref 38), some (vi t), some (vi m), x3, x4, x5, x6] [] n h1 0 0 := by
  have hs50 : ∀ p, s p ≤ 50 := fun p => (hs p).2
  intro k
  induction k with
  | zero =>
    intro m h1 od fp fq bw bm fl db al pm pd sq up lw x3 x4 x5 x6 hk h0 hm f1 f38 fW fF fG hfl
    obtain rfl : m = 16 := by omega
    refine zr_iload_n (pc := 7)  (i := 2) rfl rfl dX8_flowAll_7 ?_
    refine zr_bipush (pc := 8)  (by decide) dX8_flowAll_8 ?_
    refine zr_icmp_ge (pc := 10)  (tgt := 130) ⟨by omega, by omega⟩ ⟨by omega, by omega⟩ (by decide) dX8_flowAll_10 (fun q10 => ?_) (fun q10 => ?_)
    · refine zr_vreturn (pc := 130)  rfl (by decide) (by decide) dX8_flowAll_130 ?_
      exact kk h1 od fp fq bw bm fl db al pm pd sq up lw f1 f38 fW fF fG hfl
    · exact absurd q10 (by omega)
  | succ k ih =>
    intro m h1 od fp fq bw bm fl db al pm pd sq up lw x3 x4 x5 x6 hk h0 hm f1 f38 fW fF fG hfl
    have nx : ∀ (h1 : zH) (od fp fq bw bm fl2 db2 : Int → Int) (al pm pd sq up lw : Int) (x3 x4 x5 x6 : Option Value), m < 16 → frG hb0 h1 → h1 38 = some (oMod th len N now al pm pd sq up lw) → mW h1 bw bm → mF h1 od fp fq → mG h1 fl2 db2 → (∀ i, i ≠ m → fl2 i = fl i ∧ db2 i = db i) → fl2 m = flowS s rk gr m → (fl2 m ≠ -1 → db2 m = dbtS s rk gr m) → zAW G mX8_flowAll zTT (zF G mX8_flowAll Post) 7 [some (.ref 38), some (vi t), some (vi (m + 1)), x3, x4, x5, x6] [] n h1 0 0 := fun h1 od fp fq bw bm fl2 db2 al pm pd sq up lw x3 x4 x5 x6 hm f1 f38 fW fF fG e1 e2 e3 => ih (m + 1) h1 od fp fq bw bm fl2 db2 al pm pd sq up lw x3 x4 x5 x6 (by omega) (by omega) (by omega) f1 f38 fW fF fG (fun i a b => by
      by_cases e : i = m
      · rw [e]; exact ⟨e2, e3⟩
      · rw [(e1 i e).1, (e1 i e).2]; exact hfl i a (by omega))
    have i4m := i4 m
    have hwr := hl.2.1 m
    have hzr := hl.2.2 m
    have n40 := (f1 40 (by omega)).trans m40
    have n44 := (f1 44 (by omega)).trans m44
    have n50 := (f1 50 (by omega)).trans m50
    have n51 := (f1 51 (by omega)).trans m51
    have fG' := fG
    obtain ⟨m57, m58⟩ := fG
    have hF0 : ¬ (rk m = 1 ∧ yOS s rk gr m) → flowS s rk gr m = -1 := fun z => if_neg (fun u => z u.1)
    have fin : ∀ (h2 : zH) (od fp fq bw bm : Int → Int) (al pm pd sq up lw v : Int) (x5 : Option Value), m < 16 → (rk m = 1 ∧ yOS s rk gr m) → frF (zup h1 57 (aI 16 (uZ fl m (-1)))) h2 → h2 38 = some (oMod th len N now al pm pd sq up lw) → mW h2 bw bm → mF h2 od fp fq → v = yVS s rk gr m → (0 ≤ v ∧ v ≤ 663828480000000001) → zAW G mX8_flowAll zTT (zF G mX8_flowAll Post) 78 [some (.ref 38), some (vi t), some (vi m), some (vl v), none, x5, none] [] n h2 0 0 := fun h2 od fp fq bw bm al pm pd sq up lw v x5 hm hy g1 g38 gW gF hv hvr => by
      have hwr := hwr h0 hm
      have o57 := (g1 57 (by omega)).trans zup_s
      have o58 := (g1 58 (by omega)).trans m58
      have o50 := (g1 50 (by omega)).trans n50
      have o51 := (g1 51 (by omega)).trans n51
      have hg : frG hb0 h2 := fun j hj => by rw [g1 j (by omega), zup_n (by omega)]; exact f1 j hj
      have hcR := cnD_R (dyS s m) (lmS_R (s := s) (rk := rk) (gr := gr) (r := m)).1 84
      have hlm := (lmS_R (s := s) (rk := rk) (gr := gr) (r := m)).2
      have hF1 : v ≤ 100000 → flowS s rk gr m = v := fun z => by rw [hv]; exact if_pos ⟨hy, by rw [← hv]; exact z⟩
      have hF2 : ¬ v ≤ 100000 → flowS s rk gr m = -1 := fun z => if_neg (fun u => z (by rw [hv]; exact u.2))
      have hD1 : wpP s rk gr m → dbtS s rk gr m = 1 := fun z => if_pos z
      have hD0 : ¬ wpP s rk gr m → dbtS s rk gr m = 15 - cnD (dyS s m) (lmS s rk gr m) 84 := fun z => if_neg z
      have kS : ∀ h3 : zH, h3 38 = some (oMod th len N now al pm pd sq up lw) → h3 50 = some (aI 1344 sn) → h3 51 = some (aZ 16 iw) → ∀ {Post2 : Option Value → Nat → zH → Prop}, Post2 (some (vi (cnD (dyS s m) (lmS s rk gr m) 84))) n h3 → zMP G mX8_sampleOf [.ref 38, vi m] n h3 Post2 := fun h3 a b c {Post2} d => k_X8_sampleOf a b c hl hs ⟨⟨h0, hm⟩, hy.1⟩ d
      generalize cnD (dyS s m) (lmS s rk gr m) 84 = cc at *
      refine zr_lload_n (pc := 78)  (i := 3) rfl rfl dX8_flowAll_78 ?_
      refine zr_ldc2 (pc := 79)  (z := 100000) kl_X8_201 (by decide) dX8_flowAll_79 ?_
      refine zr_lcmp_le (pc := 82)  (tgt := 89) ⟨by omega, by omega⟩ ⟨by omega, by omega⟩ (by decide) dX8_flowAll_82 dX8_flowAll_83 (fun q83 => ?_) (fun q83 => ?_)
      · refine zr_aload_n (pc := 89)  (i := 0) rfl rfl dX8_flowAll_89 ?_
        refine zr_get (pc := 90)  fl_X8_67 (by first | assumption | rfl | (repeat (first | assumption | exact zup_s | refine zup_g (by decide) ?_))) rfl dX8_flowAll_90 ?_
        refine zr_iload_n (pc := 93)  (i := 2) rfl rfl dX8_flowAll_93 ?_
        refine zr_lload_n (pc := 94)  (i := 3) rfl rfl dX8_flowAll_94 ?_
        refine zr_l2i (pc := 95)  dX8_flowAll_95 ?_
        refine zr_iast (pc := 96)  (by first | assumption | rfl | (repeat (first | assumption | exact zup_s | refine zup_g (by decide) ?_))) ⟨by omega, by omega⟩ (by decide) dX8_flowAll_96 ?_
        refine zr_aload_n (pc := 97)  (i := 0) rfl rfl dX8_flowAll_97 ?_
        refine zr_get (pc := 98)  fl_X8_70 (by first | assumption | rfl | (repeat (first | assumption | exact zup_s | refine zup_g (by decide) ?_))) rfl dX8_flowAll_98 ?_
        refine zr_iload_n (pc := 101)  (i := 2) rfl rfl dX8_flowAll_101 ?_
        refine zr_aload_n (pc := 102)  (i := 0) rfl rfl dX8_flowAll_102 ?_
        refine zr_get (pc := 103)  fl_X8_48 (by first | assumption | rfl | (repeat (first | assumption | exact zup_s | refine zup_g (by decide) ?_))) rfl dX8_flowAll_103 ?_
        refine zr_iload_n (pc := 106)  (i := 2) rfl rfl dX8_flowAll_106 ?_
        refine zr_zald (pc := 107)  (by first | assumption | rfl | (repeat (first | assumption | exact zup_s | refine zup_g (by decide) ?_))) ⟨by omega, by omega⟩ (by decide) dX8_flowAll_107 ?_
        refine zr_if_eq (pc := 108)  (tgt := 115) ⟨by omega, by omega⟩ (by decide) dX8_flowAll_108 (fun q108 => ?_) (fun q108 => ?_)
        · refine zr_bipush (pc := 115)  (by decide) dX8_flowAll_115 ?_
          refine zr_aload_n (pc := 117)  (i := 0) rfl rfl dX8_flowAll_117 ?_
          refine zr_iload_n (pc := 118)  (i := 2) rfl rfl dX8_flowAll_118 ?_
          refine zv_call1 (pc := 119)  cv_X8_flowAll_159 (by first | assumption | rfl | (repeat (first | assumption | exact zup_s | refine zup_g (by decide) ?_))) ⟨_, rfl, rfl⟩ (Nat.le_of_ble_eq_true rfl) (by decide) dX8_flowAll_119 ?_
          refine kS (zup h2 57 (aI 16 (uZ (uZ fl m (-1)) m v))) g38 o50 o51 ?_
          dsimp only [Option.toList, List.cons_append, List.nil_append]
          refine zr_isub (pc := 122)  dX8_flowAll_122 ?_
          refine zr_iast (pc := 123)  (by first | assumption | rfl | (repeat (first | assumption | exact zup_s | refine zup_g (by decide) ?_))) ⟨by omega, by omega⟩ (by decide) dX8_flowAll_123 ?_
          refine zs_iinc_2 (pc := 124)  (by first | exact zn_i | exact zn_r | exact zn_0) (by decide) dX8_flowAll_124 ?_
          refine zr_goto (pc := 127)  (tgt := 7) (by decide) dX8_flowAll_127 ?_
          first | exact nx h2 od fp fq bw bm _ _ al pm pd sq up lw _ _ _ _ hm hg g38 gW gF ⟨o57, o58⟩ (fun i e => ⟨uZ_n e, rfl⟩) (by rw [uZ_s, hF2 (by omega)]) (fun e => absurd uZ_s e) | exact nx _ od fp fq bw bm _ _ al pm pd sq up lw _ _ _ _ hm (fun j hj => by rw [zup_n (by omega), zup_n (by omega)]; exact hg j hj) g38 gW gF ⟨rfl, rfl⟩ (fun i e => ⟨(uZ_n e).trans (uZ_n e), uZ_n e⟩) (by rw [uZ_s, hF1 (by omega)]) (fun _ => by rw [uZ_s, hD1 (hwr.mp (by omega))]) | exact nx _ od fp fq bw bm _ _ al pm pd sq up lw _ _ _ _ hm (fun j hj => by rw [zup_n (by omega), zup_n (by omega)]; exact hg j hj) g38 gW gF ⟨rfl, rfl⟩ (fun i e => ⟨(uZ_n e).trans (uZ_n e), uZ_n e⟩) (by rw [uZ_s, hF1 (by omega)]) (fun _ => by rw [uZ_s, hD0 (fun z => by have := hwr.mpr z; omega)])
        · refine zr_iconst (pc := 111)  dX8_flowAll_111 ?_
          refine zr_goto (pc := 112)  (tgt := 123) (by decide) dX8_flowAll_112 ?_
          refine zr_iast (pc := 123)  (by first | assumption | rfl | (repeat (first | assumption | exact zup_s | refine zup_g (by decide) ?_))) ⟨by omega, by omega⟩ (by decide) dX8_flowAll_123 ?_
          refine zs_iinc_2 (pc := 124)  (by first | exact zn_i | exact zn_r | exact zn_0) (by decide) dX8_flowAll_124 ?_
          refine zr_goto (pc := 127)  (tgt := 7) (by decide) dX8_flowAll_127 ?_
          first | exact nx h2 od fp fq bw bm _ _ al pm pd sq up lw _ _ _ _ hm hg g38 gW gF ⟨o57, o58⟩ (fun i e => ⟨uZ_n e, rfl⟩) (by rw [uZ_s, hF2 (by omega)]) (fun e => absurd uZ_s e) | exact nx _ od fp fq bw bm _ _ al pm pd sq up lw _ _ _ _ hm (fun j hj => by rw [zup_n (by omega), zup_n (by omega)]; exact hg j hj) g38 gW gF ⟨rfl, rfl⟩ (fun i e => ⟨(uZ_n e).trans (uZ_n e), uZ_n e⟩) (by rw [uZ_s, hF1 (by omega)]) (fun _ => by rw [uZ_s, hD1 (hwr.mp (by omega))]) | exact nx _ od fp fq bw bm _ _ al pm pd sq up lw _ _ _ _ hm (fun j hj => by rw [zup_n (by omega), zup_n (by omega)]; exact hg j hj) g38 gW gF ⟨rfl, rfl⟩ (fun i e => ⟨(uZ_n e).trans (uZ_n e), uZ_n e⟩) (by rw [uZ_s, hF1 (by omega)]) (fun _ => by rw [uZ_s, hD0 (fun z => by have := hwr.mpr z; omega)])
      · refine zr_goto (pc := 86)  (tgt := 124) (by decide) dX8_flowAll_86 ?_
        refine zs_iinc_2 (pc := 124)  (by first | exact zn_i | exact zn_r | exact zn_0) (by decide) dX8_flowAll_124 ?_
        refine zr_goto (pc := 127)  (tgt := 7) (by decide) dX8_flowAll_127 ?_
        first | exact nx h2 od fp fq bw bm _ _ al pm pd sq up lw _ _ _ _ hm hg g38 gW gF ⟨o57, o58⟩ (fun i e => ⟨uZ_n e, rfl⟩) (by rw [uZ_s, hF2 (by omega)]) (fun e => absurd uZ_s e) | exact nx _ od fp fq bw bm _ _ al pm pd sq up lw _ _ _ _ hm (fun j hj => by rw [zup_n (by omega), zup_n (by omega)]; exact hg j hj) g38 gW gF ⟨rfl, rfl⟩ (fun i e => ⟨(uZ_n e).trans (uZ_n e), uZ_n e⟩) (by rw [uZ_s, hF1 (by omega)]) (fun _ => by rw [uZ_s, hD1 (hwr.mp (by omega))]) | exact nx _ od fp fq bw bm _ _ al pm pd sq up lw _ _ _ _ hm (fun j hj => by rw [zup_n (by omega), zup_n (by omega)]; exact hg j hj) g38 gW gF ⟨rfl, rfl⟩ (fun i e => ⟨(uZ_n e).trans (uZ_n e), uZ_n e⟩) (by rw [uZ_s, hF1 (by omega)]) (fun _ => by rw [uZ_s, hD0 (fun z => by have := hwr.mpr z; omega)])
    refine zr_iload_n (pc := 7)  (i := 2) rfl rfl dX8_flowAll_7 ?_
    refine zr_bipush (pc := 8)  (by decide) dX8_flowAll_8 ?_
    refine zr_icmp_ge (pc := 10)  (tgt := 130) ⟨by omega, by omega⟩ ⟨by omega, by omega⟩ (by decide) dX8_flowAll_10 (fun q10 => ?_) (fun q10 => ?_)
    · refine zr_vreturn (pc := 130)  rfl (by decide) (by decide) dX8_flowAll_130 ?_
      obtain rfl : m = 16 := by omega
      exact kk h1 od fp fq bw bm fl db al pm pd sq up lw f1 f38 fW fF fG' hfl
    · refine zr_aload_n (pc := 13)  (i := 0) rfl rfl dX8_flowAll_13 ?_
      refine zr_get (pc := 14)  fl_X8_67 (by first | assumption | rfl | (repeat (first | assumption | exact zup_s | refine zup_g (by decide) ?_))) rfl dX8_flowAll_14 ?_
      refine zr_iload_n (pc := 17)  (i := 2) rfl rfl dX8_flowAll_17 ?_
      refine zr_iconst (pc := 18)  dX8_flowAll_18 ?_
      refine zr_iast (pc := 19)  (by first | assumption | rfl | (repeat (first | assumption | exact zup_s | refine zup_g (by decide) ?_))) ⟨by omega, by omega⟩ (by decide) dX8_flowAll_19 ?_
      refine zr_aload_n (pc := 20)  (i := 0) rfl rfl dX8_flowAll_20 ?_
      refine zr_get (pc := 21)  fl_X8_13 (by first | assumption | rfl | (repeat (first | assumption | exact zup_s | refine zup_g (by decide) ?_))) rfl dX8_flowAll_21 ?_
      refine zr_iload_n (pc := 24)  (i := 2) rfl rfl dX8_flowAll_24 ?_
      refine zr_zald (pc := 25)  (by first | assumption | rfl | (repeat (first | assumption | exact zup_s | refine zup_g (by decide) ?_))) ⟨by omega, by omega⟩ (by decide) dX8_flowAll_25 ?_
      refine zr_if_eq (pc := 26)  (tgt := 124) ⟨by omega, by omega⟩ (by decide) dX8_flowAll_26 (fun q26 => ?_) (fun q26 => ?_)
      · refine zs_iinc_2 (pc := 124)  (by first | exact zn_i | exact zn_r | exact zn_0) (by decide) dX8_flowAll_124 ?_
        refine zr_goto (pc := 127)  (tgt := 7) (by decide) dX8_flowAll_127 ?_
        first | exact nx _ od fp fq bw bm _ _ al pm pd sq up lw _ _ _ _ (by omega) (fun j hj => by rw [zup_n (by omega)]; exact f1 j hj) f38 fW fF ⟨zup_s, m58⟩ (fun i e => ⟨uZ_n e, rfl⟩) (by rw [uZ_s, hF0 (fun z => by omega)]) (fun e => absurd uZ_s e) | exact nx c31 c31_1 c31_2 c31_3 c31_4 c31_5 _ _ c31_6 c31_7 c31_8 c31_9 _ _ _ _ _ _ (by omega) (fun j hj => by rw [c31_11 j (by omega), zup_n (by omega)]; exact f1 j hj) c31_12 c31_13 c31_14 ⟨(c31_11 57 (by omega)).trans zup_s, (c31_11 58 (by omega)).trans m58⟩ (fun i e => ⟨uZ_n e, rfl⟩) (by rw [uZ_s, hF0 (fun z => c31_10 z.2)]) (fun e => absurd uZ_s e)
      · refine zr_aload_n (pc := 29)  (i := 0) rfl rfl dX8_flowAll_29 ?_
        refine zr_iload_n (pc := 30)  (i := 2) rfl rfl dX8_flowAll_30 ?_
        refine zv_call1 (pc := 31)  cv_X8_flowAll_198 (by first | assumption | rfl | (repeat (first | assumption | exact zup_s | refine zup_g (by decide) ?_))) ⟨_, rfl, rfl⟩ (Nat.le_of_ble_eq_true rfl) (by decide) dX8_flowAll_31 ?_
        refine k_X8_yearOf (f38) (n44) (n50) (n51) (fW) (fF) (hl) (hs) (i7) (by omega) (fun c31 c31_1 c31_2 c31_3 c31_4 c31_5 c31_6 c31_7 c31_8 c31_9 c31_10 c31_11 c31_12 c31_13 c31_14 c31_15 => ?_) (fun c31 c31_1 c31_2 c31_3 c31_4 c31_5 c31_6 c31_7 c31_8 c31_9 c31_10 c31_11 c31_12 c31_13 c31_14 => ?_)
        · dsimp only [Option.toList, List.cons_append, List.nil_append]
          refine zk_ne1 (pc := 34) (tgt := 40) (by decide) dX8_flowAll_34 ?_
          have hrd := rd_R c31_15.1.1 c31_15.2.1
          have hrn := rnd_of (u := rdU (yTS s rk gr m) (yBS s rk gr m)) hrd.2.1
          have hvy : yVS s rk gr m = rndZ (rdU (yTS s rk gr m) (yBS s rk gr m)) (rdL (yTS s rk gr m) (yBS s rk gr m)) := rfl
          rw [← hvy] at hrn
          clear hvy
          have hd0 : 0 ≤ rdU (yTS s rk gr m) (yBS s rk gr m) / rdL (yTS s rk gr m) (yBS s rk gr m) ∧ rdU (yTS s rk gr m) (yBS s rk gr m) / rdL (yTS s rk gr m) (yBS s rk gr m) ≤ rdU (yTS s rk gr m) (yBS s rk gr m) := ⟨Int.ediv_nonneg (by omega) (by omega), Int.ediv_le_self _ (by omega)⟩
          have hm0 := Int.emod_nonneg (rdU (yTS s rk gr m) (yBS s rk gr m)) (show rdL (yTS s rk gr m) (yBS s rk gr m) ≠ 0 by omega)
          have hm1 := Int.emod_lt_of_pos (rdU (yTS s rk gr m) (yBS s rk gr m)) hrd.2.1
          generalize rdU (yTS s rk gr m) (yBS s rk gr m) = U at *
          generalize rdL (yTS s rk gr m) (yBS s rk gr m) = Lw at *
          refine zr_aload_n (pc := 40)  (i := 0) rfl rfl dX8_flowAll_40 ?_
          refine zr_get (pc := 41)  fl_X8_182 (by first | assumption | rfl | (repeat (first | assumption | exact zup_s | refine zup_g (by decide) ?_))) rfl dX8_flowAll_41 ?_
          refine zr_aload_n (pc := 44)  (i := 0) rfl rfl dX8_flowAll_44 ?_
          refine zr_get (pc := 45)  fl_X8_185 (by first | assumption | rfl | (repeat (first | assumption | exact zup_s | refine zup_g (by decide) ?_))) rfl dX8_flowAll_45 ?_
          refine zr_ldivN (pc := 48)  ⟨by omega, by omega⟩ ⟨by omega, by omega⟩ dX8_flowAll_48 ?_
          refine zs_lstore_n_3 (pc := 49)  (by first | exact zn_i | exact zn_r | exact zn_0) (by decide) dX8_flowAll_49 ?_
          refine zr_aload_n (pc := 50)  (i := 0) rfl rfl dX8_flowAll_50 ?_
          refine zr_get (pc := 51)  fl_X8_182 (by first | assumption | rfl | (repeat (first | assumption | exact zup_s | refine zup_g (by decide) ?_))) rfl dX8_flowAll_51 ?_
          refine zr_aload_n (pc := 54)  (i := 0) rfl rfl dX8_flowAll_54 ?_
          refine zr_get (pc := 55)  fl_X8_185 (by first | assumption | rfl | (repeat (first | assumption | exact zup_s | refine zup_g (by decide) ?_))) rfl dX8_flowAll_55 ?_
          refine zr_lremN (pc := 58)  ⟨by omega, by omega⟩ ⟨by omega, by omega⟩ dX8_flowAll_58 ?_
          refine zs_lstore_5 (pc := 59)  (by first | exact zn_i | exact zn_r | exact zn_0) (by decide) dX8_flowAll_59 ?_
          refine zr_lload (pc := 61)  rfl dX8_flowAll_61 ?_
          refine zr_aload_n (pc := 63)  (i := 0) rfl rfl dX8_flowAll_63 ?_
          refine zr_get (pc := 64)  fl_X8_185 (by first | assumption | rfl | (repeat (first | assumption | exact zup_s | refine zup_g (by decide) ?_))) rfl dX8_flowAll_64 ?_
          refine zr_lload (pc := 67)  rfl dX8_flowAll_67 ?_
          refine zr_lsub (pc := 69)  dX8_flowAll_69 ?_
          refine zr_lcmp_lt (pc := 70)  (tgt := 78) ⟨by omega, by omega⟩ ⟨by omega, by omega⟩ (by decide) dX8_flowAll_70 dX8_flowAll_71 (fun q71 => ?_) (fun q71 => ?_)
          · first | exact fin c31 c31_1 c31_2 c31_3 c31_4 c31_5 c31_6 c31_7 c31_8 c31_9 _ _ _ _ (by omega) ⟨by omega, c31_10⟩ c31_11 c31_12 c31_13 c31_14 (hrn.1 (by omega)).symm (by omega) | exact fin c31 c31_1 c31_2 c31_3 c31_4 c31_5 c31_6 c31_7 c31_8 c31_9 _ _ _ _ (by omega) ⟨by omega, c31_10⟩ c31_11 c31_12 c31_13 c31_14 (hrn.2 (by omega)).symm (by omega)
          · refine zr_lload_n (pc := 74)  (i := 3) rfl rfl dX8_flowAll_74 ?_
            refine zr_lconst (pc := 75)  (z := 1) (by decide) dX8_flowAll_75 ?_
            refine zr_ladd (pc := 76)  dX8_flowAll_76 ?_
            refine zs_lstore_n_3 (pc := 77)  (by first | exact zn_i | exact zn_r | exact zn_0) (by decide) dX8_flowAll_77 ?_
            first | exact fin c31 c31_1 c31_2 c31_3 c31_4 c31_5 c31_6 c31_7 c31_8 c31_9 _ _ _ _ (by omega) ⟨by omega, c31_10⟩ c31_11 c31_12 c31_13 c31_14 (hrn.1 (by omega)).symm (by omega) | exact fin c31 c31_1 c31_2 c31_3 c31_4 c31_5 c31_6 c31_7 c31_8 c31_9 _ _ _ _ (by omega) ⟨by omega, c31_10⟩ c31_11 c31_12 c31_13 c31_14 (hrn.2 (by omega)).symm (by omega)
        · dsimp only [Option.toList, List.cons_append, List.nil_append]
          refine zk_ne0 (pc := 34) (tgt := 40) dX8_flowAll_34 (by decide) ?_
          refine zr_goto (pc := 37)  (tgt := 124) (by decide) dX8_flowAll_37 ?_
          refine zs_iinc_2 (pc := 124)  (by first | exact zn_i | exact zn_r | exact zn_0) (by decide) dX8_flowAll_124 ?_
          refine zr_goto (pc := 127)  (tgt := 7) (by decide) dX8_flowAll_127 ?_
          first | exact nx _ od fp fq bw bm _ _ al pm pd sq up lw _ _ _ _ (by omega) (fun j hj => by rw [zup_n (by omega)]; exact f1 j hj) f38 fW fF ⟨zup_s, m58⟩ (fun i e => ⟨uZ_n e, rfl⟩) (by rw [uZ_s, hF0 (fun z => by omega)]) (fun e => absurd uZ_s e) | exact nx c31 c31_1 c31_2 c31_3 c31_4 c31_5 _ _ c31_6 c31_7 c31_8 c31_9 _ _ _ _ _ _ (by omega) (fun j hj => by rw [c31_11 j (by omega), zup_n (by omega)]; exact f1 j hj) c31_12 c31_13 c31_14 ⟨(c31_11 57 (by omega)).trans zup_s, (c31_11 58 (by omega)).trans m58⟩ (fun i e => ⟨uZ_n e, rfl⟩) (by rw [uZ_s, hF0 (fun z => c31_10 z.2)]) (fun e => absurd uZ_s e)
theorem k_X8_flowAll {t : Int} {od0 fp0 fq0 bw0 bm0 fl0 db0 sn0 iw0 : Int → Int} (m38 : h 38 = some (oMod th len N now al pm pd sq up lw)) (m40 : h 40 = some (aZ 16 rk)) (m41 : h 41 = some (aZ 1344 ap)) (m44 : h 44 = some (aI 16 gr)) (m45 : h 45 = some (aI 600 (fun e => pl e / 84))) (m46 : h 46 = some (aI 600 (fun e => pl e % 84))) (m47 : h 47 = some (aI 600 bt)) (m48 : h 48 = some (aI 600 bc)) (m50 : h 50 = some (aI 1344 sn0)) (m51 : h 51 = some (aZ 16 iw0)) (hW : mW h bw0 bm0) (hF : mF h od0 fp0 fq0) (hG : mG h fl0 db0) (hz : ∀ i, iw0 i = 0 ∨ iw0 i = 1) (i4 : ∀ i, rk i = 0 ∨ rk i = 1) (i7 : ∀ i, -1 ≤ gr i ∧ gr i < 4) (hN : N ≤ 600) (hp : ∀ e, 0 ≤ pl e ∧ pl e < 1344) (hb : ∀ i, 0 ≤ bt i ∧ bt i ≤ 99) (hc : ∀ i, -1 ≤ bc i ∧ bc i ≤ 50) (i3 : ∀ i, ap i = 0 ∨ ap i = 1) (ht : iR t) (k : ∀ (h1 : zH) (sn iw od fp fq bw bm fl db : Int → Int) (al pm pd sq up lw : Int), (∀ j, (j < 38 ∨ (38 < j ∧ j < 50) ∨ 58 < j) → h1 j = h j) → h1 38 = some (oMod th len N now al pm pd sq up lw) → mL h1 sn iw → (∀ i, iw i = 0 ∨ iw i = 1) → mW h1 bw bm → mF h1 od fp fq → mG h1 fl db → (∀ i, 0 ≤ i → i < 16 → fl i = flowS (SA ap bc pl bt N t) rk gr i ∧ (fl i ≠ -1 → db i = dbtS (SA ap bc pl bt N t) rk gr i)) → Post none n h1) : zMP G mX8_flowAll [.ref 38, vi t] n h Post := by
  refine zMP_of (by decide) [some _, some _, none, none, none, none, none] (Nat.le_of_ble_eq_true rfl) rfl ?_
  refine zr_aload_n (pc := 0)  (i := 0) rfl rfl dX8_flowAll_0 ?_
  refine zr_iload_n (pc := 1)  (i := 1) rfl rfl dX8_flowAll_1 ?_
  refine zv_call1 (pc := 2)  cv_X8_flowAll_134 (by first | assumption | rfl | (repeat (first | assumption | exact zup_s | refine zup_g (by decide) ?_))) ⟨_, rfl, rfl⟩ (Nat.le_of_ble_eq_true rfl) (by decide) dX8_flowAll_2 ?_
  refine k_X8_lookUp m38 m40 m41 m44 m45 m46 m47 m48 m50 m51 hz i4 i7 hN hp hb hc i3 ht (fun sn iw hl => ?_)
  dsimp only [Option.toList, List.cons_append, List.nil_append]
  refine zr_iconst (pc := 5)  dX8_flowAll_5 ?_
  refine zs_istore_n_2 (pc := 6)  (by first | exact zn_i | exact zn_r | exact zn_0) (by decide) dX8_flowAll_6 ?_
  exact l_X8_flowAll (hb0 := zup (zup h 50 (aI 1344 sn)) 51 (aZ 16 iw)) m40 m44 rfl rfl hl (SA_R (ap := ap) (pl := pl) (bt := bt) (N := N) hc t) i4 i7 (fun h1 od fp fq bw bm fl db al pm pd sq up lw f1 f38 fW fF fG hfl => k h1 sn iw od fp fq bw bm fl db al pm pd sq up lw (fun j hj => by rw [f1 j (by omega), zup_n (by omega), zup_n (by omega)]) f38 ⟨(f1 50 (by omega)).trans rfl, (f1 51 (by omega)).trans rfl⟩ hl.2.2 fW fF fG hfl) 16 0 _ od0 fp0 fq0 bw0 bm0 fl0 db0 al pm pd sq up lw _ _ _ _ (by omega) (by omega) (by omega) (fun _ _ => rfl) m38 hW hF hG (fun i a b => by omega)
theorem k_X8_missingAt {c : Int} {fl : Int → Int} (m38 : h 38 = some (oMod th len N now al pm pd sq up lw)) (m42 : h 42 = some (aI 16 rs)) (m43 : h 43 = some (aI 16 rg)) (m57 : h 57 = some (aI 16 fl)) (hf : ∀ i, 0 ≤ i → i < 16 → -1 ≤ fl i ∧ fl i ≤ 100000) (hs : ∀ i, 0 ≤ rs i ∧ rs i < 8) (hg : ∀ i, 0 ≤ rg i ∧ rg i < 8) (hc : iR c) (k : Post (some (vl (exZ fl rs rg c 16))) n h) : zMP G mX8_missingAt [.ref 38, vi c] n h Post := by
  have kk := k
  have main : ∀ (k m : Nat) (ct : Int), 16 - m ≤ k → m ≤ 16 → ct = exZ fl rs rg c m → zAW G mX8_missingAt zTT (zF G mX8_missingAt Post) 5 [some (.ref 38), some (vi c), some (vl ct), none, some (vi m)] [] n h 0 0 := by
    intro k
    induction k with
    | zero =>
      intro m ct hk hm hT
      obtain rfl : m = 16 := by omega
      rw [← hT] at kk
      refine zr_iload (pc := 5)  rfl dX8_missingAt_5 ?_
      refine zr_bipush (pc := 7)  (by decide) dX8_missingAt_7 ?_
      refine zr_icmp_ge (pc := 9)  (tgt := 77) ⟨by omega, by omega⟩ ⟨by omega, by omega⟩ (by decide) dX8_missingAt_9 (fun q9 => ?_) (fun q9 => ?_)
      · refine zr_lload_n (pc := 77)  (i := 2) rfl rfl dX8_missingAt_77 ?_
        refine zr_lreturn (pc := 78)  rfl (by decide) (by decide) dX8_missingAt_78 ?_
        exact kk
      · exact absurd q9 (by omega)
    | succ k ih =>
      intro m ct hk hm hT
      have es : exZ fl rs rg c (m + 1) = ct + (if fl m = -1 then 0 else (if rg m = c then fl m else 0) - (if rs m = c then fl m else 0)) := by rw [hT]; rfl
      have h1 := hs m
      have h2 := hg m
      refine zr_iload (pc := 5)  rfl dX8_missingAt_5 ?_
      refine zr_bipush (pc := 7)  (by decide) dX8_missingAt_7 ?_
      refine zr_icmp_ge (pc := 9)  (tgt := 77) ⟨by omega, by omega⟩ ⟨by omega, by omega⟩ (by decide) dX8_missingAt_9 (fun q9 => ?_) (fun q9 => ?_)
      · refine zr_lload_n (pc := 77)  (i := 2) rfl rfl dX8_missingAt_77 ?_
        refine zr_lreturn (pc := 78)  rfl (by decide) (by decide) dX8_missingAt_78 ?_
        obtain rfl : m = 16 := by omega
        rw [← hT] at kk
        exact kk
      · have hfm := hf m (by omega) (by omega)
        refine zr_aload_n (pc := 12)  (i := 0) rfl rfl dX8_missingAt_12 ?_
        refine zr_get (pc := 13)  fl_X8_67 (by first | assumption | rfl | (repeat (first | assumption | exact zup_s | refine zup_g (by decide) ?_))) rfl dX8_missingAt_13 ?_
        refine zr_iload (pc := 16)  rfl dX8_missingAt_16 ?_
        refine zr_iald (pc := 18)  (by first | assumption | rfl | (repeat (first | assumption | exact zup_s | refine zup_g (by decide) ?_))) ⟨by omega, by omega⟩ (by decide) dX8_missingAt_18 ?_
        refine zr_if_lt (pc := 19)  (tgt := 71) ⟨by omega, by omega⟩ (by decide) dX8_missingAt_19 (fun q19 => ?_) (fun q19 => ?_)
        · refine zs_iinc_4 (pc := 71)  (by first | exact zn_i | exact zn_r | exact zn_0) (by decide) dX8_missingAt_71 ?_
          refine zr_goto (pc := 74)  (tgt := 5) (by decide) dX8_missingAt_74 ?_
          exact ih (m + 1) _ (by omega) (by omega) (by rw [es]; (repeat' split) <;> omega)
        · refine zr_lload_n (pc := 22)  (i := 2) rfl rfl dX8_missingAt_22 ?_
          refine zr_aload_n (pc := 23)  (i := 0) rfl rfl dX8_missingAt_23 ?_
          refine zr_get (pc := 24)  fl_X8_24 (by first | assumption | rfl | (repeat (first | assumption | exact zup_s | refine zup_g (by decide) ?_))) rfl dX8_missingAt_24 ?_
          refine zr_iload (pc := 27)  rfl dX8_missingAt_27 ?_
          refine zr_iald (pc := 29)  (by first | assumption | rfl | (repeat (first | assumption | exact zup_s | refine zup_g (by decide) ?_))) ⟨by omega, by omega⟩ (by decide) dX8_missingAt_29 ?_
          refine zr_iload_n (pc := 30)  (i := 1) rfl rfl dX8_missingAt_30 ?_
          refine zr_icmp_ne (pc := 31)  (tgt := 44) ⟨by omega, by omega⟩ ⟨by omega, by omega⟩ (by decide) dX8_missingAt_31 (fun q31 => ?_) (fun q31 => ?_)
          · refine zr_iconst (pc := 44)  dX8_missingAt_44 ?_
            refine zr_aload_n (pc := 45)  (i := 0) rfl rfl dX8_missingAt_45 ?_
            refine zr_get (pc := 46)  fl_X8_20 (by first | assumption | rfl | (repeat (first | assumption | exact zup_s | refine zup_g (by decide) ?_))) rfl dX8_missingAt_46 ?_
            refine zr_iload (pc := 49)  rfl dX8_missingAt_49 ?_
            refine zr_iald (pc := 51)  (by first | assumption | rfl | (repeat (first | assumption | exact zup_s | refine zup_g (by decide) ?_))) ⟨by omega, by omega⟩ (by decide) dX8_missingAt_51 ?_
            refine zr_iload_n (pc := 52)  (i := 1) rfl rfl dX8_missingAt_52 ?_
            refine zr_icmp_ne (pc := 53)  (tgt := 66) ⟨by omega, by omega⟩ ⟨by omega, by omega⟩ (by decide) dX8_missingAt_53 (fun q53 => ?_) (fun q53 => ?_)
            · refine zr_iconst (pc := 66)  dX8_missingAt_66 ?_
              refine zr_isub (pc := 67)  dX8_missingAt_67 ?_
              refine zr_i2l (pc := 68)  ⟨by omega, by omega⟩ dX8_missingAt_68 ?_
              refine zr_ladd (pc := 69)  dX8_missingAt_69 ?_
              refine zs_lstore_n_2 (pc := 70)  (by first | exact zn_i | exact zn_r | exact zn_0) (by decide) dX8_missingAt_70 ?_
              refine zs_iinc_4 (pc := 71)  (by first | exact zn_i | exact zn_r | exact zn_0) (by decide) dX8_missingAt_71 ?_
              refine zr_goto (pc := 74)  (tgt := 5) (by decide) dX8_missingAt_74 ?_
              exact ih (m + 1) _ (by omega) (by omega) (by rw [es]; (repeat' split) <;> omega)
            · refine zr_aload_n (pc := 56)  (i := 0) rfl rfl dX8_missingAt_56 ?_
              refine zr_get (pc := 57)  fl_X8_67 (by first | assumption | rfl | (repeat (first | assumption | exact zup_s | refine zup_g (by decide) ?_))) rfl dX8_missingAt_57 ?_
              refine zr_iload (pc := 60)  rfl dX8_missingAt_60 ?_
              refine zr_iald (pc := 62)  (by first | assumption | rfl | (repeat (first | assumption | exact zup_s | refine zup_g (by decide) ?_))) ⟨by omega, by omega⟩ (by decide) dX8_missingAt_62 ?_
              refine zr_goto (pc := 63)  (tgt := 67) (by decide) dX8_missingAt_63 ?_
              refine zr_isub (pc := 67)  dX8_missingAt_67 ?_
              refine zr_i2l (pc := 68)  ⟨by omega, by omega⟩ dX8_missingAt_68 ?_
              refine zr_ladd (pc := 69)  dX8_missingAt_69 ?_
              refine zs_lstore_n_2 (pc := 70)  (by first | exact zn_i | exact zn_r | exact zn_0) (by decide) dX8_missingAt_70 ?_
              refine zs_iinc_4 (pc := 71)  (by first | exact zn_i | exact zn_r | exact zn_0) (by decide) dX8_missingAt_71 ?_
              refine zr_goto (pc := 74)  (tgt := 5) (by decide) dX8_missingAt_74 ?_
              exact ih (m + 1) _ (by omega) (by omega) (by rw [es]; (repeat' split) <;> omega)
          · refine zr_aload_n (pc := 34)  (i := 0) rfl rfl dX8_missingAt_34 ?_
            refine zr_get (pc := 35)  fl_X8_67 (by first | assumption | rfl | (repeat (first | assumption | exact zup_s | refine zup_g (by decide) ?_))) rfl dX8_missingAt_35 ?_
            refine zr_iload (pc := 38)  rfl dX8_missingAt_38 ?_
            refine zr_iald (pc := 40)  (by first | assumption | rfl | (repeat (first | assumption | exact zup_s | refine zup_g (by decide) ?_))) ⟨by omega, by omega⟩ (by decide) dX8_missingAt_40 ?_
            refine zr_goto (pc := 41)  (tgt := 45) (by decide) dX8_missingAt_41 ?_
            refine zr_aload_n (pc := 45)  (i := 0) rfl rfl dX8_missingAt_45 ?_
            refine zr_get (pc := 46)  fl_X8_20 (by first | assumption | rfl | (repeat (first | assumption | exact zup_s | refine zup_g (by decide) ?_))) rfl dX8_missingAt_46 ?_
            refine zr_iload (pc := 49)  rfl dX8_missingAt_49 ?_
            refine zr_iald (pc := 51)  (by first | assumption | rfl | (repeat (first | assumption | exact zup_s | refine zup_g (by decide) ?_))) ⟨by omega, by omega⟩ (by decide) dX8_missingAt_51 ?_
            refine zr_iload_n (pc := 52)  (i := 1) rfl rfl dX8_missingAt_52 ?_
            refine zr_icmp_ne (pc := 53)  (tgt := 66) ⟨by omega, by omega⟩ ⟨by omega, by omega⟩ (by decide) dX8_missingAt_53 (fun q53 => ?_) (fun q53 => ?_)
            · refine zr_iconst (pc := 66)  dX8_missingAt_66 ?_
              refine zr_isub (pc := 67)  dX8_missingAt_67 ?_
              refine zr_i2l (pc := 68)  ⟨by omega, by omega⟩ dX8_missingAt_68 ?_
              refine zr_ladd (pc := 69)  dX8_missingAt_69 ?_
              refine zs_lstore_n_2 (pc := 70)  (by first | exact zn_i | exact zn_r | exact zn_0) (by decide) dX8_missingAt_70 ?_
              refine zs_iinc_4 (pc := 71)  (by first | exact zn_i | exact zn_r | exact zn_0) (by decide) dX8_missingAt_71 ?_
              refine zr_goto (pc := 74)  (tgt := 5) (by decide) dX8_missingAt_74 ?_
              exact ih (m + 1) _ (by omega) (by omega) (by rw [es]; (repeat' split) <;> omega)
            · refine zr_aload_n (pc := 56)  (i := 0) rfl rfl dX8_missingAt_56 ?_
              refine zr_get (pc := 57)  fl_X8_67 (by first | assumption | rfl | (repeat (first | assumption | exact zup_s | refine zup_g (by decide) ?_))) rfl dX8_missingAt_57 ?_
              refine zr_iload (pc := 60)  rfl dX8_missingAt_60 ?_
              refine zr_iald (pc := 62)  (by first | assumption | rfl | (repeat (first | assumption | exact zup_s | refine zup_g (by decide) ?_))) ⟨by omega, by omega⟩ (by decide) dX8_missingAt_62 ?_
              refine zr_goto (pc := 63)  (tgt := 67) (by decide) dX8_missingAt_63 ?_
              refine zr_isub (pc := 67)  dX8_missingAt_67 ?_
              refine zr_i2l (pc := 68)  ⟨by omega, by omega⟩ dX8_missingAt_68 ?_
              refine zr_ladd (pc := 69)  dX8_missingAt_69 ?_
              refine zs_lstore_n_2 (pc := 70)  (by first | exact zn_i | exact zn_r | exact zn_0) (by decide) dX8_missingAt_70 ?_
              refine zs_iinc_4 (pc := 71)  (by first | exact zn_i | exact zn_r | exact zn_0) (by decide) dX8_missingAt_71 ?_
              refine zr_goto (pc := 74)  (tgt := 5) (by decide) dX8_missingAt_74 ?_
              exact ih (m + 1) _ (by omega) (by omega) (by rw [es]; (repeat' split) <;> omega)
  refine zMP_of (by decide) [some _, some _, none, none, none] (Nat.le_of_ble_eq_true rfl) rfl ?_
  refine zr_lconst (pc := 0)  (z := 0) (by decide) dX8_missingAt_0 ?_
  refine zs_lstore_n_2 (pc := 1)  (by first | exact zn_i | exact zn_r | exact zn_0) (by decide) dX8_missingAt_1 ?_
  refine zr_iconst (pc := 2)  dX8_missingAt_2 ?_
  refine zs_istore_4 (pc := 3)  (by first | exact zn_i | exact zn_r | exact zn_0) (by decide) dX8_missingAt_3 ?_
  exact main 16 0 0 (by omega) (by omega) rfl
end MOD
section MOD2
variable {G : zG} {n : Nat} {h : zH} {Post : Option Value → Nat → zH → Prop} {th len now num : Int} {tb rk rs rg gr bt bc bk be bn ap pl : Int → Int} {N : Nat}
theorem k_X8_flow {r t : Int} (hM : mK h th now len tb rk rs rg gr N bt bc bk ap pl) (hI : oI now len tb rk rs rg gr num N bt bc be bn ap pl) (hr : iR r) (ht : iR t) (k1 : ((0 ≤ r ∧ r < 16) ∧ rk r = 1) ∧ 0 ≤ t → ∀ h', mK h' 0 now len tb rk rs rg gr N bt bc bk ap pl → (∀ j, j < 38 ∨ 64 < j → h' j = h j) → Post (some (vi (flowS (SA ap bc pl bt N t) rk gr r))) n h') (k0 : ¬ (((0 ≤ r ∧ r < 16) ∧ rk r = 1) ∧ 0 ≤ t) → ∀ h', mK h' 0 now len tb rk rs rg gr N bt bc bk ap pl → (∀ j, j < 38 ∨ 64 < j → h' j = h j) → Post (some (vi (-1))) n h') : zMP G mX8_flow [.ref 38, vi r, vi t] n h Post := by
  obtain ⟨i1, i2, i3, i4, i5, i6, i7, i8, i9, ⟨j1, j2, j3, j4, j5⟩⟩ := hI
  have hM' := hM
  obtain ⟨⟨al, pm, pd, sq, up, lw, m38⟩, ⟨ek, ⟨m39, m40, m41, m42, m43, m44, m45, m46, m47, m48, m49⟩, hE⟩, ⟨⟨sn0, iw0, ⟨m50, m51⟩, hz⟩, ⟨bw0, bm0, m52, m53⟩, ⟨od0, fp0, fq0, m54, m55, m56⟩, ⟨fl0, db0, m57, m58⟩, -⟩, hp⟩ := hM
  have hs := SA_R (ap := ap) (pl := pl) (bt := bt) (N := N) j2 t
  have hs50 : ∀ p, SA ap bc pl bt N t p ≤ 50 := fun p => (hs p).2
  have hK1 : ∀ x : Int, mK (zup h 38 (oMod x len N now al pm pd sq up lw)) x now len tb rk rs rg gr N bt bc bk ap pl := fun x => mK_V hM' rfl (fun j hj => by rw [zup_n (by omega)]) ⟨m50, m51⟩ hz ⟨m52, m53⟩ ⟨m54, m55, m56⟩ ⟨m57, m58⟩
  refine zMP_of (by decide) [some _, some _, some _] (Nat.le_of_ble_eq_true rfl) rfl ?_
  refine zr_aload_n (pc := 0)  (i := 0) rfl rfl dX8_flow_0 ?_
  refine zr_iconst (pc := 1)  dX8_flow_1 ?_
  refine zr_put (pc := 2)  (oMod _ _ _ _ _ _ _ _ _ _) (fp_X8_91 rfl) (by first | assumption | rfl | (repeat (first | assumption | exact zup_s | refine zup_g (by decide) ?_))) (Nat.le_of_ble_eq_true rfl) rfl rfl rfl dX8_flow_2 ?_
  refine zr_aload_n (pc := 5)  (i := 0) rfl rfl dX8_flow_5 ?_
  refine zr_iload_n (pc := 6)  (i := 1) rfl rfl dX8_flow_6 ?_
  refine zv_call1 (pc := 7)  cv_X8_flow_112 (by first | assumption | rfl | (repeat (first | assumption | exact zup_s | refine zup_g (by decide) ?_))) ⟨_, rfl, rfl⟩ (Nat.le_of_ble_eq_true rfl) (by decide) dX8_flow_7 ?_
  refine k_X8_isRoad (by first | assumption | omega | (refine ⟨?_, ?_⟩ <;> omega) | rfl | (repeat (first | assumption | exact zup_s | refine zup_g (by decide) ?_))) (by first | assumption | omega | (refine ⟨?_, ?_⟩ <;> omega) | rfl | (repeat (first | assumption | exact zup_s | refine zup_g (by decide) ?_))) (by first | assumption | omega | (refine ⟨?_, ?_⟩ <;> omega) | rfl | (repeat (first | assumption | exact zup_s | refine zup_g (by decide) ?_))) (by first | assumption | omega | (refine ⟨?_, ?_⟩ <;> omega) | rfl | (repeat (first | assumption | exact zup_s | refine zup_g (by decide) ?_))) ?_
  dsimp only [Option.toList, List.cons_append, List.nil_append]
  refine zb_eq (pc := 10) (tgt := 17) (by decide) dX8_flow_10 (fun q10 => ?_) (fun q10 => ?_)
  · refine zr_iconst (pc := 17)  dX8_flow_17 ?_
    refine zr_ireturn (pc := 18)  rfl (by decide) (by decide) dX8_flow_18 ?_
    exact k0 (by omega) _ (hK1 0) (fun j hj => by (repeat rw [zup_n (by omega)]))
  · refine zr_iload_n (pc := 13)  (i := 2) rfl rfl dX8_flow_13 ?_
    refine zr_if_ge (pc := 14)  (tgt := 19) ⟨by omega, by omega⟩ (by decide) dX8_flow_14 (fun q14 => ?_) (fun q14 => ?_)
    · refine zr_aload_n (pc := 19)  (i := 0) rfl rfl dX8_flow_19 ?_
      refine zr_iload_n (pc := 20)  (i := 2) rfl rfl dX8_flow_20 ?_
      refine zv_call1 (pc := 21)  cv_X8_flow_203 (by first | assumption | rfl | (repeat (first | assumption | exact zup_s | refine zup_g (by decide) ?_))) ⟨_, rfl, rfl⟩ (Nat.le_of_ble_eq_true rfl) (by decide) dX8_flow_21 ?_
      refine k_X8_flowAll (sn0 := sn0) (iw0 := iw0) (h := zup h 38 (oMod 0 len N now al pm pd sq up lw)) zup_s m40 m41 m44 m45 m46 m47 m48 m50 m51 ⟨m52, m53⟩ ⟨m54, m55, m56⟩ ⟨m57, m58⟩ hz i4 i7 j5 hp j1 j2 j3 ht (fun h1 sn iw od fp fq bw bm fl db al2 pm2 pd2 sq2 up2 lw2 f1 f38 fL fz fW fF fG hfl => ?_)
      have n57 := fG.1
      dsimp only [Option.toList, List.cons_append, List.nil_append]
      refine zr_aload_n (pc := 24)  (i := 0) rfl rfl dX8_flow_24 ?_
      refine zr_get (pc := 25)  fl_X8_67 (by first | assumption | rfl | (repeat (first | assumption | exact zup_s | refine zup_g (by decide) ?_))) rfl dX8_flow_25 ?_
      refine zr_iload_n (pc := 28)  (i := 1) rfl rfl dX8_flow_28 ?_
      refine zr_iald (pc := 29)  (by first | assumption | rfl | (repeat (first | assumption | exact zup_s | refine zup_g (by decide) ?_))) ⟨by omega, by omega⟩ (by decide) dX8_flow_29 ?_
      refine zr_ireturn (pc := 30)  rfl (by decide) (by decide) dX8_flow_30 ?_
      rw [(hfl r (by omega) (by omega)).1]
      exact k1 (by omega) _ (mK_V hM' f38 (fun j hj => by rw [f1 j (by omega), zup_n (by omega)]) fL fz fW fF fG) (fun j hj => by rw [f1 j (by omega), zup_n (by omega)])
    · refine zr_iconst (pc := 17)  dX8_flow_17 ?_
      refine zr_ireturn (pc := 18)  rfl (by decide) (by decide) dX8_flow_18 ?_
      exact k0 (by omega) _ (hK1 0) (fun j hj => by (repeat rw [zup_n (by omega)]))
theorem k_X8_missing {c t : Int} (hM : mK h th now len tb rk rs rg gr N bt bc bk ap pl) (hI : oI now len tb rk rs rg gr num N bt bc be bn ap pl) (hc : iR c) (ht : iR t) (k1 : (0 ≤ c ∧ c < 8) ∧ 0 ≤ t → ∀ h', mK h' 0 now len tb rk rs rg gr N bt bc bk ap pl → (∀ j, j < 38 ∨ 64 < j → h' j = h j) → Post (some (vi (exZ (flowS (SA ap bc pl bt N t) rk gr) rs rg c 16))) n h') (kx : ¬ ((0 ≤ c ∧ c < 8) ∧ 0 ≤ t) → ∀ h', mK h' 1 now len tb rk rs rg gr N bt bc bk ap pl → (∀ j, j < 38 ∨ 64 < j → h' j = h j) → Post (some (vi 0)) n h') : zMP G mX8_missing [.ref 38, vi c, vi t] n h Post := by
  obtain ⟨i1, i2, i3, i4, i5, i6, i7, i8, i9, ⟨j1, j2, j3, j4, j5⟩⟩ := hI
  have hM' := hM
  obtain ⟨⟨al, pm, pd, sq, up, lw, m38⟩, ⟨ek, ⟨m39, m40, m41, m42, m43, m44, m45, m46, m47, m48, m49⟩, hE⟩, ⟨⟨sn0, iw0, ⟨m50, m51⟩, hz⟩, ⟨bw0, bm0, m52, m53⟩, ⟨od0, fp0, fq0, m54, m55, m56⟩, ⟨fl0, db0, m57, m58⟩, -⟩, hp⟩ := hM
  have hs := SA_R (ap := ap) (pl := pl) (bt := bt) (N := N) j2 t
  have hs50 : ∀ p, SA ap bc pl bt N t p ≤ 50 := fun p => (hs p).2
  have hK1 : ∀ x : Int, mK (zup h 38 (oMod x len N now al pm pd sq up lw)) x now len tb rk rs rg gr N bt bc bk ap pl := fun x => mK_V hM' rfl (fun j hj => by rw [zup_n (by omega)]) ⟨m50, m51⟩ hz ⟨m52, m53⟩ ⟨m54, m55, m56⟩ ⟨m57, m58⟩
  refine zMP_of (by decide) [some _, some _, some _] (Nat.le_of_ble_eq_true rfl) rfl ?_
  refine zr_aload_n (pc := 0)  (i := 0) rfl rfl dX8_missing_0 ?_
  refine zr_iload_n (pc := 1)  (i := 1) rfl rfl dX8_missing_1 ?_
  refine zr_if_lt (pc := 2)  (tgt := 15) ⟨by omega, by omega⟩ (by decide) dX8_missing_2 (fun q2 => ?_) (fun q2 => ?_)
  · refine zr_iconst (pc := 15)  dX8_missing_15 ?_
    refine zr_goto (pc := 16)  (tgt := 20) (by decide) dX8_missing_16 ?_
    refine zv_call1 (pc := 20)  cv_X8_missing_151 (by first | assumption | rfl | (repeat (first | assumption | exact zup_s | refine zup_g (by decide) ?_))) ⟨_, rfl, rfl⟩ (Nat.le_of_ble_eq_true rfl) (by decide) dX8_missing_20 ?_
    refine k_X8_throwsIf (by first | assumption | omega | (refine ⟨?_, ?_⟩ <;> omega) | rfl | (repeat (first | assumption | exact zup_s | refine zup_g (by decide) ?_))) (by first | assumption | omega | (refine ⟨?_, ?_⟩ <;> omega) | rfl | (repeat (first | assumption | exact zup_s | refine zup_g (by decide) ?_))) ?_
    dsimp only [Option.toList, List.cons_append, List.nil_append]
    refine zk_eq1 (pc := 23) (tgt := 28) dX8_missing_23 (by decide) ?_
    refine zr_iconst (pc := 26)  dX8_missing_26 ?_
    refine zr_ireturn (pc := 27)  rfl (by decide) (by decide) dX8_missing_27 ?_
    exact kx (by omega) _ (hK1 1) (fun j hj => by (repeat rw [zup_n (by omega)]))
  · refine zr_iload_n (pc := 5)  (i := 1) rfl rfl dX8_missing_5 ?_
    refine zr_bipush (pc := 6)  (by decide) dX8_missing_6 ?_
    refine zr_icmp_ge (pc := 8)  (tgt := 15) ⟨by omega, by omega⟩ ⟨by omega, by omega⟩ (by decide) dX8_missing_8 (fun q8 => ?_) (fun q8 => ?_)
    · refine zr_iconst (pc := 15)  dX8_missing_15 ?_
      refine zr_goto (pc := 16)  (tgt := 20) (by decide) dX8_missing_16 ?_
      refine zv_call1 (pc := 20)  cv_X8_missing_151 (by first | assumption | rfl | (repeat (first | assumption | exact zup_s | refine zup_g (by decide) ?_))) ⟨_, rfl, rfl⟩ (Nat.le_of_ble_eq_true rfl) (by decide) dX8_missing_20 ?_
      refine k_X8_throwsIf (by first | assumption | omega | (refine ⟨?_, ?_⟩ <;> omega) | rfl | (repeat (first | assumption | exact zup_s | refine zup_g (by decide) ?_))) (by first | assumption | omega | (refine ⟨?_, ?_⟩ <;> omega) | rfl | (repeat (first | assumption | exact zup_s | refine zup_g (by decide) ?_))) ?_
      dsimp only [Option.toList, List.cons_append, List.nil_append]
      refine zk_eq1 (pc := 23) (tgt := 28) dX8_missing_23 (by decide) ?_
      refine zr_iconst (pc := 26)  dX8_missing_26 ?_
      refine zr_ireturn (pc := 27)  rfl (by decide) (by decide) dX8_missing_27 ?_
      exact kx (by omega) _ (hK1 1) (fun j hj => by (repeat rw [zup_n (by omega)]))
    · refine zr_iload_n (pc := 11)  (i := 2) rfl rfl dX8_missing_11 ?_
      refine zr_if_ge (pc := 12)  (tgt := 19) ⟨by omega, by omega⟩ (by decide) dX8_missing_12 (fun q12 => ?_) (fun q12 => ?_)
      · refine zr_iconst (pc := 19)  dX8_missing_19 ?_
        refine zv_call1 (pc := 20)  cv_X8_missing_151 (by first | assumption | rfl | (repeat (first | assumption | exact zup_s | refine zup_g (by decide) ?_))) ⟨_, rfl, rfl⟩ (Nat.le_of_ble_eq_true rfl) (by decide) dX8_missing_20 ?_
        refine k_X8_throwsIf (by first | assumption | omega | (refine ⟨?_, ?_⟩ <;> omega) | rfl | (repeat (first | assumption | exact zup_s | refine zup_g (by decide) ?_))) (by first | assumption | omega | (refine ⟨?_, ?_⟩ <;> omega) | rfl | (repeat (first | assumption | exact zup_s | refine zup_g (by decide) ?_))) ?_
        dsimp only [Option.toList, List.cons_append, List.nil_append]
        refine zk_eq0 (pc := 23) (tgt := 28) (by decide) dX8_missing_23 ?_
        refine zr_aload_n (pc := 28)  (i := 0) rfl rfl dX8_missing_28 ?_
        refine zr_iload_n (pc := 29)  (i := 2) rfl rfl dX8_missing_29 ?_
        refine zv_call1 (pc := 30)  cv_X8_missing_203 (by first | assumption | rfl | (repeat (first | assumption | exact zup_s | refine zup_g (by decide) ?_))) ⟨_, rfl, rfl⟩ (Nat.le_of_ble_eq_true rfl) (by decide) dX8_missing_30 ?_
        refine k_X8_flowAll (sn0 := sn0) (iw0 := iw0) (h := zup h 38 (oMod 0 len N now al pm pd sq up lw)) zup_s m40 m41 m44 m45 m46 m47 m48 m50 m51 ⟨m52, m53⟩ ⟨m54, m55, m56⟩ ⟨m57, m58⟩ hz i4 i7 j5 hp j1 j2 j3 ht (fun h1 sn iw od fp fq bw bm fl db al2 pm2 pd2 sq2 up2 lw2 f1 f38 fL fz fW fF fG hfl => ?_)
        dsimp only [Option.toList, List.cons_append, List.nil_append]
        refine zr_aload_n (pc := 33)  (i := 0) rfl rfl dX8_missing_33 ?_
        refine zr_iload_n (pc := 34)  (i := 1) rfl rfl dX8_missing_34 ?_
        refine zv_call1 (pc := 35)  cv_X8_missing_206 (by first | assumption | rfl | (repeat (first | assumption | exact zup_s | refine zup_g (by decide) ?_))) ⟨_, rfl, rfl⟩ (Nat.le_of_ble_eq_true rfl) (by decide) dX8_missing_35 ?_
        refine k_X8_missingAt (rs := rs) (rg := rg) f38 ((f1 42 (by omega)).trans m42) ((f1 43 (by omega)).trans m43) fG.1 (fun i a b => by rw [(hfl i a b).1]; exact flowS_R hs50) i5 i6 hc ?_
        rw [exZ_congr (fl2 := flowS (SA ap bc pl bt N t) rk gr) (fun r a b => (hfl r a b).1)]
        have hex := exZ_R (fl := flowS (SA ap bc pl bt N t) rk gr) (rs := rs) (rg := rg) (fun i _ _ => flowS_R hs50) (c := c) 16 (by omega)
        generalize hge : exZ (flowS (SA ap bc pl bt N t) rk gr) rs rg c 16 = ee at *
        dsimp only [Option.toList, List.cons_append, List.nil_append]
        refine zr_l2i (pc := 38)  dX8_missing_38 ?_
        refine zr_ireturn (pc := 39)  rfl (by decide) (by decide) dX8_missing_39 ?_
        exact k1 (by omega) _ (mK_V hM' f38 (fun j hj => by rw [f1 j (by omega), zup_n (by omega)]) fL fz fW fF fG) (fun j hj => by rw [f1 j (by omega), zup_n (by omega)])
      · refine zr_iconst (pc := 15)  dX8_missing_15 ?_
        refine zr_goto (pc := 16)  (tgt := 20) (by decide) dX8_missing_16 ?_
        refine zv_call1 (pc := 20)  cv_X8_missing_151 (by first | assumption | rfl | (repeat (first | assumption | exact zup_s | refine zup_g (by decide) ?_))) ⟨_, rfl, rfl⟩ (Nat.le_of_ble_eq_true rfl) (by decide) dX8_missing_20 ?_
        refine k_X8_throwsIf (by first | assumption | omega | (refine ⟨?_, ?_⟩ <;> omega) | rfl | (repeat (first | assumption | exact zup_s | refine zup_g (by decide) ?_))) (by first | assumption | omega | (refine ⟨?_, ?_⟩ <;> omega) | rfl | (repeat (first | assumption | exact zup_s | refine zup_g (by decide) ?_))) ?_
        dsimp only [Option.toList, List.cons_append, List.nil_append]
        refine zk_eq1 (pc := 23) (tgt := 28) dX8_missing_23 (by decide) ?_
        refine zr_iconst (pc := 26)  dX8_missing_26 ?_
        refine zr_ireturn (pc := 27)  rfl (by decide) (by decide) dX8_missing_27 ?_
        exact kx (by omega) _ (hK1 1) (fun j hj => by (repeat rw [zup_n (by omega)]))
end MOD2
