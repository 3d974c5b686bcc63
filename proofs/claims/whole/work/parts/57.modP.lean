/-! the reference's agreed flows, to the end -/
theorem mK_W {h h' : zH} {th th2 now len al pm pd sq up lw : Int} {tb rk rs rg gr bt bc bk ap pl sn iw bw bm od fp fq fl db : Int → Int} {N : Nat} (hM : mK h th now len tb rk rs rg gr N bt bc bk ap pl) (m38 : h' 38 = some (oMod th2 len N now al pm pd sq up lw)) (hf : ∀ j, 39 ≤ j → j < 50 → h' j = h j) (hL : mL h' sn iw) (hz : ∀ i, iw i = 0 ∨ iw i = 1) (hW : mW h' bw bm) (hF : mF h' od fp fq) (hG : mG h' fl db) (hB : ∃ pc co ma si sh op, mB h' pc co ma si sh op) : mK h' th2 now len tb rk rs rg gr N bt bc bk ap pl := by
  obtain ⟨-, ⟨ek, hA, hE⟩, -, hp⟩ := hM
  exact ⟨⟨_, _, _, _, _, _, m38⟩, ⟨ek, mA_fr hA (fun j a b => hf j a (by omega)), hE⟩, ⟨⟨sn, iw, hL, hz⟩, ⟨bw, bm, hW⟩, ⟨od, fp, fq, hF⟩, ⟨fl, db, hG⟩, hB⟩, hp⟩
section MOD
variable {G : zG} {n : Nat} {h : zH} {Post : Option Value → Nat → zH → Prop} {th len now al pm pd sq up lw : Int} {N : Nat}
variable {fl db rs rg pc p q op : Int → Int} {d : Nat} {r t w : Int}
/-- the shifts -/
theorem l_X8_agS {ma si : Int → Int} {D : Int} (m38 : h 38 = some (oMod th len N now al pm pd sq up lw)) (m42 : h 42 = some (aI 16 rs)) (m43 : h 43 = some (aI 16 rg)) (m57 : h 57 = some (aI 16 fl)) (m58 : h 58 = some (aI 16 db)) (m59 : h 59 = some (aI 8 pc)) (hf : ∀ i, 0 ≤ i → i < 16 → -1 ≤ fl i ∧ fl i ≤ 100000) (hd : ∀ i, 0 ≤ i → i < 16 → fl i ≠ -1 → 1 ≤ db i ∧ db i ≤ 14) (hne : ∀ i, 0 ≤ i → i < 16 → fl i ≠ -1 → rs i ≠ rg i) (hs : ∀ i, 0 ≤ rs i ∧ rs i < 8) (hg : ∀ i, 0 ≤ rg i ∧ rg i < 8) (hpl : plP q pc d p) (hpo : ∀ c, 4 ≤ c → c < 8 → pc c = -1) (hM : ∀ i j : Int, 0 ≤ i → i < d → 0 ≤ j → j < d → ma (4 * i + j) = lpZ fl rs rg db 16 (p i) (p j)) (hSi : ∀ k : Int, 0 ≤ k → k < d → si k = exZ fl rs rg (p k) 16) (kk : ∀ co sh : Int → Int, (∀ c, 0 ≤ c → c < 8 → sh c = exT (yyZ (lpZ fl rs rg db 16) (fun c => exZ fl rs rg c 16) pc p d) c) → zAW G mX8_agreed zTT (zF G mX8_agreed Post) 359 [some (.ref 38), some (vi r), some (vi t), some (vi w), some (vi 1), some (vi d), some (vl D), none, some (vi 8)] [] n (hD h co ma si sh) 0 0) : ∀ (K : Nat) (m : Int) (co sh : Int → Int), 8 - m ≤ K → 0 ≤ m → m ≤ 8 → (∀ c, 0 ≤ c → c < m → sh c = exT (yyZ (lpZ fl rs rg db 16) (fun c => exZ fl rs rg c 16) pc p d) c) → zAW G mX8_agreed zTT (zF G mX8_agreed Post) 312 [some (.ref 38), some (vi r), some (vi t), some (vi w), some (vi 1), some (vi d), some (vl D), none, some (vi m)] [] n (hD h co ma si sh) 0 0 := by
  have hd4 := hpl.1
  have hB1 : ∀ x k j : Int, 0 ≤ k → k < d → 0 ≤ j → j < d → j ≠ x → bdZ (ma (4 * k + j)) 224 := fun x k j a b c e _ => by
    rw [hM k j a b c e, ← cB_4 (hpl.2.1 j c e).1.2]
    exact lp_B hne hd (p k) (p j) (hpl.2.1 k a b).1.1 (hpl.2.1 k a b).1.2 (hpl.2.1 j c e).1.1 (by have := (hpl.2.1 j c e).1.2; omega)
  have hB2 : ∀ k : Int, 0 ≤ k → k < d → bdZ (si k) 1600000 := fun k a b => by
    rw [hSi k a b]
    have := exZ_R (rs := rs) (rg := rg) hf (c := p k) 16 (by omega)
    exact ⟨by omega, by omega⟩
  have hy : ∀ c, 0 ≤ c → c < 8 → 0 ≤ pc c → (pc c < d) ∧ dtZ d (fun k j => if j = pc c then si k else ma (4 * k + j)) = exT (yyZ (lpZ fl rs rg db 16) (fun c => exZ fl rs rg c 16) pc p d) c := fun c a b z => by
    by_cases z1 : c < 4
    · by_cases z2 : q c = -2
      · have := hpl.2.2.2.1 c a z1 z2; omega
      · have hk := (hpl.2.2.1 c a z1 z2).1
        refine ⟨hk.2, ?_⟩
        rw [exT_in z1]
        unfold yyZ
        rw [if_pos z]
        refine dt_congr (fun i j i0 i1 j0 j1 => ?_)
        show (if j = pc c then si i else ma (4 * i + j)) = (if j = pc c then exZ fl rs rg (p i) 16 else lpZ fl rs rg db 16 (p i) (p j))
        rw [hSi i i0 i1, hM i j i0 i1 j0 j1]
    · have := hpo c (by omega) b; omega
  have hy0 : ∀ c, ¬ 0 ≤ pc c → exT (yyZ (lpZ fl rs rg db 16) (fun c => exZ fl rs rg c 16) pc p d) c = 0 := fun c z => by
    unfold exT yyZ
    rw [if_neg z]
    split <;> rfl
  have hpR : ∀ c, 0 ≤ c → c < 8 → -2 ≤ pc c ∧ pc c < 4 := fun c a b => by
    by_cases z : c < 4
    · by_cases z2 : q c = -2
      · have := hpl.2.2.2.1 c a z z2; omega
      · have := (hpl.2.2.1 c a z z2).1; omega
    · have := hpo c (by omega) b; omega
  intro K
  induction K with
  | zero =>
    intro m co sh hK h0 hm hsh
    obtain rfl : m = 8 := by omega
    refine zr_iload (pc := 312)  rfl dX8_agreed_312 ?_
    refine zr_bipush (pc := 314)  (by decide) dX8_agreed_314 ?_
    refine zr_icmp_ge (pc := 316)  (tgt := 359) ⟨by omega, by omega⟩ ⟨by omega, by omega⟩ (by decide) dX8_agreed_316 (fun q316 => ?_) (fun q316 => ?_)
    · exact kk co sh hsh
    · exact absurd q316 (by omega)
  | succ K ih =>
    intro m co sh hK h0 hm hsh
    refine zr_iload (pc := 312)  rfl dX8_agreed_312 ?_
    refine zr_bipush (pc := 314)  (by decide) dX8_agreed_314 ?_
    refine zr_icmp_ge (pc := 316)  (tgt := 359) ⟨by omega, by omega⟩ ⟨by omega, by omega⟩ (by decide) dX8_agreed_316 (fun q316 => ?_) (fun q316 => ?_)
    · obtain rfl : m = 8 := by omega
      exact kk co sh hsh
    · have hpm := hpR m (by omega) (by omega)
      refine zr_aload_n (pc := 319)  (i := 0) rfl rfl dX8_agreed_319 ?_
      refine zr_get (pc := 320)  fl_X8_85 (by first | assumption | rfl | (repeat (first | assumption | exact zup_s | refine zup_g (by decide) ?_))) rfl dX8_agreed_320 ?_
      refine zr_iload (pc := 323)  rfl dX8_agreed_323 ?_
      refine zr_aload_n (pc := 325)  (i := 0) rfl rfl dX8_agreed_325 ?_
      refine zr_get (pc := 326)  fl_X8_73 (by first | assumption | rfl | (repeat (first | assumption | exact zup_s | refine zup_g (by decide) ?_))) rfl dX8_agreed_326 ?_
      refine zr_iload (pc := 329)  rfl dX8_agreed_329 ?_
      refine zr_iald (pc := 331)  (by first | assumption | rfl | (repeat (first | assumption | exact zup_s | refine zup_g (by decide) ?_))) ⟨by omega, by omega⟩ (by decide) dX8_agreed_331 ?_
      refine zr_if_lt (pc := 332)  (tgt := 351) ⟨by omega, by omega⟩ (by decide) dX8_agreed_332 (fun q332 => ?_) (fun q332 => ?_)
      · refine zr_lconst (pc := 351)  (z := 0) (by decide) dX8_agreed_351 ?_
        refine zr_last (pc := 352)  (by first | assumption | rfl | (repeat (first | assumption | exact zup_s | refine zup_g (by decide) ?_))) ⟨by omega, by omega⟩ (by decide) dX8_agreed_352 ?_
        refine zr_heap hD_63 ?_
        refine zs_iinc_8 (pc := 353)  (by first | exact zn_i | exact zn_r | exact zn_0) (by decide) dX8_agreed_353 ?_
        refine zr_goto (pc := 356)  (tgt := 312) (by decide) dX8_agreed_356 ?_
        first | exact ih (m + 1) co2 _ (by omega) (by omega) (by omega) (fun c a b => by by_cases e : c = m; (rw [e, uZ_s]); (rw [uZ_n e]; exact hsh c a (by omega))) | exact ih (m + 1) co _ (by omega) (by omega) (by omega) (fun c a b => by by_cases e : c = m; (rw [e, uZ_s, hy0 m (by omega)]); (rw [uZ_n e]; exact hsh c a (by omega)))
      · refine zr_aload_n (pc := 335)  (i := 0) rfl rfl dX8_agreed_335 ?_
        refine zr_iload (pc := 336)  rfl dX8_agreed_336 ?_
        refine zr_aload_n (pc := 338)  (i := 0) rfl rfl dX8_agreed_338 ?_
        refine zr_get (pc := 339)  fl_X8_73 (by first | assumption | rfl | (repeat (first | assumption | exact zup_s | refine zup_g (by decide) ?_))) rfl dX8_agreed_339 ?_
        refine zr_iload (pc := 342)  rfl dX8_agreed_342 ?_
        refine zr_iald (pc := 344)  (by first | assumption | rfl | (repeat (first | assumption | exact zup_s | refine zup_g (by decide) ?_))) ⟨by omega, by omega⟩ (by decide) dX8_agreed_344 ?_
        refine zv_call2 (pc := 345)  cv_X8_agreed_215 (by first | assumption | rfl | (repeat (first | assumption | exact zup_s | refine zup_g (by decide) ?_))) ⟨_, rfl, rfl⟩ (Nat.le_of_ble_eq_true rfl) (by decide) dX8_agreed_345 ?_
        refine k_X8_determinant m38 rfl rfl rfl hd4 ⟨by omega, by omega⟩ (hB1 _) hB2 (fun co2 => ?_)
        rw [hD_60, (hy m (by omega) (by omega) (by omega)).2]
        dsimp only [Option.toList, List.cons_append, List.nil_append]
        refine zr_goto (pc := 348)  (tgt := 352) (by decide) dX8_agreed_348 ?_
        refine zr_last (pc := 352)  (by first | assumption | rfl | (repeat (first | assumption | exact zup_s | refine zup_g (by decide) ?_))) ⟨by omega, by omega⟩ (by decide) dX8_agreed_352 ?_
        refine zr_heap hD_63 ?_
        refine zs_iinc_8 (pc := 353)  (by first | exact zn_i | exact zn_r | exact zn_0) (by decide) dX8_agreed_353 ?_
        refine zr_goto (pc := 356)  (tgt := 312) (by decide) dX8_agreed_356 ?_
        first | exact ih (m + 1) co2 _ (by omega) (by omega) (by omega) (fun c a b => by by_cases e : c = m; (rw [e, uZ_s]); (rw [uZ_n e]; exact hsh c a (by omega))) | exact ih (m + 1) co _ (by omega) (by omega) (by omega) (fun c a b => by by_cases e : c = m; (rw [e, uZ_s, hy0 m (by omega)]); (rw [uZ_n e]; exact hsh c a (by omega)))
theorem l_X8_ag257 {ma si0 : Int → Int} (m38 : h 38 = some (oMod th len N now al pm pd sq up lw)) (m42 : h 42 = some (aI 16 rs)) (m43 : h 43 = some (aI 16 rg)) (m57 : h 57 = some (aI 16 fl)) (m58 : h 58 = some (aI 16 db)) (m59 : h 59 = some (aI 8 pc)) (hf : ∀ i, 0 ≤ i → i < 16 → -1 ≤ fl i ∧ fl i ≤ 100000) (hd : ∀ i, 0 ≤ i → i < 16 → fl i ≠ -1 → 1 ≤ db i ∧ db i ≤ 14) (hne : ∀ i, 0 ≤ i → i < 16 → fl i ≠ -1 → rs i ≠ rg i) (hs : ∀ i, 0 ≤ rs i ∧ rs i < 8) (hg : ∀ i, 0 ≤ rg i ∧ rg i < 8) (hpl : plP q pc d p) (hpo : ∀ c, 4 ≤ c → c < 8 → pc c = -1) (hM : ∀ i j : Int, 0 ≤ i → i < d → 0 ≤ j → j < d → ma (4 * i + j) = lpZ fl rs rg db 16 (p i) (p j)) (hI : chI fl rs rg 4 op q) (hr : 0 ≤ r ∧ r < 16) (hfr : fl r ≠ -1) (hw : iR w) (kk : ∀ (h' : zH) (up2 lw2 : Int), (∀ j, j ≠ 38 → (j < 60 ∨ 63 < j) → h' j = h j) → h' 38 = some (oMod th len N now al pm pd sq up2 lw2) → (∃ co ma si sh, h' 60 = some (aI 4 co) ∧ h' 61 = some (aJ 16 ma) ∧ h' 62 = some (aJ 4 si) ∧ h' 63 = some (aJ 8 sh)) → Post (some (vl (if w = 0 then rdU (agT fl rs rg db r) (agD fl rs rg db) else rdL (agT fl rs rg db r) (agD fl rs rg db)))) n h') {co sh : Int → Int} {x7 x8 : Option Value} : zAW G mX8_agreed zTT (zF G mX8_agreed Post) 257 [some (.ref 38), some (vi r), some (vi t), some (vi w), some (vi 1), some (vi d), some (vi 16), x7, x8] [] n (hD h co ma si0 sh) 0 0 := by
  have hd4 := hpl.1
  have hAM := ag_M hne hd hs hg hI hpl
  have hDp := hAM.1
  have hAr := hAM.2 r hr.1 hr.2 hfr
  clear hAM
  have hag := (ag_R (rs := rs) (rg := rg) hf hne hd).1.1
  have hB1 : ∀ x k j : Int, 0 ≤ k → k < d → 0 ≤ j → j < d → j ≠ x → bdZ (ma (4 * k + j)) 224 := fun x k j a b c e _ => by
    rw [hM k j a b c e, ← cB_4 (hpl.2.1 j c e).1.2]
    exact lp_B hne hd (p k) (p j) (hpl.2.1 k a b).1.1 (hpl.2.1 k a b).1.2 (hpl.2.1 j c e).1.1 (by have := (hpl.2.1 j c e).1.2; omega)
  have hDb : bdZ (dtZ d (fun i j => lpZ fl rs rg db 16 (p i) (p j))) 644513529856 := dt_b0 hd4 (fun k j a b c e => by
    show bdZ (lpZ fl rs rg db 16 (p k) (p j)) 224
    rw [← cB_4 (hpl.2.1 j c e).1.2]
    exact lp_B hne hd (p k) (p j) (hpl.2.1 k a b).1.1 (hpl.2.1 k a b).1.2 (hpl.2.1 j c e).1.1 (by have := (hpl.2.1 j c e).1.2; omega))
  have hfr2 := hf r hr.1 hr.2
  have hdr := hd r hr.1 hr.2 hfr
  have hsr := hs r
  have hgr := hg r
  have hex : ∀ c, bdZ (exZ fl rs rg c 16) 1600000 := fun c => by
    have := exZ_R (rs := rs) (rg := rg) hf (c := c) 16 (by omega)
    exact ⟨by omega, by omega⟩
  have hyb : ∀ c, bdZ (exT (yyZ (lpZ fl rs rg db 16) (fun c => exZ fl rs rg c 16) pc p d) c) 4603668070400000 := fun c => by
    unfold exT
    split
    · unfold yyZ
      split
      · refine dt_b (x := pc c) hd4 (fun k j a b i e f => ?_) (fun k a b => ?_)
        · show bdZ (if j = pc c then exZ fl rs rg (p k) 16 else lpZ fl rs rg db 16 (p k) (p j)) 224
          rw [if_neg f, ← cB_4 (hpl.2.1 j i e).1.2]
          exact lp_B hne hd (p k) (p j) (hpl.2.1 k a b).1.1 (hpl.2.1 k a b).1.2 (hpl.2.1 j i e).1.1 (by have := (hpl.2.1 j i e).1.2; omega)
        · show bdZ (if pc c = pc c then exZ fl rs rg (p k) 16 else lpZ fl rs rg db 16 (p k) (p (pc c))) 1600000
          rw [if_pos rfl]
          exact hex (p k)
      · exact ⟨by omega, by omega⟩
    · exact ⟨by omega, by omega⟩
  have hpR : ∀ c, 0 ≤ c → c < 4 → -2 ≤ pc c ∧ pc c < 4 := fun c a z => by
    by_cases z2 : q c = -2
    · have := hpl.2.2.2.1 c a z z2; omega
    · have := (hpl.2.2.1 c a z z2).1; omega
  have fin : ∀ co si sh : Int → Int, (∀ c, 0 ≤ c → c < 8 → sh c = exT (yyZ (lpZ fl rs rg db 16) (fun c => exZ fl rs rg c 16) pc p d) c) → zAW G mX8_agreed zTT (zF G mX8_agreed Post) 359 [some (.ref 38), some (vi r), some (vi t), some (vi w), some (vi 1), some (vi d), some (vl (dtZ d (fun i j => lpZ fl rs rg db 16 (p i) (p j)))), none, some (vi 8)] [] n (hD h co ma si sh) 0 0 := fun co si sh hsh => by
    have y1 := hyb (rg r)
    have y2 := hyb (rs r)
    rw [← hsh (rg r) hgr.1 hgr.2, ← hsh (rs r) hsr.1 hsr.2] at hAr
    rw [← hsh (rg r) hgr.1 hgr.2] at y1
    rw [← hsh (rs r) hsr.1 hsr.2] at y2
    clear hyb hex hsh
    have hb1 := bd_mul (x := fl r) (A := 100000) ⟨by omega, by omega⟩ hDb
    have hb2 := bd_mul (x := db r) (A := 14) ⟨by omega, by omega⟩ (bd_sub y1 y2 rfl)
    unfold bdZ at hDb hb1 hb2
    have hsame := rd_same hDp hag hAr
    rw [← hsame.1, ← hsame.2] at kk
    clear hsame hAr hag
    generalize dtZ d (fun i j => lpZ fl rs rg db 16 (p i) (p j)) = D at *
    refine zr_aload_n (pc := 359)  (i := 0) rfl rfl dX8_agreed_359 ?_
    refine zr_aload_n (pc := 360)  (i := 0) rfl rfl dX8_agreed_360 ?_
    refine zr_get (pc := 361)  fl_X8_67 (by first | assumption | rfl | (repeat (first | assumption | exact zup_s | refine zup_g (by decide) ?_))) rfl dX8_agreed_361 ?_
    refine zr_iload_n (pc := 364)  (i := 1) rfl rfl dX8_agreed_364 ?_
    refine zr_iald (pc := 365)  (by first | assumption | rfl | (repeat (first | assumption | exact zup_s | refine zup_g (by decide) ?_))) ⟨by omega, by omega⟩ (by decide) dX8_agreed_365 ?_
    refine zr_i2l (pc := 366)  ⟨by omega, by omega⟩ dX8_agreed_366 ?_
    refine zr_lload (pc := 367)  rfl dX8_agreed_367 ?_
    refine zr_lmul (pc := 369)  dX8_agreed_369 ?_
    refine zr_aload_n (pc := 370)  (i := 0) rfl rfl dX8_agreed_370 ?_
    refine zr_get (pc := 371)  fl_X8_70 (by first | assumption | rfl | (repeat (first | assumption | exact zup_s | refine zup_g (by decide) ?_))) rfl dX8_agreed_371 ?_
    refine zr_iload_n (pc := 374)  (i := 1) rfl rfl dX8_agreed_374 ?_
    refine zr_iald (pc := 375)  (by first | assumption | rfl | (repeat (first | assumption | exact zup_s | refine zup_g (by decide) ?_))) ⟨by omega, by omega⟩ (by decide) dX8_agreed_375 ?_
    refine zr_i2l (pc := 376)  ⟨by omega, by omega⟩ dX8_agreed_376 ?_
    refine zr_aload_n (pc := 377)  (i := 0) rfl rfl dX8_agreed_377 ?_
    refine zr_get (pc := 378)  fl_X8_85 (by first | assumption | rfl | (repeat (first | assumption | exact zup_s | refine zup_g (by decide) ?_))) rfl dX8_agreed_378 ?_
    refine zr_aload_n (pc := 381)  (i := 0) rfl rfl dX8_agreed_381 ?_
    refine zr_get (pc := 382)  fl_X8_24 (by first | assumption | rfl | (repeat (first | assumption | exact zup_s | refine zup_g (by decide) ?_))) rfl dX8_agreed_382 ?_
    refine zr_iload_n (pc := 385)  (i := 1) rfl rfl dX8_agreed_385 ?_
    refine zr_iald (pc := 386)  (by first | assumption | rfl | (repeat (first | assumption | exact zup_s | refine zup_g (by decide) ?_))) ⟨by omega, by omega⟩ (by decide) dX8_agreed_386 ?_
    refine zr_lald (pc := 387)  (by first | assumption | rfl | (repeat (first | assumption | exact zup_s | refine zup_g (by decide) ?_))) ⟨by omega, by omega⟩ (by decide) dX8_agreed_387 ?_
    refine zr_aload_n (pc := 388)  (i := 0) rfl rfl dX8_agreed_388 ?_
    refine zr_get (pc := 389)  fl_X8_85 (by first | assumption | rfl | (repeat (first | assumption | exact zup_s | refine zup_g (by decide) ?_))) rfl dX8_agreed_389 ?_
    refine zr_aload_n (pc := 392)  (i := 0) rfl rfl dX8_agreed_392 ?_
    refine zr_get (pc := 393)  fl_X8_20 (by first | assumption | rfl | (repeat (first | assumption | exact zup_s | refine zup_g (by decide) ?_))) rfl dX8_agreed_393 ?_
    refine zr_iload_n (pc := 396)  (i := 1) rfl rfl dX8_agreed_396 ?_
    refine zr_iald (pc := 397)  (by first | assumption | rfl | (repeat (first | assumption | exact zup_s | refine zup_g (by decide) ?_))) ⟨by omega, by omega⟩ (by decide) dX8_agreed_397 ?_
    refine zr_lald (pc := 398)  (by first | assumption | rfl | (repeat (first | assumption | exact zup_s | refine zup_g (by decide) ?_))) ⟨by omega, by omega⟩ (by decide) dX8_agreed_398 ?_
    refine zr_lsub (pc := 399)  dX8_agreed_399 ?_
    refine zr_lmul (pc := 400)  dX8_agreed_400 ?_
    refine zr_lsub (pc := 401)  dX8_agreed_401 ?_
    refine zr_lload (pc := 402)  rfl dX8_agreed_402 ?_
    refine zv_call2 (pc := 404)  cv_X8_agreed_188 (by first | assumption | rfl | (repeat (first | assumption | exact zup_s | refine zup_g (by decide) ?_))) ⟨_, rfl, rfl⟩ (Nat.le_of_ble_eq_true rfl) (by decide) dX8_agreed_404 ?_
    refine k_X8_set m38 (by omega) (by omega) ?_
    dsimp only [Option.toList, List.cons_append, List.nil_append]
    refine zr_iload_n (pc := 407)  (i := 3) rfl rfl dX8_agreed_407 ?_
    refine zr_if_ne (pc := 408)  (tgt := 418) ⟨by omega, by omega⟩ (by decide) dX8_agreed_408 (fun q408 => ?_) (fun q408 => ?_)
    · refine zr_aload_n (pc := 418)  (i := 0) rfl rfl dX8_agreed_418 ?_
      refine zr_get (pc := 419)  fl_X8_185 (by first | assumption | rfl | (repeat (first | assumption | exact zup_s | refine zup_g (by decide) ?_))) rfl dX8_agreed_419 ?_
      refine zr_lreturn (pc := 422)  rfl (by decide) (by decide) dX8_agreed_422 ?_
      first | (have e : w = 0 := (by omega); rw [if_pos e] at kk; refine kk _ (rdU (fl r * D - db r * (sh (rg r) - sh (rs r))) D) (rdL (fl r * D - db r * (sh (rg r) - sh (rs r))) D) ?_ ?_ ?_) | (have e : ¬ w = 0 := (by omega); rw [if_neg e] at kk; refine kk _ (rdU (fl r * D - db r * (sh (rg r) - sh (rs r))) D) (rdL (fl r * D - db r * (sh (rg r) - sh (rs r))) D) ?_ ?_ ?_)
      exact (fun j a b => by rw [zup_n (by omega)]; exact hD_fr b)
      exact rfl
      exact ⟨_, _, _, _, rfl, rfl, rfl, rfl⟩
    · refine zr_aload_n (pc := 411)  (i := 0) rfl rfl dX8_agreed_411 ?_
      refine zr_get (pc := 412)  fl_X8_182 (by first | assumption | rfl | (repeat (first | assumption | exact zup_s | refine zup_g (by decide) ?_))) rfl dX8_agreed_412 ?_
      refine zr_goto (pc := 415)  (tgt := 422) (by decide) dX8_agreed_415 ?_
      refine zr_lreturn (pc := 422)  rfl (by decide) (by decide) dX8_agreed_422 ?_
      first | (have e : w = 0 := (by omega); rw [if_pos e] at kk; refine kk _ (rdU (fl r * D - db r * (sh (rg r) - sh (rs r))) D) (rdL (fl r * D - db r * (sh (rg r) - sh (rs r))) D) ?_ ?_ ?_) | (have e : ¬ w = 0 := (by omega); rw [if_neg e] at kk; refine kk _ (rdU (fl r * D - db r * (sh (rg r) - sh (rs r))) D) (rdL (fl r * D - db r * (sh (rg r) - sh (rs r))) D) ?_ ?_ ?_)
      exact (fun j a b => by rw [zup_n (by omega)]; exact hD_fr b)
      exact rfl
      exact ⟨_, _, _, _, rfl, rfl, rfl, rfl⟩
  have e300 : ∀ (si : Int → Int) x7 x8, (∀ k : Int, 0 ≤ k → k < d → si k = exZ fl rs rg (p k) 16) → zAW G mX8_agreed zTT (zF G mX8_agreed Post) 300 [some (.ref 38), some (vi r), some (vi t), some (vi w), some (vi 1), some (vi d), some (vi 4), x7, x8] [] n (hD h co ma si sh) 0 0 := fun si x7 x8 hSi => by
    refine zr_aload_n (pc := 300)  (i := 0) rfl rfl dX8_agreed_300 ?_
    refine zr_iload (pc := 301)  rfl dX8_agreed_301 ?_
    refine zr_iconst (pc := 303)  dX8_agreed_303 ?_
    refine zv_call2 (pc := 304)  cv_X8_agreed_215 (by first | assumption | rfl | (repeat (first | assumption | exact zup_s | refine zup_g (by decide) ?_))) ⟨_, rfl, rfl⟩ (Nat.le_of_ble_eq_true rfl) (by decide) dX8_agreed_304 ?_
    refine k_X8_determinant m38 rfl rfl rfl hd4 ⟨by omega, by omega⟩ (hB1 _) (fun k a b => by rw [hSi k a b]; exact hex (p k)) (fun co2 => ?_)
    rw [hD_60, dt_congr (e2 := (fun i j => lpZ fl rs rg db 16 (p i) (p j))) (fun i j a b c e => by show (if j = -1 then si i else ma (4 * i + j)) = lpZ fl rs rg db 16 (p i) (p j); rw [if_neg (by omega)]; exact hM i j a b c e)]
    dsimp only [Option.toList, List.cons_append, List.nil_append]
    refine zs_lstore_6 (pc := 307)  (by first | exact zn_i | exact zn_r | exact zn_0) (by decide) dX8_agreed_307 ?_
    refine zr_iconst (pc := 309)  dX8_agreed_309 ?_
    refine zs_istore_8 (pc := 310)  (by first | exact zn_i | exact zn_r | exact zn_0) (by decide) dX8_agreed_310 ?_
    exact l_X8_agS m38 m42 m43 m57 m58 m59 hf hd hne hs hg hpl hpo hM hSi (fun co sh hsh => fin co si sh hsh) 8 0 co2 sh (by omega) (by omega) (by omega) (fun c a b => by omega)
  have l260 : ∀ (K : Nat) (m : Int) (si : Int → Int) (x7 x8 : Option Value), 4 - m ≤ K → 0 ≤ m → m ≤ 4 → (∀ k : Int, 0 ≤ k → k < d → p k < m → si k = exZ fl rs rg (p k) 16) → zAW G mX8_agreed zTT (zF G mX8_agreed Post) 260 [some (.ref 38), some (vi r), some (vi t), some (vi w), some (vi 1), some (vi d), some (vi m), x7, x8] [] n (hD h co ma si sh) 0 0 := by
    intro K
    induction K with
    | zero =>
      intro m si x7 x8 hK h0 hm hsi
      obtain rfl : m = 4 := by omega
      refine zr_iload (pc := 260)  rfl dX8_agreed_260 ?_
      refine zr_iconst (pc := 262)  dX8_agreed_262 ?_
      refine zr_icmp_ge (pc := 263)  (tgt := 300) ⟨by omega, by omega⟩ ⟨by omega, by omega⟩ (by decide) dX8_agreed_263 (fun q263 => ?_) (fun q263 => ?_)
      · exact e300 si _ _ (fun k a b => hsi k a b (hpl.2.1 k a b).1.2)
      · exact absurd q263 (by omega)
    | succ K ih =>
      intro m si x7 x8 hK h0 hm hsi
      have nx0 : m < 4 → pc m < 0 → ∀ k : Int, 0 ≤ k → k < d → p k < m + 1 → si k = exZ fl rs rg (p k) 16 := fun _ z k a b c => hsi k a b (by
        have e := (hpl.2.1 k a b).2.2
        by_cases z2 : p k = m
        · rw [z2] at e; omega
        · omega)
      have nx1 : m < 4 → 0 ≤ pc m → ∀ k : Int, 0 ≤ k → k < d → p k < m + 1 → uZ si (pc m) (exZ fl rs rg m 16) k = exZ fl rs rg (p k) 16 := fun hm4 z k a b c => by
        have e := (hpl.2.1 k a b).2.2
        by_cases z2 : p k = m
        · rw [z2] at e; rw [← e, uZ_s, e, z2]
        · rw [uZ_n (fun f => z2 (by
            by_cases z3 : q m = -2
            · have := hpl.2.2.2.1 m h0 hm4 z3; omega
            · have := (hpl.2.2.1 m h0 hm4 z3).2; rw [← f] at this; exact this))]
          exact hsi k a b (by omega)
      refine zr_iload (pc := 260)  rfl dX8_agreed_260 ?_
      refine zr_iconst (pc := 262)  dX8_agreed_262 ?_
      refine zr_icmp_ge (pc := 263)  (tgt := 300) ⟨by omega, by omega⟩ ⟨by omega, by omega⟩ (by decide) dX8_agreed_263 (fun q263 => ?_) (fun q263 => ?_)
      · obtain rfl : m = 4 := by omega
        exact e300 si _ _ (fun k a b => hsi k a b (hpl.2.1 k a b).1.2)
      · have hpm := hpR m (by omega) (by omega)
        refine zr_aload_n (pc := 266)  (i := 0) rfl rfl dX8_agreed_266 ?_
        refine zr_get (pc := 267)  fl_X8_73 (by first | assumption | rfl | (repeat (first | assumption | exact zup_s | refine zup_g (by decide) ?_))) rfl dX8_agreed_267 ?_
        refine zr_iload (pc := 270)  rfl dX8_agreed_270 ?_
        refine zr_iald (pc := 272)  (by first | assumption | rfl | (repeat (first | assumption | exact zup_s | refine zup_g (by decide) ?_))) ⟨by omega, by omega⟩ (by decide) dX8_agreed_272 ?_
        refine zr_if_lt (pc := 273)  (tgt := 294) ⟨by omega, by omega⟩ (by decide) dX8_agreed_273 (fun q273 => ?_) (fun q273 => ?_)
        · refine zs_iinc_6 (pc := 294)  (by first | exact zn_i | exact zn_r | exact zn_0) (by decide) dX8_agreed_294 ?_
          refine zr_goto (pc := 297)  (tgt := 260) (by decide) dX8_agreed_297 ?_
          first | exact ih (m + 1) _ _ _ (by omega) (by omega) (by omega) (nx0 (by omega) (by omega)) | exact ih (m + 1) _ _ _ (by omega) (by omega) (by omega) (nx1 (by omega) (by omega))
        · refine zr_aload_n (pc := 276)  (i := 0) rfl rfl dX8_agreed_276 ?_
          refine zr_get (pc := 277)  fl_X8_82 (by first | assumption | rfl | (repeat (first | assumption | exact zup_s | refine zup_g (by decide) ?_))) rfl dX8_agreed_277 ?_
          refine zr_aload_n (pc := 280)  (i := 0) rfl rfl dX8_agreed_280 ?_
          refine zr_get (pc := 281)  fl_X8_73 (by first | assumption | rfl | (repeat (first | assumption | exact zup_s | refine zup_g (by decide) ?_))) rfl dX8_agreed_281 ?_
          refine zr_iload (pc := 284)  rfl dX8_agreed_284 ?_
          refine zr_iald (pc := 286)  (by first | assumption | rfl | (repeat (first | assumption | exact zup_s | refine zup_g (by decide) ?_))) ⟨by omega, by omega⟩ (by decide) dX8_agreed_286 ?_
          refine zr_aload_n (pc := 287)  (i := 0) rfl rfl dX8_agreed_287 ?_
          refine zr_iload (pc := 288)  rfl dX8_agreed_288 ?_
          refine zv_call1 (pc := 290)  cv_X8_agreed_206 (by first | assumption | rfl | (repeat (first | assumption | exact zup_s | refine zup_g (by decide) ?_))) ⟨_, rfl, rfl⟩ (Nat.le_of_ble_eq_true rfl) (by decide) dX8_agreed_290 ?_
          refine k_X8_missingAt m38 m42 m43 m57 hf hs hg ⟨by omega, by omega⟩ ?_
          dsimp only [Option.toList, List.cons_append, List.nil_append]
          refine zr_last (pc := 293)  (by first | assumption | rfl | (repeat (first | assumption | exact zup_s | refine zup_g (by decide) ?_))) ⟨by omega, by omega⟩ (by decide) dX8_agreed_293 ?_
          refine zr_heap hD_62 ?_
          refine zs_iinc_6 (pc := 294)  (by first | exact zn_i | exact zn_r | exact zn_0) (by decide) dX8_agreed_294 ?_
          refine zr_goto (pc := 297)  (tgt := 260) (by decide) dX8_agreed_297 ?_
          first | exact ih (m + 1) _ _ _ (by omega) (by omega) (by omega) (nx0 (by omega) (by omega)) | exact ih (m + 1) _ _ _ (by omega) (by omega) (by omega) (nx1 (by omega) (by omega))
  refine zr_iconst (pc := 257)  dX8_agreed_257 ?_
  refine zs_istore_6 (pc := 258)  (by first | exact zn_i | exact zn_r | exact zn_0) (by decide) dX8_agreed_258 ?_
  exact l260 4 0 si0 _ _ (by omega) (by omega) (by omega) (fun k a b c => by have := (hpl.2.1 k a b).1.1; omega)
end MOD
section MOD2
variable {G : zG} {n : Nat} {h : zH} {Post : Option Value → Nat → zH → Prop} {th len now num : Int} {tb rk rs rg gr bt bc bk be bn ap pl : Int → Int} {N : Nat}
theorem k_X8_agreed {r t w : Int} (hM : mK h th now len tb rk rs rg gr N bt bc bk ap pl) (hI : oI now len tb rk rs rg gr num N bt bc be bn ap pl) (hr : iR r) (ht : iR t) (hw : iR w) (k1 : (((0 ≤ r ∧ r < 16) ∧ rk r = 1) ∧ 0 ≤ t) ∧ (w = 0 ∨ w = 1) → flowS (SA ap bc pl bt N t) rk gr r ≠ -1 → ∀ h', mK h' 0 now len tb rk rs rg gr N bt bc bk ap pl → (∀ j, j < 38 ∨ 64 < j → h' j = h j) → Post (some (vl (if w = 0 then rdU (agT (flowS (SA ap bc pl bt N t) rk gr) rs rg (dbtS (SA ap bc pl bt N t) rk gr) r) (agD (flowS (SA ap bc pl bt N t) rk gr) rs rg (dbtS (SA ap bc pl bt N t) rk gr)) else rdL (agT (flowS (SA ap bc pl bt N t) rk gr) rs rg (dbtS (SA ap bc pl bt N t) rk gr) r) (agD (flowS (SA ap bc pl bt N t) rk gr) rs rg (dbtS (SA ap bc pl bt N t) rk gr))))) n h') (kx : ¬ (((((0 ≤ r ∧ r < 16) ∧ rk r = 1) ∧ 0 ≤ t) ∧ (w = 0 ∨ w = 1)) ∧ flowS (SA ap bc pl bt N t) rk gr r ≠ -1) → ∀ h', mK h' 1 now len tb rk rs rg gr N bt bc bk ap pl → (∀ j, j < 38 ∨ 64 < j → h' j = h j) → Post (some (vl 0)) n h') : zMP G mX8_agreed [.ref 38, vi r, vi t, vi w] n h Post := by
  obtain ⟨i1, i2, i3, i4, i5, i6, i7, i8, i9, ⟨j1, j2, j3, j4, j5⟩⟩ := hI
  have hM' := hM
  obtain ⟨⟨al, pm, pd, sq, up, lw, m38⟩, ⟨ek, ⟨m39, m40, m41, m42, m43, m44, m45, m46, m47, m48, m49⟩, hE⟩, ⟨⟨sn0, iw0, ⟨m50, m51⟩, hz⟩, ⟨bw0, bm0, m52, m53⟩, ⟨od0, fp0, fq0, m54, m55, m56⟩, ⟨fl0, db0, m57, m58⟩, -⟩, hp⟩ := hM
  have hs := SA_R (ap := ap) (pl := pl) (bt := bt) (N := N) j2 t
  have hs50 : ∀ p, SA ap bc pl bt N t p ≤ 50 := fun p => (hs p).2
  have hK1 : ∀ x : Int, mK (zup h 38 (oMod x len N now al pm pd sq up lw)) x now len tb rk rs rg gr N bt bc bk ap pl := fun x => mK_V hM' rfl (fun j hj => by rw [zup_n (by omega)]) ⟨m50, m51⟩ hz ⟨m52, m53⟩ ⟨m54, m55, m56⟩ ⟨m57, m58⟩
  obtain ⟨-, ⟨-, -, -, -, pc0, co0, ma0, si0, sh0, op0, b59, b60, b61, b62, b63, b64, b65⟩, -⟩ := hM'.2
  have ag64 : ∀ (h1 : zH) (sn iw od fp fq bw bm fl db : Int → Int) (al pm pd sq up lw : Int), (((0 ≤ r ∧ r < 16) ∧ rk r = 1) ∧ 0 ≤ t) ∧ (w = 0 ∨ w = 1) → (∀ j, (j < 38 ∨ (38 < j ∧ j < 50) ∨ 58 < j) → h1 j = h j) → mL h1 sn iw → (∀ i, iw i = 0 ∨ iw i = 1) → mW h1 bw bm → mF h1 od fp fq → mG h1 fl db → (∀ i, 0 ≤ i → i < 16 → fl i = flowS (SA ap bc pl bt N t) rk gr i ∧ (fl i ≠ -1 → db i = dbtS (SA ap bc pl bt N t) rk gr i)) → fl r ≠ -1 → zAW G mX8_agreed zTT (zF G mX8_agreed Post) 64 [some (.ref 38), some (vi r), some (vi t), some (vi w), some (vi 1), none, none, none, none] [] n (zup h1 38 (oMod 0 len N now al pm pd sq up lw)) 0 0 := fun h1 sn iw od fp fq bw bm fl db al pm pd sq up lw hc f1 fL fz fW fF fG hfl hfr => by
    have hac := ag_c2 (rs := rs) (rg := rg) hfl
    have hr16 := hc.1.1.1
    have k2 := k1 hc (by rw [← (hfl r hr16.1 hr16.2).1]; exact hfr)
    rw [← hac.1, ← hac.2 r hr16.1 hr16.2 hfr] at k2
    have hf : ∀ i, 0 ≤ i → i < 16 → -1 ≤ fl i ∧ fl i ≤ 100000 := fun i a b => by rw [(hfl i a b).1]; exact flowS_R hs50
    have hd : ∀ i, 0 ≤ i → i < 16 → fl i ≠ -1 → 1 ≤ db i ∧ db i ≤ 14 := fun i a b c => by rw [(hfl i a b).2 c]; exact dbtS_R (by rw [← (hfl i a b).1]; exact c)
    have hne : ∀ i, 0 ≤ i → i < 16 → fl i ≠ -1 → rs i ≠ rg i := fun i a b c => i8 i (by
      rw [(hfl i a b).1] at c
      unfold flowS at c
      by_cases z : (rk i = 1 ∧ yOS (SA ap bc pl bt N t) rk gr i) ∧ yVS (SA ap bc pl bt N t) rk gr i ≤ 100000
      · exact z.1.1
      · rw [if_neg z] at c; exact absurd rfl c)
    have n42 := (f1 42 (by omega)).trans m42
    have n43 := (f1 43 (by omega)).trans m43
    have n59 := (f1 59 (by omega)).trans b59
    have n60 := (f1 60 (by omega)).trans b60
    have n61 := (f1 61 (by omega)).trans b61
    have n62 := (f1 62 (by omega)).trans b62
    have n63 := (f1 63 (by omega)).trans b63
    have n64 := (f1 64 (by omega)).trans b64
    refine zr_aload_n (pc := 64)  (i := 0) rfl rfl dX8_agreed_64 ?_
    refine zv_call0 (pc := 65)  cv_X8_agreed_212 (by first | assumption | rfl | (repeat (first | assumption | exact zup_s | refine zup_g (by decide) ?_))) ⟨_, rfl, rfl⟩ (Nat.le_of_ble_eq_true rfl) (by decide) dX8_agreed_65 ?_
    refine k_X8_choose (th := 0) (len := len) (now := now) (al := al) (pm := pm) (pd := pd) (sq := sq) (up := up) (lw := lw) (N := N) rfl n42 n43 fG.1 n64 n59 hf i5 i6 b65 (fun op op2 q pc hop2 hI hp1 hp2 => ?_)
    dsimp only [Option.toList, List.cons_append, List.nil_append]
    obtain ⟨d, p, hnb, hpl⟩ := pl_ex hI.2.2.2.2.1 hp1
    rw [hnb]
    clear hnb hp1
    have hd4 := hpl.1
    refine zr_heap (show hC (zup h1 38 (oMod 0 len N now al pm pd sq up lw)) op2 pc = hD (hC (zup h1 38 (oMod 0 len N now al pm pd sq up lw)) op2 pc) co0 ma0 si0 sh0 from by
      funext j
      unfold hD
      by_cases e3 : j = 63
      · subst e3; exact n63
      rw [zup_n e3]
      by_cases e2 : j = 62
      · subst e2; exact n62
      rw [zup_n e2]
      by_cases e1 : j = 61
      · subst e1; exact n61
      rw [zup_n e1]
      by_cases e0 : j = 60
      · subst e0; exact n60
      rw [zup_n e0]) ?_
    have l73 : ∀ (K : Nat) (m : Int) (ma : Int → Int), 16 - m ≤ K → 0 ≤ m → m ≤ 16 → (∀ i, 0 ≤ i → i < m → ma i = 0) → zAW G mX8_agreed zTT (zF G mX8_agreed Post) 73 [some (.ref 38), some (vi r), some (vi t), some (vi w), some (vi 1), some (vi d), some (vi m), none, none] [] n (hD (hC (zup h1 38 (oMod 0 len N now al pm pd sq up lw)) op2 pc) co0 ma si0 sh0) 0 0 := by
      have fin : ∀ ma : Int → Int, (∀ i, 0 ≤ i → i < 16 → ma i = 0) → zAW G mX8_agreed zTT (zF G mX8_agreed Post) 97 [some (.ref 38), some (vi r), some (vi t), some (vi w), some (vi 1), some (vi d), some (vi 0), none, none] [] n (hD (hC (zup h1 38 (oMod 0 len N now al pm pd sq up lw)) op2 pc) co0 ma si0 sh0) 0 0 := fun ma hma => l_X8_agR (h := hC (zup h1 38 (oMod 0 len N now al pm pd sq up lw)) op2 pc) rfl n42 n43 fG.1 fG.2 rfl hf hd hne i5 i6 hpl hp2 (fun ma x7 x8 hM => l_X8_ag257 (h := hC (zup h1 38 (oMod 0 len N now al pm pd sq up lw)) op2 pc) rfl n42 n43 fG.1 fG.2 rfl hf hd hne i5 i6 hpl hp2 hM hI hr16 hfr hw (fun h' up2 lw2 g1 g38 gB => by
        obtain ⟨co, ma, si, sh, g60, g61, g62, g63⟩ := gB
        have g : ∀ j, j ≠ 38 → j ≠ 59 → j ≠ 64 → (j < 60 ∨ 63 < j) → h' j = h1 j := fun j a b c e => by rw [g1 j a e, hC_fr ⟨b, c⟩, zup_n a]
        have gg := fun (j : Nat) (a : 39 ≤ j) (b : j < 59) => g j (by omega) (by omega) (by omega) (by omega)
        refine k2 h' (mK_W hM' g38 (fun j a b => (gg j a (by omega)).trans (f1 j (by omega))) ⟨(gg 50 (by omega) (by omega)).trans fL.1, (gg 51 (by omega) (by omega)).trans fL.2⟩ fz ⟨(gg 52 (by omega) (by omega)).trans fW.1, (gg 53 (by omega) (by omega)).trans fW.2⟩ ⟨(gg 54 (by omega) (by omega)).trans fF.1, (gg 55 (by omega) (by omega)).trans fF.2.1, (gg 56 (by omega) (by omega)).trans fF.2.2⟩ ⟨(gg 57 (by omega) (by omega)).trans fG.1, (gg 58 (by omega) (by omega)).trans fG.2⟩ ⟨pc, co, ma, si, sh, op2, (g1 59 (by decide) (by omega)).trans rfl, g60, g61, g62, g63, (g1 64 (by decide) (by omega)).trans rfl, ?_⟩) (fun j hj => (g j (by omega) (by omega) (by omega) (by omega)).trans (f1 j (by omega)))
        exact hop2)) 16 0 ma _ _ (by omega) (by omega) (fun i j a b c e => by rw [hma _ (by omega) (by omega), lp_0 (hpl.2.1 j c e).1.2 (hpl.2.1 i a b).1.1])
      intro K
      induction K with
      | zero =>
        intro m ma hK h0 hm hma
        obtain rfl : m = 16 := by omega
        refine zr_iload (pc := 73)  rfl dX8_agreed_73 ?_
        refine zr_bipush (pc := 75)  (by decide) dX8_agreed_75 ?_
        refine zr_icmp_ge (pc := 77)  (tgt := 94) ⟨by omega, by omega⟩ ⟨by omega, by omega⟩ (by decide) dX8_agreed_77 (fun q77 => ?_) (fun q77 => ?_)
        · refine zr_iconst (pc := 94)  dX8_agreed_94 ?_
          refine zs_istore_6 (pc := 95)  (by first | exact zn_i | exact zn_r | exact zn_0) (by decide) dX8_agreed_95 ?_
          exact fin ma hma
        · exact absurd q77 (by omega)
      | succ K ih =>
        intro m ma hK h0 hm hma
        refine zr_iload (pc := 73)  rfl dX8_agreed_73 ?_
        refine zr_bipush (pc := 75)  (by decide) dX8_agreed_75 ?_
        refine zr_icmp_ge (pc := 77)  (tgt := 94) ⟨by omega, by omega⟩ ⟨by omega, by omega⟩ (by decide) dX8_agreed_77 (fun q77 => ?_) (fun q77 => ?_)
        · refine zr_iconst (pc := 94)  dX8_agreed_94 ?_
          refine zs_istore_6 (pc := 95)  (by first | exact zn_i | exact zn_r | exact zn_0) (by decide) dX8_agreed_95 ?_
          exact fin ma (fun i a b => hma i a (by omega))
        · refine zr_aload_n (pc := 80)  (i := 0) rfl rfl dX8_agreed_80 ?_
          refine zr_get (pc := 81)  fl_X8_79 (by first | assumption | rfl | (repeat (first | assumption | exact zup_s | refine zup_g (by decide) ?_))) rfl dX8_agreed_81 ?_
          refine zr_iload (pc := 84)  rfl dX8_agreed_84 ?_
          refine zr_lconst (pc := 86)  (z := 0) (by decide) dX8_agreed_86 ?_
          refine zr_last (pc := 87)  (by first | assumption | rfl | (repeat (first | assumption | exact zup_s | refine zup_g (by decide) ?_))) ⟨by omega, by omega⟩ (by decide) dX8_agreed_87 ?_
          refine zr_heap hD_61 ?_
          refine zs_iinc_6 (pc := 88)  (by first | exact zn_i | exact zn_r | exact zn_0) (by decide) dX8_agreed_88 ?_
          refine zr_goto (pc := 91)  (tgt := 73) (by decide) dX8_agreed_91 ?_
          exact ih (m + 1) _ (by omega) (by omega) (by omega) (fun i a b => by by_cases e : i = m; (rw [e, uZ_s]); (rw [uZ_n e]; exact hma i a (by omega)))
    refine zs_istore_5 (pc := 68)  (by first | exact zn_i | exact zn_r | exact zn_0) (by decide) dX8_agreed_68 ?_
    refine zr_iconst (pc := 70)  dX8_agreed_70 ?_
    refine zs_istore_6 (pc := 71)  (by first | exact zn_i | exact zn_r | exact zn_0) (by decide) dX8_agreed_71 ?_
    exact l73 16 0 ma0 (by omega) (by omega) (by omega) (fun i a b => by omega)
  refine zMP_of (by decide) [some _, some _, some _, some _, none, none, none, none, none] (Nat.le_of_ble_eq_true rfl) rfl ?_
  refine zr_aload_n (pc := 0)  (i := 0) rfl rfl dX8_agreed_0 ?_
  refine zr_iload_n (pc := 1)  (i := 1) rfl rfl dX8_agreed_1 ?_
  refine zv_call1 (pc := 2)  cv_X8_agreed_112 (by first | assumption | rfl | (repeat (first | assumption | exact zup_s | refine zup_g (by decide) ?_))) ⟨_, rfl, rfl⟩ (Nat.le_of_ble_eq_true rfl) (by decide) dX8_agreed_2 ?_
  refine k_X8_isRoad (by first | assumption | omega | (refine ⟨?_, ?_⟩ <;> omega) | rfl | (repeat (first | assumption | exact zup_s | refine zup_g (by decide) ?_))) (by first | assumption | omega | (refine ⟨?_, ?_⟩ <;> omega) | rfl | (repeat (first | assumption | exact zup_s | refine zup_g (by decide) ?_))) (by first | assumption | omega | (refine ⟨?_, ?_⟩ <;> omega) | rfl | (repeat (first | assumption | exact zup_s | refine zup_g (by decide) ?_))) (by first | assumption | omega | (refine ⟨?_, ?_⟩ <;> omega) | rfl | (repeat (first | assumption | exact zup_s | refine zup_g (by decide) ?_))) ?_
  dsimp only [Option.toList, List.cons_append, List.nil_append]
  refine zb_eq (pc := 5) (tgt := 23) (by decide) dX8_agreed_5 (fun q5 => ?_) (fun q5 => ?_)
  · refine zr_iconst (pc := 23)  dX8_agreed_23 ?_
    refine zs_istore_4 (pc := 24)  (by first | exact zn_i | exact zn_r | exact zn_0) (by decide) dX8_agreed_24 ?_
    refine zr_iload (pc := 26)  rfl dX8_agreed_26 ?_
    refine zk_eq0 (pc := 28) (tgt := 36) (by decide) dX8_agreed_28 ?_
    refine zr_aload_n (pc := 36)  (i := 0) rfl rfl dX8_agreed_36 ?_
    refine zr_iload (pc := 37)  rfl dX8_agreed_37 ?_
    refine zk_eq0 (pc := 39) (tgt := 51) (by decide) dX8_agreed_39 ?_
    refine zr_iconst (pc := 51)  dX8_agreed_51 ?_
    refine zr_goto (pc := 52)  (tgt := 56) (by decide) dX8_agreed_52 ?_
    refine zv_call1 (pc := 56)  cv_X8_agreed_151 (by first | assumption | rfl | (repeat (first | assumption | exact zup_s | refine zup_g (by decide) ?_))) ⟨_, rfl, rfl⟩ (Nat.le_of_ble_eq_true rfl) (by decide) dX8_agreed_56 ?_
    refine k_X8_throwsIf (by first | assumption | omega | (refine ⟨?_, ?_⟩ <;> omega) | rfl | (repeat (first | assumption | exact zup_s | refine zup_g (by decide) ?_))) (by decide) ?_
    dsimp only [Option.toList, List.cons_append, List.nil_append]
    refine zk_eq1 (pc := 59) (tgt := 64) dX8_agreed_59 (by decide) ?_
    refine zr_lconst (pc := 62)  (z := 0) (by decide) dX8_agreed_62 ?_
    refine zr_lreturn (pc := 63)  rfl (by decide) (by decide) dX8_agreed_63 ?_
    first | exact kx (fun z => by have := z.1; omega) _ (hK1 1) (fun j hj => by (repeat rw [zup_n (by omega)])) | exact kx (fun z => z.2 (by rw [← hflr]; omega)) _ (mK_V hM' zup_s (fun j hj => by rw [zup_n (by omega)]; exact f1 j hj) fL fz fW fF fG) (fun j hj => by rw [zup_n (by omega)]; exact f1 j (by omega))
  · refine zr_iload_n (pc := 8)  (i := 2) rfl rfl dX8_agreed_8 ?_
    refine zr_if_lt (pc := 9)  (tgt := 23) ⟨by omega, by omega⟩ (by decide) dX8_agreed_9 (fun q9 => ?_) (fun q9 => ?_)
    · refine zr_iconst (pc := 23)  dX8_agreed_23 ?_
      refine zs_istore_4 (pc := 24)  (by first | exact zn_i | exact zn_r | exact zn_0) (by decide) dX8_agreed_24 ?_
      refine zr_iload (pc := 26)  rfl dX8_agreed_26 ?_
      refine zk_eq0 (pc := 28) (tgt := 36) (by decide) dX8_agreed_28 ?_
      refine zr_aload_n (pc := 36)  (i := 0) rfl rfl dX8_agreed_36 ?_
      refine zr_iload (pc := 37)  rfl dX8_agreed_37 ?_
      refine zk_eq0 (pc := 39) (tgt := 51) (by decide) dX8_agreed_39 ?_
      refine zr_iconst (pc := 51)  dX8_agreed_51 ?_
      refine zr_goto (pc := 52)  (tgt := 56) (by decide) dX8_agreed_52 ?_
      refine zv_call1 (pc := 56)  cv_X8_agreed_151 (by first | assumption | rfl | (repeat (first | assumption | exact zup_s | refine zup_g (by decide) ?_))) ⟨_, rfl, rfl⟩ (Nat.le_of_ble_eq_true rfl) (by decide) dX8_agreed_56 ?_
      refine k_X8_throwsIf (by first | assumption | omega | (refine ⟨?_, ?_⟩ <;> omega) | rfl | (repeat (first | assumption | exact zup_s | refine zup_g (by decide) ?_))) (by decide) ?_
      dsimp only [Option.toList, List.cons_append, List.nil_append]
      refine zk_eq1 (pc := 59) (tgt := 64) dX8_agreed_59 (by decide) ?_
      refine zr_lconst (pc := 62)  (z := 0) (by decide) dX8_agreed_62 ?_
      refine zr_lreturn (pc := 63)  rfl (by decide) (by decide) dX8_agreed_63 ?_
      first | exact kx (fun z => by have := z.1; omega) _ (hK1 1) (fun j hj => by (repeat rw [zup_n (by omega)])) | exact kx (fun z => z.2 (by rw [← hflr]; omega)) _ (mK_V hM' zup_s (fun j hj => by rw [zup_n (by omega)]; exact f1 j hj) fL fz fW fF fG) (fun j hj => by rw [zup_n (by omega)]; exact f1 j (by omega))
    · refine zr_iload_n (pc := 12)  (i := 3) rfl rfl dX8_agreed_12 ?_
      refine zc_call1 (pc := 13)  cs_X8_agreed_192 (Nat.le_of_ble_eq_true rfl) (by decide) dX8_agreed_13 ?_
      refine k_X8_isWhat (by first | assumption | omega | (refine ⟨?_, ?_⟩ <;> omega) | rfl | (repeat (first | assumption | exact zup_s | refine zup_g (by decide) ?_))) ?_
      dsimp only [Option.toList, List.cons_append, List.nil_append]
      refine zb_eq (pc := 16) (tgt := 23) (by decide) dX8_agreed_16 (fun q16 => ?_) (fun q16 => ?_)
      · refine zr_iconst (pc := 23)  dX8_agreed_23 ?_
        refine zs_istore_4 (pc := 24)  (by first | exact zn_i | exact zn_r | exact zn_0) (by decide) dX8_agreed_24 ?_
        refine zr_iload (pc := 26)  rfl dX8_agreed_26 ?_
        refine zk_eq0 (pc := 28) (tgt := 36) (by decide) dX8_agreed_28 ?_
        refine zr_aload_n (pc := 36)  (i := 0) rfl rfl dX8_agreed_36 ?_
        refine zr_iload (pc := 37)  rfl dX8_agreed_37 ?_
        refine zk_eq0 (pc := 39) (tgt := 51) (by decide) dX8_agreed_39 ?_
        refine zr_iconst (pc := 51)  dX8_agreed_51 ?_
        refine zr_goto (pc := 52)  (tgt := 56) (by decide) dX8_agreed_52 ?_
        refine zv_call1 (pc := 56)  cv_X8_agreed_151 (by first | assumption | rfl | (repeat (first | assumption | exact zup_s | refine zup_g (by decide) ?_))) ⟨_, rfl, rfl⟩ (Nat.le_of_ble_eq_true rfl) (by decide) dX8_agreed_56 ?_
        refine k_X8_throwsIf (by first | assumption | omega | (refine ⟨?_, ?_⟩ <;> omega) | rfl | (repeat (first | assumption | exact zup_s | refine zup_g (by decide) ?_))) (by decide) ?_
        dsimp only [Option.toList, List.cons_append, List.nil_append]
        refine zk_eq1 (pc := 59) (tgt := 64) dX8_agreed_59 (by decide) ?_
        refine zr_lconst (pc := 62)  (z := 0) (by decide) dX8_agreed_62 ?_
        refine zr_lreturn (pc := 63)  rfl (by decide) (by decide) dX8_agreed_63 ?_
        first | exact kx (fun z => by have := z.1; omega) _ (hK1 1) (fun j hj => by (repeat rw [zup_n (by omega)])) | exact kx (fun z => z.2 (by rw [← hflr]; omega)) _ (mK_V hM' zup_s (fun j hj => by rw [zup_n (by omega)]; exact f1 j hj) fL fz fW fF fG) (fun j hj => by rw [zup_n (by omega)]; exact f1 j (by omega))
      · refine zr_iconst (pc := 19)  dX8_agreed_19 ?_
        refine zr_goto (pc := 20)  (tgt := 24) (by decide) dX8_agreed_20 ?_
        refine zs_istore_4 (pc := 24)  (by first | exact zn_i | exact zn_r | exact zn_0) (by decide) dX8_agreed_24 ?_
        refine zr_iload (pc := 26)  rfl dX8_agreed_26 ?_
        refine zk_eq1 (pc := 28) (tgt := 36) dX8_agreed_28 (by decide) ?_
        refine zr_aload_n (pc := 31)  (i := 0) rfl rfl dX8_agreed_31 ?_
        refine zr_iload_n (pc := 32)  (i := 2) rfl rfl dX8_agreed_32 ?_
        refine zv_call1 (pc := 33)  cv_X8_agreed_203 (by first | assumption | rfl | (repeat (first | assumption | exact zup_s | refine zup_g (by decide) ?_))) ⟨_, rfl, rfl⟩ (Nat.le_of_ble_eq_true rfl) (by decide) dX8_agreed_33 ?_
        refine k_X8_flowAll (sn0 := sn0) (iw0 := iw0) m38 m40 m41 m44 m45 m46 m47 m48 m50 m51 ⟨m52, m53⟩ ⟨m54, m55, m56⟩ ⟨m57, m58⟩ hz i4 i7 j5 hp j1 j2 j3 ht (fun h1 sn iw od fp fq bw bm fl db al2 pm2 pd2 sq2 up2 lw2 f1 f38 fL fz fW fF fG hfl => ?_)
        have n57 := fG.1
        have hflr := (hfl r (by omega) (by omega)).1
        have hfR := flowS_R (rk := rk) (gr := gr) (r := r) hs50
        rw [← hflr] at hfR
        dsimp only [Option.toList, List.cons_append, List.nil_append]
        refine zr_aload_n (pc := 36)  (i := 0) rfl rfl dX8_agreed_36 ?_
        refine zr_iload (pc := 37)  rfl dX8_agreed_37 ?_
        refine zk_eq1 (pc := 39) (tgt := 51) dX8_agreed_39 (by decide) ?_
        refine zr_aload_n (pc := 42)  (i := 0) rfl rfl dX8_agreed_42 ?_
        refine zr_get (pc := 43)  fl_X8_67 (by first | assumption | rfl | (repeat (first | assumption | exact zup_s | refine zup_g (by decide) ?_))) rfl dX8_agreed_43 ?_
        refine zr_iload_n (pc := 46)  (i := 1) rfl rfl dX8_agreed_46 ?_
        refine zr_iald (pc := 47)  (by first | assumption | rfl | (repeat (first | assumption | exact zup_s | refine zup_g (by decide) ?_))) ⟨by omega, by omega⟩ (by decide) dX8_agreed_47 ?_
        refine zr_if_ge (pc := 48)  (tgt := 55) ⟨by omega, by omega⟩ (by decide) dX8_agreed_48 (fun q48 => ?_) (fun q48 => ?_)
        · refine zr_iconst (pc := 55)  dX8_agreed_55 ?_
          refine zv_call1 (pc := 56)  cv_X8_agreed_151 (by first | assumption | rfl | (repeat (first | assumption | exact zup_s | refine zup_g (by decide) ?_))) ⟨_, rfl, rfl⟩ (Nat.le_of_ble_eq_true rfl) (by decide) dX8_agreed_56 ?_
          refine k_X8_throwsIf (by first | assumption | omega | (refine ⟨?_, ?_⟩ <;> omega) | rfl | (repeat (first | assumption | exact zup_s | refine zup_g (by decide) ?_))) (by decide) ?_
          dsimp only [Option.toList, List.cons_append, List.nil_append]
          refine zk_eq0 (pc := 59) (tgt := 64) (by decide) dX8_agreed_59 ?_
          exact ag64 h1 sn iw od fp fq bw bm fl db _ _ _ _ _ _ (by omega) f1 fL fz fW fF fG hfl (by omega)
        · refine zr_iconst (pc := 51)  dX8_agreed_51 ?_
          refine zr_goto (pc := 52)  (tgt := 56) (by decide) dX8_agreed_52 ?_
          refine zv_call1 (pc := 56)  cv_X8_agreed_151 (by first | assumption | rfl | (repeat (first | assumption | exact zup_s | refine zup_g (by decide) ?_))) ⟨_, rfl, rfl⟩ (Nat.le_of_ble_eq_true rfl) (by decide) dX8_agreed_56 ?_
          refine k_X8_throwsIf (by first | assumption | omega | (refine ⟨?_, ?_⟩ <;> omega) | rfl | (repeat (first | assumption | exact zup_s | refine zup_g (by decide) ?_))) (by decide) ?_
          dsimp only [Option.toList, List.cons_append, List.nil_append]
          refine zk_eq1 (pc := 59) (tgt := 64) dX8_agreed_59 (by decide) ?_
          refine zr_lconst (pc := 62)  (z := 0) (by decide) dX8_agreed_62 ?_
          refine zr_lreturn (pc := 63)  rfl (by decide) (by decide) dX8_agreed_63 ?_
          first | exact kx (fun z => by have := z.1; omega) _ (hK1 1) (fun j hj => by (repeat rw [zup_n (by omega)])) | exact kx (fun z => z.2 (by rw [← hflr]; omega)) _ (mK_V hM' zup_s (fun j hj => by rw [zup_n (by omega)]; exact f1 j hj) fL fz fW fF fG) (fun j hj => by rw [zup_n (by omega)]; exact f1 j (by omega))
end MOD2
