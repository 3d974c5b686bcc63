/-! the law's loop -/
section LAWL
variable {G : zG} {b L : Nat} {xs : Nat → Int32}
theorem law_loop (hG : (zgl G).stackTraces = false) (hL : L ≤ 3072) : ∀ (K : Nat) (i : Int) (n : Nat) (h : zH) (c sl : Nat) (x5 x6 x7 : Option Value), (L : Int) - i < K → 0 ≤ i → i ≤ 3078 → lwS h → (c : Int) ≤ 100 + i → (sl : Int) ≤ 15000 + i → zAW G mL_law (zSC b L xs G) lw_Z 23 [some (.retAddr b), some (.ref 0), some (.ref 38), some (.ref 65), some (vi i), x5, x6, x7] [] n h c sl := by
  intro K
  induction K with
  | zero =>
    intro i n h c sl x5 x6 x7 hK h0 hi6 hS hc hs
    refine zr_iload (pc := 23)  rfl dL_law_23 ?_
    refine zr_aload_nS (pc := 25)  (i := 0) rfl rfl dL_law_25 ?_
    refine zr_slen (pc := 26)  dL_law_26 ?_
    refine zr_bipush (pc := 27)  (by decide) dL_law_27 ?_
    refine zr_isub (pc := 29)  dL_law_29 ?_
    refine zr_icmp_gt (pc := 30)  (tgt := 1182) ⟨by omega, by omega⟩ ⟨by omega, by omega⟩ (by decide) dL_law_30 (fun q30 => ?_) (fun q30 => ?_)
    · refine zr_iconst (pc := 1182)  dL_law_1182 ?_
      exact zr_lawend dL_law_1183 (by omega) (by omega)
    · exact absurd q30 (by omega)
  | succ K ih =>
    intro i n h c sl x5 x6 x7 hK h0 hi6 hS hc0 hs0
    have hc : c ≤ 600000 := by omega
    have hsl : sl ≤ 7200000 := by omega
    have nx : i + 6 ≤ L → ∀ n' h' c' sl' x5 x6 x7, lwS h' → c' ≤ c + 1 → sl' ≤ sl + 6 → zAW G mL_law (zSC b L xs G) lw_Z 1176 [some (.retAddr b), some (.ref 0), some (.ref 38), some (.ref 65), some (vi i), x5, x6, x7] [] n' h' c' sl' := fun hiL n' h' c' sl' x5 x6 x7 hS' hc' hs' => by
      refine zs_iinc_4 (pc := 1176)  (by first | exact zn_i | exact zn_r | exact zn_0) (by decide) dL_law_1176 ?_
      refine zr_goto (pc := 1179)  (tgt := 23) (by decide) dL_law_1179 ?_
      exact ih (i + 6) n' h' c' sl' x5 x6 x7 (by omega) (by omega) (by omega) hS' (by omega) (by omega)
    have hxR := xZ_R (xs := xs) i
    refine zr_iload (pc := 23)  rfl dL_law_23 ?_
    refine zr_aload_nS (pc := 25)  (i := 0) rfl rfl dL_law_25 ?_
    refine zr_slen (pc := 26)  dL_law_26 ?_
    refine zr_bipush (pc := 27)  (by decide) dL_law_27 ?_
    refine zr_isub (pc := 29)  dL_law_29 ?_
    refine zr_icmp_gt (pc := 30)  (tgt := 1182) ⟨by omega, by omega⟩ ⟨by omega, by omega⟩ (by decide) dL_law_30 (fun q30 => ?_) (fun q30 => ?_)
    · refine zr_iconst (pc := 1182)  dL_law_1182 ?_
      exact zr_lawend dL_law_1183 (by omega) (by omega)
    · refine zr_aload_nS (pc := 33)  (i := 0) rfl rfl dL_law_33 ?_
      refine zr_iload (pc := 34)  rfl dL_law_34 ?_
      refine zr_sld (pc := 36)  ⟨by omega, by omega⟩ (by omega) dL_law_36 ?_
      refine zr_bipush (pc := 37)  (by decide) dL_law_37 ?_
      refine zr_iand (pc := 39) (z := xZ xs i % 32) (and31 _ (xZ_R _)) dL_law_39 ?_
      have hi : 0 ≤ i ∧ i + 6 ≤ L := by omega
      have nx := nx hi.2
      by_cases e0 : xZ xs i % 32 = 0
      · (refine zr_tblIn (pc := 40) (tgt := 136) (off := 96) ⟨by omega, by omega⟩ (by omega) (by omega) (by rw [e0]; rfl) (by decide) dL_law_40 ?_; exact lc_feed hS hi hL hc hsl (fun h' hS' => nx _ h' c sl _ _ _ hS' (by omega) (by omega)))
      by_cases e1 : xZ xs i % 32 = 1
      · (refine zr_tblIn (pc := 40) (tgt := 209) (off := 169) ⟨by omega, by omega⟩ (by omega) (by omega) (by rw [e1]; rfl) (by decide) dL_law_40 ?_; exact lc_end hS hi hL hc hsl (fun h' hS' => nx _ h' c sl _ _ _ hS' (by omega) (by omega)))
      by_cases e2 : xZ xs i % 32 = 2
      · (refine zr_tblIn (pc := 40) (tgt := 234) (off := 194) ⟨by omega, by omega⟩ (by omega) (by omega) (by rw [e2]; rfl) (by decide) dL_law_40 ?_; exact lc_road hS hi hL hc hsl (fun h' hS' => nx _ h' c sl _ _ _ hS' (by omega) (by omega)))
      by_cases e3 : xZ xs i % 32 = 3
      · (refine zr_tblIn (pc := 40) (tgt := 295) (off := 255) ⟨by omega, by omega⟩ (by omega) (by omega) (by rw [e3]; rfl) (by decide) dL_law_40 ?_; exact lc_count hS hi hL hc hsl (fun h' hS' => nx _ h' c sl _ _ _ hS' (by omega) (by omega)))
      by_cases e4 : xZ xs i % 32 = 4
      · (refine zr_tblIn (pc := 40) (tgt := 332) (off := 292) ⟨by omega, by omega⟩ (by omega) (by omega) (by rw [e4]; rfl) (by decide) dL_law_40 ?_; exact lc_counts hS hi hL hc hsl (fun h' hS' => nx _ h' c sl _ _ _ hS' (by omega) (by omega)))
      by_cases e5 : xZ xs i % 32 = 5
      · (refine zr_tblIn (pc := 40) (tgt := 369) (off := 329) ⟨by omega, by omega⟩ (by omega) (by omega) (by rw [e5]; rfl) (by decide) dL_law_40 ?_; exact lc_later hS hi hL hc hsl (fun h' hS' => nx _ h' c sl _ _ _ hS' (by omega) (by omega)))
      by_cases e6 : xZ xs i % 32 = 6
      · (refine zr_tblIn (pc := 40) (tgt := 382) (off := 342) ⟨by omega, by omega⟩ (by omega) (by omega) (by rw [e6]; rfl) (by decide) dL_law_40 ?_; exact lc_works hS hi hL hc hsl (fun h' hS' => nx _ h' c sl _ _ _ hS' (by omega) (by omega)))
      by_cases e7 : xZ xs i % 32 = 7
      · (refine zr_tblIn (pc := 40) (tgt := 459) (off := 419) ⟨by omega, by omega⟩ (by omega) (by omega) (by rw [e7]; rfl) (by decide) dL_law_40 ?_; exact lc_seen hS hi hL hc hsl (fun h' hS' => nx _ h' c sl _ _ _ hS' (by omega) (by omega)))
      by_cases e8 : xZ xs i % 32 = 8
      · (refine zr_tblIn (pc := 40) (tgt := 508) (off := 468) ⟨by omega, by omega⟩ (by omega) (by omega) (by rw [e8]; rfl) (by decide) dL_law_40 ?_; exact lc_kind hS hi hL hc hsl (fun h' hS' => nx _ h' c sl _ _ _ hS' (by omega) (by omega)))
      by_cases e9 : xZ xs i % 32 = 9
      · (refine zr_tblIn (pc := 40) (tgt := 569) (off := 529) ⟨by omega, by omega⟩ (by omega) (by omega) (by rw [e9]; rfl) (by decide) dL_law_40 ?_; exact lc_whole hS hi hL hc hsl (fun h' hS' => nx _ h' c sl _ _ _ hS' (by omega) (by omega)))
      by_cases e10 : xZ xs i % 32 = 10
      · (refine zr_tblIn (pc := 40) (tgt := 606) (off := 566) ⟨by omega, by omega⟩ (by omega) (by omega) (by rw [e10]; rfl) (by decide) dL_law_40 ?_; exact lc_posts hS hi hL hc hsl (fun h' hS' => nx _ h' c sl _ _ _ hS' (by omega) (by omega)))
      by_cases e11 : xZ xs i % 32 = 11
      · (refine zr_tblIn (pc := 40) (tgt := 643) (off := 603) ⟨by omega, by omega⟩ (by omega) (by omega) (by rw [e11]; rfl) (by decide) dL_law_40 ?_; exact lc_worth hG hS hi hL hc hsl (fun n' h' c' sl' x5 x6 x7 a1 a2 a3 => nx n' h' c' sl' x5 x6 x7 a1 a2 a3))
      by_cases e12 : xZ xs i % 32 = 12
      · (refine zr_tblIn (pc := 40) (tgt := 723) (off := 683) ⟨by omega, by omega⟩ (by omega) (by omega) (by rw [e12]; rfl) (by decide) dL_law_40 ?_; exact lc_sample hS hi hL hc hsl (fun h' hS' => nx _ h' c sl _ _ _ hS' (by omega) (by omega)))
      by_cases e13 : xZ xs i % 32 = 13
      · (refine zr_tblIn (pc := 40) (tgt := 760) (off := 720) ⟨by omega, by omega⟩ (by omega) (by omega) (by rw [e13]; rfl) (by decide) dL_law_40 ?_; exact lc_fit hS hi hL hc hsl (fun h' hS' => nx _ h' c sl _ _ _ hS' (by omega) (by omega)))
      by_cases e14 : xZ xs i % 32 = 14
      · (refine zr_tblIn (pc := 40) (tgt := 809) (off := 769) ⟨by omega, by omega⟩ (by omega) (by omega) (by rw [e14]; rfl) (by decide) dL_law_40 ?_; exact lc_year hG hS hi hL hc hsl (fun n' h' c' sl' x5 x6 x7 a1 a2 a3 => nx n' h' c' sl' x5 x6 x7 a1 a2 a3))
      by_cases e15 : xZ xs i % 32 = 15
      · (refine zr_tblIn (pc := 40) (tgt := 888) (off := 848) ⟨by omega, by omega⟩ (by omega) (by omega) (by rw [e15]; rfl) (by decide) dL_law_40 ?_; exact lc_trial hG hS hi hL hc hsl (fun n' h' c' sl' x5 x6 x7 a1 a2 a3 => nx n' h' c' sl' x5 x6 x7 a1 a2 a3))
      by_cases e16 : xZ xs i % 32 = 16
      · (refine zr_tblIn (pc := 40) (tgt := 967) (off := 927) ⟨by omega, by omega⟩ (by omega) (by omega) (by rw [e16]; rfl) (by decide) dL_law_40 ?_; exact lc_flow hS hi hL hc hsl (fun h' hS' => nx _ h' c sl _ _ _ hS' (by omega) (by omega)))
      by_cases e17 : xZ xs i % 32 = 17
      · (refine zr_tblIn (pc := 40) (tgt := 1004) (off := 964) ⟨by omega, by omega⟩ (by omega) (by omega) (by rw [e17]; rfl) (by decide) dL_law_40 ?_; exact lc_missing hG hS hi hL hc hsl (fun n' h' c' sl' x5 x6 x7 a1 a2 a3 => nx n' h' c' sl' x5 x6 x7 a1 a2 a3))
      by_cases e18 : xZ xs i % 32 = 18
      · (refine zr_tblIn (pc := 40) (tgt := 1072) (off := 1032) ⟨by omega, by omega⟩ (by omega) (by omega) (by rw [e18]; rfl) (by decide) dL_law_40 ?_; exact lc_agreed hG hS hi hL hc hsl (fun n' h' c' sl' x5 x6 x7 a1 a2 a3 => nx n' h' c' sl' x5 x6 x7 a1 a2 a3))
      by_cases e19 : xZ xs i % 32 = 19
      · (refine zr_tblIn (pc := 40) (tgt := 1151) (off := 1111) ⟨by omega, by omega⟩ (by omega) (by omega) (by rw [e19]; rfl) (by decide) dL_law_40 ?_; exact lc_told hS hi hL hc hsl (fun h' hS' => nx _ h' c sl _ _ _ hS' (by omega) (by omega)))
      refine zr_tblOut (pc := 40) (tgt := 1176) ⟨by omega, by omega⟩ (by omega) (by decide) dL_law_40 ?_
      exact nx _ h c sl _ _ _ hS (by omega) (by omega)
theorem law_from0 (hG : (zgl G).stackTraces = false) (hL : L ≤ 3072) : zAW G mL_law (zSC b L xs G) lw_Z 0 [some (.retAddr b), none, none, none, none, none, none, none] [] 0 (fun _ => none) 0 0 := by
  have hzn : zn (some (Value.retAddr b)) := fun v e => by cases e; rfl
  refine zr_new (pc := 0)  nw_L_8 (by decide) (by decide) dL_law_0 ?_
  refine zr_dup (pc := 3)  rfl dL_law_3 ?_
  refine zi_call0 (pc := 4)  ci_L_law_29 (Nat.le_of_ble_eq_true rfl) (by decide) dL_law_4 ?_
  refine k_X7_init rfl (fun h1 hK f1 => ?_)
  dsimp only [Option.toList, List.cons_append, List.nil_append]
  refine zs_astore_n_1 (pc := 7) hzn (by decide) dL_law_7 ?_
  refine zr_new (pc := 8)  nw_L_30 (by decide) (by decide) dL_law_8 ?_
  refine zr_dup (pc := 11)  rfl dL_law_11 ?_
  refine zi_call0 (pc := 12)  ci_L_law_32 (Nat.le_of_ble_eq_true rfl) (by decide) dL_law_12 ?_
  refine k_X8_init rfl (fun h2 hM f2 => ?_)
  dsimp only [Option.toList, List.cons_append, List.nil_append]
  refine zs_astore_n_2 (pc := 15)  (by first | exact zn_i | exact zn_r | exact zn_0) (by decide) dL_law_15 ?_
  refine zr_iconst (pc := 16)  dL_law_16 ?_
  refine zr_newJ (pc := 17)  rfl (by decide) ka_long (by decide) (by decide) dL_law_17 ?_
  refine zs_astore_n_3 (pc := 19)  (by first | exact zn_i | exact zn_r | exact zn_0) (by decide) dL_law_19 ?_
  refine zr_iconst (pc := 20)  dL_law_20 ?_
  refine zs_istore_4 (pc := 21)  (by first | exact zn_i | exact zn_r | exact zn_0) (by decide) dL_law_21 ?_
  exact law_loop hG hL (L + 1) 0 _ _ _ _ _ _ _ (by omega) (by omega) (by omega) ⟨0, z0, _, _, _, _, _, _, _, _, _, _, _, _, _, _, _, _, oK_fr hK (fun j a => by rw [zup_n (by omega), f2 j (by omega), zup_n (by omega)]), mK_fr hM (fun j a b => by rw [zup_n (by omega)]), zup_s⟩ (by decide) (by decide)
end LAWL
