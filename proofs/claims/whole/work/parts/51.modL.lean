/-! the reference's determinant -/
section MOD
variable {G : zG} {n : Nat} {h : zH} {Post : Option Value → Nat → zH → Prop} {th len now al pm pd sq up lw : Int} {N : Nat}
variable {d : Nat} {x W sm : Int} {ma si : Int → Int}
theorem l_X8_detE (m38 : h 38 = some (oMod th len N now al pm pd sq up lw)) (m61 : h 61 = some (aJ 16 ma)) (m62 : h 62 = some (aJ 4 si)) (hd : d ≤ 4) (hx : iR x) (hB1 : ∀ k j : Int, 0 ≤ k → k < d → 0 ≤ j → j < d → j ≠ x → bdZ (ma (4 * k + j)) 224) (hB2 : ∀ k : Int, 0 ≤ k → k < d → bdZ (si k) 1600000) {w : Nat} {x7 : Int} {x11 : Option Value} {co : Int → Int} (hco : ∀ j : Int, 0 ≤ j → j < d → co j = (cD d w) j) (kk : ∀ x10, zAW G mX8_determinant zTT (zF G mX8_determinant Post) 201 [some (.ref 38), some (vi d), some (vi x), some (vi W), some (vl sm), none, some (vi w), some (vi x7), some (vl (tmZ d (fun k j => if j = x then si k else ma (4 * k + j)) w)), none, x10, x11] [] n (zup h 60 (aI 4 co)) 0 0) : ∀ (K k : Nat) (v : Int), d - k ≤ K → k ≤ d → v = prZ (cD d w) (fun k j => if j = x then si k else ma (4 * k + j)) (s1Z (cD d w) d) k → zAW G mX8_determinant zTT (zF G mX8_determinant Post) 139 [some (.ref 38), some (vi d), some (vi x), some (vi W), some (vl sm), none, some (vi w), some (vi x7), some (vl v), none, some (vi k), x11] [] n (zup h 60 (aI 4 co)) 0 0 := by
  have hb := tm_b (e := (fun k j => if j = x then si k else ma (4 * k + j))) (x := x) hd (fun k j a b c e f => by show bdZ (if j = x then si k else ma (4 * k + j)) 224; rw [if_neg f]; exact hB1 k j a b c e f) (fun k a b => by show bdZ (if x = x then si k else ma (4 * k + x)) 1600000; rw [if_pos rfl]; exact hB2 k a b) w
  intro K
  induction K with
  | zero =>
    intro k v hK hk hv
    obtain rfl : k = d := by omega
    have kk := kk (some (vi k))
    rw [show tmZ k (fun k j => if j = x then si k else ma (4 * k + j)) w = v from hv.symm] at kk
    refine zr_iload (pc := 139)  rfl dX8_determinant_139 ?_
    refine zr_iload_n (pc := 141)  (i := 1) rfl rfl dX8_determinant_141 ?_
    refine zr_icmp_ge (pc := 142)  (tgt := 201) ⟨by omega, by omega⟩ ⟨by omega, by omega⟩ (by decide) dX8_determinant_142 (fun q142 => ?_) (fun q142 => ?_)
    · exact kk
    · exact absurd q142 (by omega)
  | succ K ih =>
    intro k v hK hk hv
    have hvb := hb k hk
    rw [← hv] at hvb
    obtain ⟨hv1, hv2⟩ := hvb
    have hck := hco k
    have hcR : k < d → 0 ≤ (cD d w) k ∧ (cD d w) k < d := fun z => cD_R (by omega) k
    have es : prZ (cD d w) (fun k j => if j = x then si k else ma (4 * k + j)) (s1Z (cD d w) d) (k + 1) = v * (if (cD d w) k = x then si k else ma (4 * k + (cD d w) k)) := by rw [hv]; rfl
    have hT : k = d ∨ v = 0 → tmZ d (fun k j => if j = x then si k else ma (4 * k + j)) w = v := fun z => by
      rcases z with z | z
      · rw [hv, z]; rfl
      · rw [z]; exact prZ_0 (k := k) (by rw [← hv, z]) d hk
    refine zr_iload (pc := 139)  rfl dX8_determinant_139 ?_
    refine zr_iload_n (pc := 141)  (i := 1) rfl rfl dX8_determinant_141 ?_
    refine zr_icmp_ge (pc := 142)  (tgt := 201) ⟨by omega, by omega⟩ ⟨by omega, by omega⟩ (by decide) dX8_determinant_142 (fun q142 => ?_) (fun q142 => ?_)
    · rw [← hT (by omega)]
      exact kk _
    · refine zr_lload (pc := 145)  rfl dX8_determinant_145 ?_
      refine zr_lconst (pc := 147)  (z := 0) (by decide) dX8_determinant_147 ?_
      refine zr_lcmp_eq (pc := 148)  (tgt := 201) ⟨by omega, by omega⟩ ⟨by omega, by omega⟩ (by decide) dX8_determinant_148 dX8_determinant_149 (fun q149 => ?_) (fun q149 => ?_)
      · rw [← hT (by omega)]
        exact kk _
      · have hck := hck (by omega) (by omega)
        have hcR := hcR (by omega)
        rw [← hck] at es hcR
        refine zr_lload (pc := 152)  rfl dX8_determinant_152 ?_
        refine zr_aload_n (pc := 154)  (i := 0) rfl rfl dX8_determinant_154 ?_
        refine zr_get (pc := 155)  fl_X8_76 (by first | assumption | rfl | (repeat (first | assumption | exact zup_s | refine zup_g (by decide) ?_))) rfl dX8_determinant_155 ?_
        refine zr_iload (pc := 158)  rfl dX8_determinant_158 ?_
        refine zr_iald (pc := 160)  (by first | assumption | rfl | (repeat (first | assumption | exact zup_s | refine zup_g (by decide) ?_))) ⟨by omega, by omega⟩ (by decide) dX8_determinant_160 ?_
        refine zr_iload_n (pc := 161)  (i := 2) rfl rfl dX8_determinant_161 ?_
        refine zr_icmp_ne (pc := 162)  (tgt := 175) ⟨by omega, by omega⟩ ⟨by omega, by omega⟩ (by decide) dX8_determinant_162 (fun q162 => ?_) (fun q162 => ?_)
        · refine zr_aload_n (pc := 175)  (i := 0) rfl rfl dX8_determinant_175 ?_
          refine zr_get (pc := 176)  fl_X8_79 (by first | assumption | rfl | (repeat (first | assumption | exact zup_s | refine zup_g (by decide) ?_))) rfl dX8_determinant_176 ?_
          refine zr_iconst (pc := 179)  dX8_determinant_179 ?_
          refine zr_iload (pc := 180)  rfl dX8_determinant_180 ?_
          refine zr_imul (pc := 182)  dX8_determinant_182 ?_
          refine zr_aload_n (pc := 183)  (i := 0) rfl rfl dX8_determinant_183 ?_
          refine zr_get (pc := 184)  fl_X8_76 (by first | assumption | rfl | (repeat (first | assumption | exact zup_s | refine zup_g (by decide) ?_))) rfl dX8_determinant_184 ?_
          refine zr_iload (pc := 187)  rfl dX8_determinant_187 ?_
          refine zr_iald (pc := 189)  (by first | assumption | rfl | (repeat (first | assumption | exact zup_s | refine zup_g (by decide) ?_))) ⟨by omega, by omega⟩ (by decide) dX8_determinant_189 ?_
          refine zr_iadd (pc := 190)  dX8_determinant_190 ?_
          refine zr_lald (pc := 191)  (by first | assumption | rfl | (repeat (first | assumption | exact zup_s | refine zup_g (by decide) ?_))) ⟨by omega, by omega⟩ (by decide) dX8_determinant_191 ?_
          refine zr_lmul (pc := 192)  dX8_determinant_192 ?_
          refine zs_lstore_8 (pc := 193)  (by first | exact zn_i | exact zn_r | exact zn_0) (by decide) dX8_determinant_193 ?_
          refine zs_iinc_10 (pc := 195)  (by first | exact zn_i | exact zn_r | exact zn_0) (by decide) dX8_determinant_195 ?_
          refine zr_goto (pc := 198)  (tgt := 139) (by decide) dX8_determinant_198 ?_
          first | exact ih (k + 1) _ (by omega) (by omega) (by rw [es, if_pos (by omega)]) | exact ih (k + 1) _ (by omega) (by omega) (by rw [es, if_neg (by omega)])
        · refine zr_aload_n (pc := 165)  (i := 0) rfl rfl dX8_determinant_165 ?_
          refine zr_get (pc := 166)  fl_X8_82 (by first | assumption | rfl | (repeat (first | assumption | exact zup_s | refine zup_g (by decide) ?_))) rfl dX8_determinant_166 ?_
          refine zr_iload (pc := 169)  rfl dX8_determinant_169 ?_
          refine zr_lald (pc := 171)  (by first | assumption | rfl | (repeat (first | assumption | exact zup_s | refine zup_g (by decide) ?_))) ⟨by omega, by omega⟩ (by decide) dX8_determinant_171 ?_
          refine zr_goto (pc := 172)  (tgt := 192) (by decide) dX8_determinant_172 ?_
          refine zr_lmul (pc := 192)  dX8_determinant_192 ?_
          refine zs_lstore_8 (pc := 193)  (by first | exact zn_i | exact zn_r | exact zn_0) (by decide) dX8_determinant_193 ?_
          refine zs_iinc_10 (pc := 195)  (by first | exact zn_i | exact zn_r | exact zn_0) (by decide) dX8_determinant_195 ?_
          refine zr_goto (pc := 198)  (tgt := 139) (by decide) dX8_determinant_198 ?_
          first | exact ih (k + 1) _ (by omega) (by omega) (by rw [es, if_pos (by omega)]) | exact ih (k + 1) _ (by omega) (by omega) (by rw [es, if_neg (by omega)])
theorem l_X8_detD (m38 : h 38 = some (oMod th len N now al pm pd sq up lw)) {w : Nat} {k : Nat} (hk : k < d) (hd : d ≤ 4) (hx : iR x) {V x7 : Int} {co : Int → Int} (hco : ∀ j : Int, 0 ≤ j → j ≤ k → co j = (cD d w) j) (kk : zAW G mX8_determinant zTT (zF G mX8_determinant Post) 130 [some (.ref 38), some (vi d), some (vi x), some (vi W), some (vl sm), none, some (vi w), some (vi x7), some (vl (s2Z (cD d w) k V k)), none, some (vi k), some (vi k)] [] n (zup h 60 (aI 4 co)) 0 0) : ∀ (K l : Nat) (v : Int), k - l ≤ K → l ≤ k → v = s2Z (cD d w) k V l → zAW G mX8_determinant zTT (zF G mX8_determinant Post) 69 [some (.ref 38), some (vi d), some (vi x), some (vi W), some (vl sm), none, some (vi w), some (vi x7), some (vl v), none, some (vi k), some (vi l)] [] n (zup h 60 (aI 4 co)) 0 0 := by
  have hck := hco k (by omega) (by omega)
  have hckR := cD_R (n := d) (w := w) (by omega) k
  intro K
  induction K with
  | zero =>
    intro l v hK hl hv
    obtain rfl : l = k := by omega
    rw [← hv] at kk
    refine zr_iload (pc := 69)  rfl dX8_determinant_69 ?_
    refine zr_iload (pc := 71)  rfl dX8_determinant_71 ?_
    refine zr_icmp_ge (pc := 73)  (tgt := 130) ⟨by omega, by omega⟩ ⟨by omega, by omega⟩ (by decide) dX8_determinant_73 (fun q73 => ?_) (fun q73 => ?_)
    · exact kk
    · exact absurd q73 (by omega)
  | succ K ih =>
    intro l v hK hl hv
    have hcl := hco l (by omega) (by omega)
    have hclR := cD_R (n := d) (w := w) (by omega) l
    have es : s2Z (cD d w) k V (l + 1) = if (cD d w) l = (cD d w) k then 0 else if (cD d w) k < (cD d w) l then -v else v := by rw [hv]; rfl
    rw [← hck, ← hcl] at es
    rw [← hck] at hckR
    rw [← hcl] at hclR
    refine zr_iload (pc := 69)  rfl dX8_determinant_69 ?_
    refine zr_iload (pc := 71)  rfl dX8_determinant_71 ?_
    refine zr_icmp_ge (pc := 73)  (tgt := 130) ⟨by omega, by omega⟩ ⟨by omega, by omega⟩ (by decide) dX8_determinant_73 (fun q73 => ?_) (fun q73 => ?_)
    · obtain rfl : l = k := by omega
      rw [← hv] at kk
      exact kk
    · refine zr_aload_n (pc := 76)  (i := 0) rfl rfl dX8_determinant_76 ?_
      refine zr_get (pc := 77)  fl_X8_76 (by first | assumption | rfl | (repeat (first | assumption | exact zup_s | refine zup_g (by decide) ?_))) rfl dX8_determinant_77 ?_
      refine zr_iload (pc := 80)  rfl dX8_determinant_80 ?_
      refine zr_iald (pc := 82)  (by first | assumption | rfl | (repeat (first | assumption | exact zup_s | refine zup_g (by decide) ?_))) ⟨by omega, by omega⟩ (by decide) dX8_determinant_82 ?_
      refine zr_aload_n (pc := 83)  (i := 0) rfl rfl dX8_determinant_83 ?_
      refine zr_get (pc := 84)  fl_X8_76 (by first | assumption | rfl | (repeat (first | assumption | exact zup_s | refine zup_g (by decide) ?_))) rfl dX8_determinant_84 ?_
      refine zr_iload (pc := 87)  rfl dX8_determinant_87 ?_
      refine zr_iald (pc := 89)  (by first | assumption | rfl | (repeat (first | assumption | exact zup_s | refine zup_g (by decide) ?_))) ⟨by omega, by omega⟩ (by decide) dX8_determinant_89 ?_
      refine zr_icmp_ne (pc := 90)  (tgt := 97) ⟨by omega, by omega⟩ ⟨by omega, by omega⟩ (by decide) dX8_determinant_90 (fun q90 => ?_) (fun q90 => ?_)
      · refine zr_aload_n (pc := 97)  (i := 0) rfl rfl dX8_determinant_97 ?_
        refine zr_get (pc := 98)  fl_X8_76 (by first | assumption | rfl | (repeat (first | assumption | exact zup_s | refine zup_g (by decide) ?_))) rfl dX8_determinant_98 ?_
        refine zr_iload (pc := 101)  rfl dX8_determinant_101 ?_
        refine zr_iald (pc := 103)  (by first | assumption | rfl | (repeat (first | assumption | exact zup_s | refine zup_g (by decide) ?_))) ⟨by omega, by omega⟩ (by decide) dX8_determinant_103 ?_
        refine zr_aload_n (pc := 104)  (i := 0) rfl rfl dX8_determinant_104 ?_
        refine zr_get (pc := 105)  fl_X8_76 (by first | assumption | rfl | (repeat (first | assumption | exact zup_s | refine zup_g (by decide) ?_))) rfl dX8_determinant_105 ?_
        refine zr_iload (pc := 108)  rfl dX8_determinant_108 ?_
        refine zr_iald (pc := 110)  (by first | assumption | rfl | (repeat (first | assumption | exact zup_s | refine zup_g (by decide) ?_))) ⟨by omega, by omega⟩ (by decide) dX8_determinant_110 ?_
        refine zr_icmp_le (pc := 111)  (tgt := 120) ⟨by omega, by omega⟩ ⟨by omega, by omega⟩ (by decide) dX8_determinant_111 (fun q111 => ?_) (fun q111 => ?_)
        · refine zr_lload (pc := 120)  rfl dX8_determinant_120 ?_
          refine zs_lstore_8 (pc := 122)  (by first | exact zn_i | exact zn_r | exact zn_0) (by decide) dX8_determinant_122 ?_
          refine zs_iinc_11 (pc := 124)  (by first | exact zn_i | exact zn_r | exact zn_0) (by decide) dX8_determinant_124 ?_
          refine zr_goto (pc := 127)  (tgt := 69) (by decide) dX8_determinant_127 ?_
          exact ih (l + 1) _ (by omega) (by omega) (by rw [es]; (repeat' split) <;> omega)
        · refine zr_lload (pc := 114)  rfl dX8_determinant_114 ?_
          refine zr_lneg (pc := 116)  dX8_determinant_116 ?_
          refine zr_goto (pc := 117)  (tgt := 122) (by decide) dX8_determinant_117 ?_
          refine zs_lstore_8 (pc := 122)  (by first | exact zn_i | exact zn_r | exact zn_0) (by decide) dX8_determinant_122 ?_
          refine zs_iinc_11 (pc := 124)  (by first | exact zn_i | exact zn_r | exact zn_0) (by decide) dX8_determinant_124 ?_
          refine zr_goto (pc := 127)  (tgt := 69) (by decide) dX8_determinant_127 ?_
          exact ih (l + 1) _ (by omega) (by omega) (by rw [es]; (repeat' split) <;> omega)
      · refine zr_lconst (pc := 93)  (z := 0) (by decide) dX8_determinant_93 ?_
        refine zr_goto (pc := 94)  (tgt := 122) (by decide) dX8_determinant_94 ?_
        refine zs_lstore_8 (pc := 122)  (by first | exact zn_i | exact zn_r | exact zn_0) (by decide) dX8_determinant_122 ?_
        refine zs_iinc_11 (pc := 124)  (by first | exact zn_i | exact zn_r | exact zn_0) (by decide) dX8_determinant_124 ?_
        refine zr_goto (pc := 127)  (tgt := 69) (by decide) dX8_determinant_127 ?_
        exact ih (l + 1) _ (by omega) (by omega) (by rw [es]; (repeat' split) <;> omega)
theorem l_X8_detC (m38 : h 38 = some (oMod th len N now al pm pd sq up lw)) {w : Nat} (hw : w ≤ 256) (hd : d ≤ 4) (hx : iR x) (kk : ∀ (co : Int → Int) (x7 : Int) (x11 : Option Value), (∀ j : Int, 0 ≤ j → j < d → co j = (cD d w) j) → zAW G mX8_determinant zTT (zF G mX8_determinant Post) 136 [some (.ref 38), some (vi d), some (vi x), some (vi W), some (vl sm), none, some (vi w), some (vi x7), some (vl (s1Z (cD d w) d)), none, some (vi d), x11] [] n (zup h 60 (aI 4 co)) 0 0) : ∀ (K k : Nat) (lf v : Int) (co : Int → Int) (x11 : Option Value), d - k ≤ K → k ≤ d → lf = w / (d : Int) ^ k → v = s1Z (cD d w) k → (∀ j : Int, 0 ≤ j → j < k → co j = (cD d w) j) → zAW G mX8_determinant zTT (zF G mX8_determinant Post) 43 [some (.ref 38), some (vi d), some (vi x), some (vi W), some (vl sm), none, some (vi w), some (vi lf), some (vl v), none, some (vi k), x11] [] n (zup h 60 (aI 4 co)) 0 0 := by
  intro K
  induction K with
  | zero =>
    intro k lf v co x11 hK hk hl hv hco
    obtain rfl : k = d := by omega
    subst hv
    refine zr_iload (pc := 43)  rfl dX8_determinant_43 ?_
    refine zr_iload_n (pc := 45)  (i := 1) rfl rfl dX8_determinant_45 ?_
    refine zr_icmp_ge (pc := 46)  (tgt := 136) ⟨by omega, by omega⟩ ⟨by omega, by omega⟩ (by decide) dX8_determinant_46 (fun q46 => ?_) (fun q46 => ?_)
    · exact kk co _ _ hco
    · exact absurd q46 (by omega)
  | succ K ih =>
    intro k lf v co x11 hK hk hl hv hco
    have hdp : 0 ≤ (d : Int) ^ k := Int.pow_nonneg (by omega)
    have hl0 : 0 ≤ lf := by rw [hl]; exact Int.ediv_nonneg (by omega) hdp
    have hl1 : lf ≤ 256 := by rw [hl]; exact Int.le_trans (Int.ediv_le_self _ (by omega)) (by omega)
    have ec : (cD d w) k = lf % d := by rw [hl]; rfl
    have e130 : k < d → (∀ j : Int, 0 ≤ j → j ≤ k → uZ co k (lf % d) j = (cD d w) j) → zAW G mX8_determinant zTT (zF G mX8_determinant Post) 130 [some (.ref 38), some (vi d), some (vi x), some (vi W), some (vl sm), none, some (vi w), some (vi (lf / d)), some (vl (s2Z (cD d w) k v k)), none, some (vi k), some (vi k)] [] n (zup h 60 (aI 4 (uZ co k (lf % d)))) 0 0 := fun hkd hco2 => by
      have el : lf / d = w / (d : Int) ^ (k + 1) := by rw [hl, Int.pow_succ, Int.ediv_ediv_of_nonneg hdp]
      refine zs_iinc_10 (pc := 130)  (by first | exact zn_i | exact zn_r | exact zn_0) (by decide) dX8_determinant_130 ?_
      refine zr_goto (pc := 133)  (tgt := 43) (by decide) dX8_determinant_133 ?_
      exact ih (k + 1) _ _ _ _ (by omega) (by omega) el (by rw [hv]; rfl) (fun j a b => hco2 j a (by omega))
    have el : lf / d = w / (d : Int) ^ (k + 1) := by rw [hl, Int.pow_succ, Int.ediv_ediv_of_nonneg hdp]
    refine zr_iload (pc := 43)  rfl dX8_determinant_43 ?_
    refine zr_iload_n (pc := 45)  (i := 1) rfl rfl dX8_determinant_45 ?_
    refine zr_icmp_ge (pc := 46)  (tgt := 136) ⟨by omega, by omega⟩ ⟨by omega, by omega⟩ (by decide) dX8_determinant_46 (fun q46 => ?_) (fun q46 => ?_)
    · obtain rfl : k = d := by omega
      subst hv
      exact kk co _ _ hco
    · have hm0 := Int.emod_nonneg lf (show (d : Int) ≠ 0 by omega)
      have hm1 := Int.emod_lt_of_pos lf (show (0 : Int) < d by omega)
      have hco2 : ∀ j : Int, 0 ≤ j → j ≤ k → uZ co k (lf % d) j = (cD d w) j := fun j a b => by by_cases e : j = k; (rw [e, uZ_s, ec]); (rw [uZ_n e]; exact hco j a (by omega))
      refine zr_aload_n (pc := 49)  (i := 0) rfl rfl dX8_determinant_49 ?_
      refine zr_get (pc := 50)  fl_X8_76 (by first | assumption | rfl | (repeat (first | assumption | exact zup_s | refine zup_g (by decide) ?_))) rfl dX8_determinant_50 ?_
      refine zr_iload (pc := 53)  rfl dX8_determinant_53 ?_
      refine zr_iload (pc := 55)  rfl dX8_determinant_55 ?_
      refine zr_iload_n (pc := 57)  (i := 1) rfl rfl dX8_determinant_57 ?_
      refine zr_iremN (pc := 58)  ⟨by omega, by omega⟩ ⟨by omega, by omega⟩ dX8_determinant_58 ?_
      refine zr_iast (pc := 59)  (by first | assumption | rfl | (repeat (first | assumption | exact zup_s | refine zup_g (by decide) ?_))) ⟨by omega, by omega⟩ (by decide) dX8_determinant_59 ?_
      rw [zup_zup]
      refine zr_iload (pc := 60)  rfl dX8_determinant_60 ?_
      refine zr_iload_n (pc := 62)  (i := 1) rfl rfl dX8_determinant_62 ?_
      refine zr_idivN (pc := 63)  ⟨by omega, by omega⟩ ⟨by omega, by omega⟩ dX8_determinant_63 ?_
      refine zs_istore_7 (pc := 64)  (by first | exact zn_i | exact zn_r | exact zn_0) (by decide) dX8_determinant_64 ?_
      refine zr_iconst (pc := 66)  dX8_determinant_66 ?_
      refine zs_istore_11 (pc := 67)  (by first | exact zn_i | exact zn_r | exact zn_0) (by decide) dX8_determinant_67 ?_
      exact l_X8_detD m38 (by omega) hd hx (V := v) hco2 (e130 (by omega) hco2) k 0 v (by omega) (by omega) rfl
theorem l_X8_detB (m38 : h 38 = some (oMod th len N now al pm pd sq up lw)) (m61 : h 61 = some (aJ 16 ma)) (m62 : h 62 = some (aJ 4 si)) (hd : d ≤ 4) (hx : iR x) (hB1 : ∀ k j : Int, 0 ≤ k → k < d → 0 ≤ j → j < d → j ≠ x → bdZ (ma (4 * k + j)) 224) (hB2 : ∀ k : Int, 0 ≤ k → k < d → bdZ (si k) 1600000) (hW : W = ((d ^ d : Nat) : Int)) (hW2 : d ^ d ≤ 256) (kk : ∀ co, Post (some (vl (dtZ d (fun k j => if j = x then si k else ma (4 * k + j))))) n (zup h 60 (aI 4 co))) : ∀ (K w : Nat) (sm : Int) (co : Int → Int) (x7 x8 x9 x10 x11 : Option Value), d ^ d - w ≤ K → w ≤ d ^ d → sm = sumZ (tmZ d (fun k j => if j = x then si k else ma (4 * k + j))) w → zAW G mX8_determinant zTT (zF G mX8_determinant Post) 27 [some (.ref 38), some (vi d), some (vi x), some (vi W), some (vl sm), none, some (vi w), x7, x8, x9, x10, x11] [] n (zup h 60 (aI 4 co)) 0 0 := by
  intro K
  induction K with
  | zero =>
    intro w sm co x7 x8 x9 x10 x11 hK hw hs
    obtain rfl : w = d ^ d := by omega
    have kk := kk co
    rw [show dtZ d (fun k j => if j = x then si k else ma (4 * k + j)) = sm from hs.symm] at kk
    refine zr_iload (pc := 27)  rfl dX8_determinant_27 ?_
    refine zr_iload_n (pc := 29)  (i := 3) rfl rfl dX8_determinant_29 ?_
    refine zr_icmp_ge (pc := 30)  (tgt := 214) ⟨by omega, by omega⟩ ⟨by omega, by omega⟩ (by decide) dX8_determinant_30 (fun q30 => ?_) (fun q30 => ?_)
    · refine zr_lload (pc := 214)  rfl dX8_determinant_214 ?_
      refine zr_lreturn (pc := 216)  rfl (by decide) (by decide) dX8_determinant_216 ?_
      exact kk
    · exact absurd q30 (by omega)
  | succ K ih =>
    intro w sm co x7 x8 x9 x10 x11 hK hw hs
    have es : sumZ (tmZ d (fun k j => if j = x then si k else ma (4 * k + j))) (w + 1) = sm + tmZ d (fun k j => if j = x then si k else ma (4 * k + j)) w := by rw [hs]; rfl
    have e201 : w < d ^ d → ∀ (co : Int → Int) (x7 : Int) (x10 x11 : Option Value), zAW G mX8_determinant zTT (zF G mX8_determinant Post) 201 [some (.ref 38), some (vi d), some (vi x), some (vi W), some (vl sm), none, some (vi w), some (vi x7), some (vl (tmZ d (fun k j => if j = x then si k else ma (4 * k + j)) w)), none, x10, x11] [] n (zup h 60 (aI 4 co)) 0 0 := fun hwd co x7 x10 x11 => by
      refine zr_lload (pc := 201)  rfl dX8_determinant_201 ?_
      refine zr_lload (pc := 203)  rfl dX8_determinant_203 ?_
      refine zr_ladd (pc := 205)  dX8_determinant_205 ?_
      refine zs_lstore_4 (pc := 206)  (by first | exact zn_i | exact zn_r | exact zn_0) (by decide) dX8_determinant_206 ?_
      refine zs_iinc_6 (pc := 208)  (by first | exact zn_i | exact zn_r | exact zn_0) (by decide) dX8_determinant_208 ?_
      refine zr_goto (pc := 211)  (tgt := 27) (by decide) dX8_determinant_211 ?_
      exact ih (w + 1) _ _ _ _ _ _ _ (by omega) (by omega) es.symm
    have e136 : w < d ^ d → ∀ (co : Int → Int) (x7 : Int) (x11 : Option Value), (∀ j : Int, 0 ≤ j → j < d → co j = (cD d w) j) → zAW G mX8_determinant zTT (zF G mX8_determinant Post) 136 [some (.ref 38), some (vi d), some (vi x), some (vi W), some (vl sm), none, some (vi w), some (vi x7), some (vl (s1Z (cD d w) d)), none, some (vi d), x11] [] n (zup h 60 (aI 4 co)) 0 0 := fun hwd co x7 x11 hco => by
      refine zr_iconst (pc := 136)  dX8_determinant_136 ?_
      refine zs_istore_10 (pc := 137)  (by first | exact zn_i | exact zn_r | exact zn_0) (by decide) dX8_determinant_137 ?_
      exact l_X8_detE m38 m61 m62 hd hx hB1 hB2 hco (fun y10 => e201 hwd _ _ _ _) d 0 _ (by omega) (by omega) rfl
    refine zr_iload (pc := 27)  rfl dX8_determinant_27 ?_
    refine zr_iload_n (pc := 29)  (i := 3) rfl rfl dX8_determinant_29 ?_
    refine zr_icmp_ge (pc := 30)  (tgt := 214) ⟨by omega, by omega⟩ ⟨by omega, by omega⟩ (by decide) dX8_determinant_30 (fun q30 => ?_) (fun q30 => ?_)
    · refine zr_lload (pc := 214)  rfl dX8_determinant_214 ?_
      refine zr_lreturn (pc := 216)  rfl (by decide) (by decide) dX8_determinant_216 ?_
      obtain rfl : w = d ^ d := by omega
      have kk := kk co
      rw [show dtZ d (fun k j => if j = x then si k else ma (4 * k + j)) = sm from hs.symm] at kk
      exact kk
    · refine zr_iload (pc := 33)  rfl dX8_determinant_33 ?_
      refine zs_istore_7 (pc := 35)  (by first | exact zn_i | exact zn_r | exact zn_0) (by decide) dX8_determinant_35 ?_
      refine zr_lconst (pc := 37)  (z := 1) (by decide) dX8_determinant_37 ?_
      refine zs_lstore_8 (pc := 38)  (by first | exact zn_i | exact zn_r | exact zn_0) (by decide) dX8_determinant_38 ?_
      refine zr_iconst (pc := 40)  dX8_determinant_40 ?_
      refine zs_istore_10 (pc := 41)  (by first | exact zn_i | exact zn_r | exact zn_0) (by decide) dX8_determinant_41 ?_
      exact l_X8_detC m38 (by omega) hd hx (e136 (by omega)) d 0 _ _ _ _ (by omega) (by omega) (by simp) rfl (fun j a b => by omega)
theorem k_X8_determinant {co : Int → Int} (m38 : h 38 = some (oMod th len N now al pm pd sq up lw)) (m60 : h 60 = some (aI 4 co)) (m61 : h 61 = some (aJ 16 ma)) (m62 : h 62 = some (aJ 4 si)) (hd : d ≤ 4) (hx : iR x) (hB1 : ∀ k j : Int, 0 ≤ k → k < d → 0 ≤ j → j < d → j ≠ x → bdZ (ma (4 * k + j)) 224) (hB2 : ∀ k : Int, 0 ≤ k → k < d → bdZ (si k) 1600000) (k : ∀ co, Post (some (vl (dtZ d (fun k j => if j = x then si k else ma (4 * k + j))))) n (zup h 60 (aI 4 co))) : zMP G mX8_determinant [.ref 38, vi d, vi x] n h Post := by
  have hpw : ∀ i j : Nat, i ≤ 4 → j ≤ 4 → i ^ j ≤ 256 := fun i j hi hj => by
    have h1 : i = 0 ∨ i = 1 ∨ i = 2 ∨ i = 3 ∨ i = 4 := by omega
    have h2 : j = 0 ∨ j = 1 ∨ j = 2 ∨ j = 3 ∨ j = 4 := by omega
    rcases h1 with rfl | rfl | rfl | rfl | rfl <;> rcases h2 with rfl | rfl | rfl | rfl | rfl <;> decide
  have kp := k
  clear k
  have main : ∀ (K k : Nat) (W : Int) (x5 x6 x7 x8 x9 x10 x11 : Option Value), d - k ≤ K → k ≤ d → W = ((d ^ k : Nat) : Int) → zAW G mX8_determinant zTT (zF G mX8_determinant Post) 5 [some (.ref 38), some (vi d), some (vi x), some (vi W), some (vi k), x5, x6, x7, x8, x9, x10, x11] [] n (zup h 60 (aI 4 co)) 0 0 := by
    intro K
    induction K with
    | zero =>
      intro k W x5 x6 x7 x8 x9 x10 x11 hK hk hW
      obtain rfl : k = d := by omega
      refine zr_iload (pc := 5)  rfl dX8_determinant_5 ?_
      refine zr_iload_n (pc := 7)  (i := 1) rfl rfl dX8_determinant_7 ?_
      refine zr_icmp_ge (pc := 8)  (tgt := 21) ⟨by omega, by omega⟩ ⟨by omega, by omega⟩ (by decide) dX8_determinant_8 (fun q8 => ?_) (fun q8 => ?_)
      · refine zr_lconst (pc := 21)  (z := 0) (by decide) dX8_determinant_21 ?_
        refine zs_lstore_4 (pc := 22)  (by first | exact zn_i | exact zn_r | exact zn_0) (by decide) dX8_determinant_22 ?_
        refine zr_iconst (pc := 24)  dX8_determinant_24 ?_
        refine zs_istore_6 (pc := 25)  (by first | exact zn_i | exact zn_r | exact zn_0) (by decide) dX8_determinant_25 ?_
        exact l_X8_detB m38 m61 m62 hd hx hB1 hB2 hW (hpw k k hd hd) kp (k ^ k) 0 0 co _ _ _ _ _ (by omega) (by omega) rfl
      · exact absurd q8 (by omega)
    | succ K ih =>
      intro k W x5 x6 x7 x8 x9 x10 x11 hK hk hW
      refine zr_iload (pc := 5)  rfl dX8_determinant_5 ?_
      refine zr_iload_n (pc := 7)  (i := 1) rfl rfl dX8_determinant_7 ?_
      refine zr_icmp_ge (pc := 8)  (tgt := 21) ⟨by omega, by omega⟩ ⟨by omega, by omega⟩ (by decide) dX8_determinant_8 (fun q8 => ?_) (fun q8 => ?_)
      · refine zr_lconst (pc := 21)  (z := 0) (by decide) dX8_determinant_21 ?_
        refine zs_lstore_4 (pc := 22)  (by first | exact zn_i | exact zn_r | exact zn_0) (by decide) dX8_determinant_22 ?_
        refine zr_iconst (pc := 24)  dX8_determinant_24 ?_
        refine zs_istore_6 (pc := 25)  (by first | exact zn_i | exact zn_r | exact zn_0) (by decide) dX8_determinant_25 ?_
        obtain rfl : k = d := by omega
        exact l_X8_detB m38 m61 m62 hd hx hB1 hB2 hW (hpw k k hd hd) kp (k ^ k) 0 0 co _ _ _ _ _ (by omega) (by omega) rfl
      · refine zr_iload_n (pc := 11)  (i := 3) rfl rfl dX8_determinant_11 ?_
        refine zr_iload_n (pc := 12)  (i := 1) rfl rfl dX8_determinant_12 ?_
        refine zr_imul (pc := 13)  dX8_determinant_13 ?_
        refine zs_istore_n_3 (pc := 14)  (by first | exact zn_i | exact zn_r | exact zn_0) (by decide) dX8_determinant_14 ?_
        refine zs_iinc_4 (pc := 15)  (by first | exact zn_i | exact zn_r | exact zn_0) (by decide) dX8_determinant_15 ?_
        refine zr_goto (pc := 18)  (tgt := 5) (by decide) dX8_determinant_18 ?_
        exact ih (k + 1) _ _ _ _ _ _ _ _ (by omega) (by omega) (by rw [hW, Nat.pow_succ, Int.natCast_mul])
  refine zMP_of (by decide) [some _, some _, some _, none, none, none, none, none, none, none, none, none] (Nat.le_of_ble_eq_true rfl) rfl ?_
  refine zr_iconst (pc := 0)  dX8_determinant_0 ?_
  refine zs_istore_n_3 (pc := 1)  (by first | exact zn_i | exact zn_r | exact zn_0) (by decide) dX8_determinant_1 ?_
  refine zr_iconst (pc := 2)  dX8_determinant_2 ?_
  refine zs_istore_4 (pc := 3)  (by first | exact zn_i | exact zn_r | exact zn_0) (by decide) dX8_determinant_3 ?_
  refine zr_heap (zup_self m60).symm ?_
  exact main d 0 1 _ _ _ _ _ _ _ (by omega) (by omega) rfl
end MOD
