/-! the reference looks up -/
theorem stZ_s {ap cn pl tm : Int → Int} {m : Nat} {p t : Int} : stZ ap cn pl tm (m + 1) p t = if ap p ≠ 1 ∧ pl m = p ∧ tm m ≤ t then cn m else stZ ap cn pl tm m p t := by
  have hz : holdZ pl tm (m + 1) p t = if (pl m == p && decide (tm m ≤ t)) = true then (m : Int) else holdZ pl tm m p t := rfl
  unfold stZ
  by_cases a : ap p = 1
  · rw [if_pos a, if_neg (fun z => z.1 a), if_pos a]
  · rw [if_neg a, if_neg a]
    by_cases q : pl m = p ∧ tm m ≤ t
    · have e : holdZ pl tm (m + 1) p t = m := by rw [hz, if_pos (by simp only [Bool.and_eq_true, beq_iff_eq, decide_eq_true_eq]; exact q)]
      rw [e, if_neg (by omega), if_pos ⟨a, q⟩]
    · have e : holdZ pl tm (m + 1) p t = holdZ pl tm m p t := by rw [hz, if_neg (by simp only [Bool.and_eq_true, beq_iff_eq, decide_eq_true_eq]; exact q)]
      rw [e, if_neg (c := ap p ≠ 1 ∧ pl m = p ∧ tm m ≤ t) (fun z => q z.2)]
theorem stZ_0 {ap cn pl tm : Int → Int} {p t : Int} : stZ ap cn pl tm 0 p t = if ap p = 1 then -3 else -2 := by
  unfold stZ
  rw [show holdZ pl tm 0 p t = -1 from rfl, if_pos rfl]
def lkS (s rk gr sn iw : Int → Int) : Prop := (∀ p, 0 ≤ p → p < 1344 → rk (p / 84) = 1 → sn p = s p) ∧ (∀ r, 0 ≤ r → r < 16 → (iw r = 1 ↔ wpP s rk gr r)) ∧ ∀ i, iw i = 0 ∨ iw i = 1
section MOD
variable {G : zG} {n : Nat} {h : zH} {Post : Option Value → Nat → zH → Prop} {th len now al pm pd sq up lw : Int} {tb rk rs rg gr bt bc ek ap pl : Int → Int} {N : Nat}
theorem l_X8_lookUp3 {t : Int} {s : Int → Int} (m38 : h 38 = some (oMod th len N now al pm pd sq up lw)) (m40 : h 40 = some (aZ 16 rk)) (m44 : h 44 = some (aI 16 gr)) {sn : Int → Int} (m50 : h 50 = some (aI 1344 sn)) (i4 : ∀ i, rk i = 0 ∨ rk i = 1) (i7 : ∀ i, -1 ≤ gr i ∧ gr i < 4) (hs : ∀ p, -3 ≤ s p ∧ s p ≤ 50) (hn : ∀ p, 0 ≤ p → p < 1344 → rk (p / 84) = 1 → sn p = s p) (kk : ∀ iw, lkS s rk gr sn iw → Post none n (zup h 51 (aZ 16 iw))) : ∀ (k : Nat) (m : Int) (iw : Int → Int) (x3 : Option Value), 16 - m ≤ k → 0 ≤ m → m ≤ 16 → (∀ r, 0 ≤ r → r < m → (iw r = 1 ↔ wpP s rk gr r)) → (∀ i, iw i = 0 ∨ iw i = 1) → zAW G mX8_lookUp zTT (zF G mX8_lookUp Post) 153 [some (.ref 38), some (vi t), some (vi m), x3] [] n (zup h 51 (aZ 16 iw)) 0 0 := by
  intro k
  induction k with
  | zero =>
    intro m iw x3 hk h0 hm hw hz
    obtain rfl : m = 16 := by omega
    refine zr_iload_n (pc := 153)  (i := 2) rfl rfl dX8_lookUp_153 ?_
    refine zr_bipush (pc := 154)  (by decide) dX8_lookUp_154 ?_
    refine zr_icmp_ge (pc := 156)  (tgt := 242) ⟨by omega, by omega⟩ ⟨by omega, by omega⟩ (by decide) dX8_lookUp_156 (fun q156 => ?_) (fun q156 => ?_)
    · refine zr_vreturn (pc := 242)  rfl (by decide) (by decide) dX8_lookUp_242 ?_
      exact kk iw ⟨hn, hw, hz⟩
    · exact absurd q156 (by omega)
  | succ k ih =>
    intro m iw x3 hk h0 hm hw hz
    have i4m := i4 m
    have i7m := i7 m
    have inner : m < 16 → ∀ (k2 : Nat) (d : Int) (iw : Int → Int), 84 - d ≤ k2 → 0 ≤ d → d ≤ 84 → (∀ r, 0 ≤ r → r < m → (iw r = 1 ↔ wpP s rk gr r)) → (∀ i, iw i = 0 ∨ iw i = 1) → (iw m = 1 ↔ (rk m = 1 ∧ gr m ≠ -1) ∧ ∀ j, 0 ≤ j → j < d → 0 ≤ s (m * 84 + j)) → zAW G mX8_lookUp zTT (zF G mX8_lookUp Post) 190 [some (.ref 38), some (vi t), some (vi m), some (vi d)] [] n (zup h 51 (aZ 16 iw)) 0 0 := by
      intro hm16 k2
      induction k2 with
      | zero =>
        intro d iw hk2 d0 d4 hw hz hm2
        obtain rfl : d = 84 := by omega
        refine zr_iload_n (pc := 190)  (i := 3) rfl rfl dX8_lookUp_190 ?_
        refine zr_bipush (pc := 191)  (by decide) dX8_lookUp_191 ?_
        refine zr_icmp_ge (pc := 193)  (tgt := 236) ⟨by omega, by omega⟩ ⟨by omega, by omega⟩ (by decide) dX8_lookUp_193 (fun q193 => ?_) (fun q193 => ?_)
        · refine zs_iinc_2 (pc := 236)  (by first | exact zn_i | exact zn_r | exact zn_0) (by decide) dX8_lookUp_236 ?_
          refine zr_goto (pc := 239)  (tgt := 153) (by decide) dX8_lookUp_239 ?_
          refine ih (m + 1) iw _ (by omega) (by omega) (by omega) (fun r a b => ?_) hz
          (by_cases e : r = m; (rw [e, hm2]; unfold wpP; constructor; (intro z; exact ⟨⟨⟨⟨by omega, by omega⟩, z.1.1⟩, z.1.2⟩, z.2⟩); (intro z; exact ⟨⟨z.1.1.2, z.1.2⟩, z.2⟩)); exact hw r a (by omega))
        · exact absurd q193 (by omega)
      | succ k2 ih2 =>
        intro d iw hk2 d0 d4 hw hz hm2
        have hzm := hz m
        have hsd := hs (m * 84 + d)
        have hsn : d < 84 → rk m = 1 → sn (84 * m + d) = s (m * 84 + d) := fun z1 z2 => by rw [Int.mul_comm 84 m]; exact hn (m * 84 + d) (by omega) (by omega) (by rw [show (m * 84 + d) / 84 = m by omega]; exact z2)
        have nx : ∀ x : Int, (x = 0 ∨ x = 1) → (x = 1 ↔ (iw m = 1 ∧ 0 ≤ s (m * 84 + d))) → (∀ r, 0 ≤ r → r < m → (uZ iw m x r = 1 ↔ wpP s rk gr r)) ∧ (∀ i, uZ iw m x i = 0 ∨ uZ iw m x i = 1) ∧ (uZ iw m x m = 1 ↔ (rk m = 1 ∧ gr m ≠ -1) ∧ ∀ j, 0 ≤ j → j < d + 1 → 0 ≤ s (m * 84 + j)) := fun x hx hx2 => by
          refine ⟨fun r a b => by rw [uZ_n (by omega)]; exact hw r a b, fun i => by unfold uZ; split; exact hx; exact hz i, ?_⟩
          rw [uZ_s, hx2, hm2]
          constructor
          · intro z
            exact ⟨z.1.1, fun j a b => by rcases Int.lt_or_le j d with q | q; exact z.1.2 j a q; (obtain rfl : j = d := by omega); exact z.2⟩
          · intro z
            exact ⟨⟨z.1, fun j a b => z.2 j a (by omega)⟩, z.2 d d0 (by omega)⟩
        refine zr_iload_n (pc := 190)  (i := 3) rfl rfl dX8_lookUp_190 ?_
        refine zr_bipush (pc := 191)  (by decide) dX8_lookUp_191 ?_
        refine zr_icmp_ge (pc := 193)  (tgt := 236) ⟨by omega, by omega⟩ ⟨by omega, by omega⟩ (by decide) dX8_lookUp_193 (fun q193 => ?_) (fun q193 => ?_)
        · refine zs_iinc_2 (pc := 236)  (by first | exact zn_i | exact zn_r | exact zn_0) (by decide) dX8_lookUp_236 ?_
          refine zr_goto (pc := 239)  (tgt := 153) (by decide) dX8_lookUp_239 ?_
          obtain rfl : d = 84 := by omega
          refine ih (m + 1) iw _ (by omega) (by omega) (by omega) (fun r a b => ?_) hz
          (by_cases e : r = m; (rw [e, hm2]; unfold wpP; constructor; (intro z; exact ⟨⟨⟨⟨by omega, by omega⟩, z.1.1⟩, z.1.2⟩, z.2⟩); (intro z; exact ⟨⟨z.1.1.2, z.1.2⟩, z.2⟩)); exact hw r a (by omega))
        · refine zr_aload_n (pc := 196)  (i := 0) rfl rfl dX8_lookUp_196 ?_
          refine zr_get (pc := 197)  fl_X8_48 (by first | assumption | rfl | (repeat (first | assumption | exact zup_s | refine zup_g (by decide) ?_))) rfl dX8_lookUp_197 ?_
          refine zr_iload_n (pc := 200)  (i := 2) rfl rfl dX8_lookUp_200 ?_
          refine zr_aload_n (pc := 201)  (i := 0) rfl rfl dX8_lookUp_201 ?_
          refine zr_get (pc := 202)  fl_X8_48 (by first | assumption | rfl | (repeat (first | assumption | exact zup_s | refine zup_g (by decide) ?_))) rfl dX8_lookUp_202 ?_
          refine zr_iload_n (pc := 205)  (i := 2) rfl rfl dX8_lookUp_205 ?_
          refine zr_zald (pc := 206)  (by first | assumption | rfl | (repeat (first | assumption | exact zup_s | refine zup_g (by decide) ?_))) ⟨by omega, by omega⟩ (by decide) dX8_lookUp_206 ?_
          refine zr_if_eq (pc := 207)  (tgt := 228) ⟨by omega, by omega⟩ (by decide) dX8_lookUp_207 (fun q207 => ?_) (fun q207 => ?_)
          · refine zr_iconst (pc := 228)  dX8_lookUp_228 ?_
            refine zr_zast (pc := 229)  (by first | assumption | rfl | (repeat (first | assumption | exact zup_s | refine zup_g (by decide) ?_))) ⟨by omega, by omega⟩ (by decide) (by omega) dX8_lookUp_229 ?_
            rw [zup_zup]
            refine zs_iinc_3 (pc := 230)  (by first | exact zn_i | exact zn_r | exact zn_0) (by decide) dX8_lookUp_230 ?_
            refine zr_goto (pc := 233)  (tgt := 190) (by decide) dX8_lookUp_233 ?_
            first | (have nn := nx 0 (by omega) (by omega); exact ih2 (d + 1) _ (by omega) (by omega) (by omega) nn.1 nn.2.1 nn.2.2) | (have nn := nx 1 (by omega) (by omega); exact ih2 (d + 1) _ (by omega) (by omega) (by omega) nn.1 nn.2.1 nn.2.2)
          · have hmm := (hm2.mp (by omega)).1.1
            have hsn2 := hsn (by omega) hmm
            refine zr_aload_n (pc := 210)  (i := 0) rfl rfl dX8_lookUp_210 ?_
            refine zr_get (pc := 211)  fl_X8_45 (by first | assumption | rfl | (repeat (first | assumption | exact zup_s | refine zup_g (by decide) ?_))) rfl dX8_lookUp_211 ?_
            refine zr_bipush (pc := 214)  (by decide) dX8_lookUp_214 ?_
            refine zr_iload_n (pc := 216)  (i := 2) rfl rfl dX8_lookUp_216 ?_
            refine zr_imul (pc := 217)  dX8_lookUp_217 ?_
            refine zr_iload_n (pc := 218)  (i := 3) rfl rfl dX8_lookUp_218 ?_
            refine zr_iadd (pc := 219)  dX8_lookUp_219 ?_
            refine zr_iald (pc := 220)  (by first | assumption | rfl | (repeat (first | assumption | exact zup_s | refine zup_g (by decide) ?_))) ⟨by omega, by omega⟩ (by decide) dX8_lookUp_220 ?_
            refine zr_if_lt (pc := 221)  (tgt := 228) ⟨by omega, by omega⟩ (by decide) dX8_lookUp_221 (fun q221 => ?_) (fun q221 => ?_)
            · refine zr_iconst (pc := 228)  dX8_lookUp_228 ?_
              refine zr_zast (pc := 229)  (by first | assumption | rfl | (repeat (first | assumption | exact zup_s | refine zup_g (by decide) ?_))) ⟨by omega, by omega⟩ (by decide) (by omega) dX8_lookUp_229 ?_
              rw [zup_zup]
              refine zs_iinc_3 (pc := 230)  (by first | exact zn_i | exact zn_r | exact zn_0) (by decide) dX8_lookUp_230 ?_
              refine zr_goto (pc := 233)  (tgt := 190) (by decide) dX8_lookUp_233 ?_
              first | (have nn := nx 0 (by omega) (by omega); exact ih2 (d + 1) _ (by omega) (by omega) (by omega) nn.1 nn.2.1 nn.2.2) | (have nn := nx 1 (by omega) (by omega); exact ih2 (d + 1) _ (by omega) (by omega) (by omega) nn.1 nn.2.1 nn.2.2)
            · refine zr_iconst (pc := 224)  dX8_lookUp_224 ?_
              refine zr_goto (pc := 225)  (tgt := 229) (by decide) dX8_lookUp_225 ?_
              refine zr_zast (pc := 229)  (by first | assumption | rfl | (repeat (first | assumption | exact zup_s | refine zup_g (by decide) ?_))) ⟨by omega, by omega⟩ (by decide) (by omega) dX8_lookUp_229 ?_
              rw [zup_zup]
              refine zs_iinc_3 (pc := 230)  (by first | exact zn_i | exact zn_r | exact zn_0) (by decide) dX8_lookUp_230 ?_
              refine zr_goto (pc := 233)  (tgt := 190) (by decide) dX8_lookUp_233 ?_
              first | (have nn := nx 0 (by omega) (by omega); exact ih2 (d + 1) _ (by omega) (by omega) (by omega) nn.1 nn.2.1 nn.2.2) | (have nn := nx 1 (by omega) (by omega); exact ih2 (d + 1) _ (by omega) (by omega) (by omega) nn.1 nn.2.1 nn.2.2)
    have go : m < 16 → ∀ x : Int, (x = 0 ∨ x = 1) → (x = 1 ↔ rk m = 1 ∧ 0 ≤ gr m) → zAW G mX8_lookUp zTT (zF G mX8_lookUp Post) 190 [some (.ref 38), some (vi t), some (vi m), some (vi 0)] [] n (zup h 51 (aZ 16 (uZ iw m x))) 0 0 := fun hm16 x hx hx2 => by
      refine inner hm16 84 0 _ (by omega) (by omega) (by omega) (fun r a b => by rw [uZ_n (by omega)]; exact hw r a b) (fun i => by unfold uZ; split; exact hx; exact hz i) ?_
      rw [uZ_s, hx2]
      constructor
      · intro z
        exact ⟨⟨z.1, by omega⟩, fun j a b => by omega⟩
      · intro z
        exact ⟨z.1.1, by have := z.1.2; omega⟩
    refine zr_iload_n (pc := 153)  (i := 2) rfl rfl dX8_lookUp_153 ?_
    refine zr_bipush (pc := 154)  (by decide) dX8_lookUp_154 ?_
    refine zr_icmp_ge (pc := 156)  (tgt := 242) ⟨by omega, by omega⟩ ⟨by omega, by omega⟩ (by decide) dX8_lookUp_156 (fun q156 => ?_) (fun q156 => ?_)
    · refine zr_vreturn (pc := 242)  rfl (by decide) (by decide) dX8_lookUp_242 ?_
      obtain rfl : m = 16 := by omega
      exact kk iw ⟨hn, hw, hz⟩
    · refine zr_aload_n (pc := 159)  (i := 0) rfl rfl dX8_lookUp_159 ?_
      refine zr_get (pc := 160)  fl_X8_48 (by first | assumption | rfl | (repeat (first | assumption | exact zup_s | refine zup_g (by decide) ?_))) rfl dX8_lookUp_160 ?_
      refine zr_iload_n (pc := 163)  (i := 2) rfl rfl dX8_lookUp_163 ?_
      refine zr_aload_n (pc := 164)  (i := 0) rfl rfl dX8_lookUp_164 ?_
      refine zr_get (pc := 165)  fl_X8_13 (by first | assumption | rfl | (repeat (first | assumption | exact zup_s | refine zup_g (by decide) ?_))) rfl dX8_lookUp_165 ?_
      refine zr_iload_n (pc := 168)  (i := 2) rfl rfl dX8_lookUp_168 ?_
      refine zr_zald (pc := 169)  (by first | assumption | rfl | (repeat (first | assumption | exact zup_s | refine zup_g (by decide) ?_))) ⟨by omega, by omega⟩ (by decide) dX8_lookUp_169 ?_
      refine zr_if_eq (pc := 170)  (tgt := 186) ⟨by omega, by omega⟩ (by decide) dX8_lookUp_170 (fun q170 => ?_) (fun q170 => ?_)
      · refine zr_iconst (pc := 186)  dX8_lookUp_186 ?_
        refine zr_zast (pc := 187)  (by first | assumption | rfl | (repeat (first | assumption | exact zup_s | refine zup_g (by decide) ?_))) ⟨by omega, by omega⟩ (by decide) (by omega) dX8_lookUp_187 ?_
        rw [zup_zup]
        refine zr_iconst (pc := 188)  dX8_lookUp_188 ?_
        refine zs_istore_n_3 (pc := 189)  (by first | exact zn_i | exact zn_r | exact zn_0) (by decide) dX8_lookUp_189 ?_
        first | exact go (by omega) 0 (by omega) (by omega) | exact go (by omega) 1 (by omega) (by omega)
      · refine zr_aload_n (pc := 173)  (i := 0) rfl rfl dX8_lookUp_173 ?_
        refine zr_get (pc := 174)  fl_X8_27 (by first | assumption | rfl | (repeat (first | assumption | exact zup_s | refine zup_g (by decide) ?_))) rfl dX8_lookUp_174 ?_
        refine zr_iload_n (pc := 177)  (i := 2) rfl rfl dX8_lookUp_177 ?_
        refine zr_iald (pc := 178)  (by first | assumption | rfl | (repeat (first | assumption | exact zup_s | refine zup_g (by decide) ?_))) ⟨by omega, by omega⟩ (by decide) dX8_lookUp_178 ?_
        refine zr_if_lt (pc := 179)  (tgt := 186) ⟨by omega, by omega⟩ (by decide) dX8_lookUp_179 (fun q179 => ?_) (fun q179 => ?_)
        · refine zr_iconst (pc := 186)  dX8_lookUp_186 ?_
          refine zr_zast (pc := 187)  (by first | assumption | rfl | (repeat (first | assumption | exact zup_s | refine zup_g (by decide) ?_))) ⟨by omega, by omega⟩ (by decide) (by omega) dX8_lookUp_187 ?_
          rw [zup_zup]
          refine zr_iconst (pc := 188)  dX8_lookUp_188 ?_
          refine zs_istore_n_3 (pc := 189)  (by first | exact zn_i | exact zn_r | exact zn_0) (by decide) dX8_lookUp_189 ?_
          first | exact go (by omega) 0 (by omega) (by omega) | exact go (by omega) 1 (by omega) (by omega)
        · refine zr_iconst (pc := 182)  dX8_lookUp_182 ?_
          refine zr_goto (pc := 183)  (tgt := 187) (by decide) dX8_lookUp_183 ?_
          refine zr_zast (pc := 187)  (by first | assumption | rfl | (repeat (first | assumption | exact zup_s | refine zup_g (by decide) ?_))) ⟨by omega, by omega⟩ (by decide) (by omega) dX8_lookUp_187 ?_
          rw [zup_zup]
          refine zr_iconst (pc := 188)  dX8_lookUp_188 ?_
          refine zs_istore_n_3 (pc := 189)  (by first | exact zn_i | exact zn_r | exact zn_0) (by decide) dX8_lookUp_189 ?_
          first | exact go (by omega) 0 (by omega) (by omega) | exact go (by omega) 1 (by omega) (by omega)
theorem l_X8_lookUp2 {t : Int} (m38 : h 38 = some (oMod th len N now al pm pd sq up lw)) (m40 : h 40 = some (aZ 16 rk)) (m41 : h 41 = some (aZ 1344 ap)) (m44 : h 44 = some (aI 16 gr)) (m45 : h 45 = some (aI 600 (fun e => pl e / 84))) (m46 : h 46 = some (aI 600 (fun e => pl e % 84))) (m47 : h 47 = some (aI 600 bt)) (m48 : h 48 = some (aI 600 bc)) {iw : Int → Int} (m51 : h 51 = some (aZ 16 iw)) (hz : ∀ i, iw i = 0 ∨ iw i = 1) (i4 : ∀ i, rk i = 0 ∨ rk i = 1) (i7 : ∀ i, -1 ≤ gr i ∧ gr i < 4) (hN : N ≤ 600) (hp : ∀ e, 0 ≤ pl e ∧ pl e < 1344) (hb : ∀ i, 0 ≤ bt i ∧ bt i ≤ 99) (hc : ∀ i, -1 ≤ bc i ∧ bc i ≤ 50) (i3 : ∀ i, ap i = 0 ∨ ap i = 1) (ht : iR t) (kk : ∀ sn iw, lkS (SA ap bc pl bt N t) rk gr sn iw → Post none n (zup (zup h 50 (aI 1344 sn)) 51 (aZ 16 iw))) : ∀ (k m : Nat) (sn : Int → Int) (x3 : Option Value), N - m ≤ k → m ≤ N → (∀ p, 0 ≤ p → p < 1344 → rk (p / 84) = 1 → sn p = stZ ap bc pl bt m p t) → zAW G mX8_lookUp zTT (zF G mX8_lookUp Post) 76 [some (.ref 38), some (vi t), some (vi m), x3] [] n (zup h 50 (aI 1344 sn)) 0 0 := by
  have hs : ∀ p, -3 ≤ SA ap bc pl bt N t p ∧ SA ap bc pl bt N t p ≤ 50 := fun p => by
    have := hc (holdZ pl bt N p t)
    show -3 ≤ stZ ap bc pl bt N p t ∧ stZ ap bc pl bt N p t ≤ 50
    unfold stZ
    (repeat' split) <;> omega
  have fin : ∀ sn : Int → Int, ∀ x3 : Option Value, (∀ p, 0 ≤ p → p < 1344 → rk (p / 84) = 1 → sn p = stZ ap bc pl bt N p t) → zAW G mX8_lookUp zTT (zF G mX8_lookUp Post) 153 [some (.ref 38), some (vi t), some (vi 0), x3] [] n (zup h 50 (aI 1344 sn)) 0 0 := fun sn x3 hsn => by
    refine zr_heap (show zup h 50 (aI 1344 sn) = zup (zup h 50 (aI 1344 sn)) 51 (aZ 16 iw) from (zup_self (show zup h 50 (aI 1344 sn) 51 = some (aZ 16 iw) from m51)).symm) ?_
    exact l_X8_lookUp3 (h := zup h 50 (aI 1344 sn)) (s := SA ap bc pl bt N t) m38 m40 m44 zup_s i4 i7 hs hsn (fun iw2 hl => kk sn iw2 hl) 16 0 iw x3 (by omega) (by omega) (by omega) (fun r a b => by omega) hz
  intro k
  induction k with
  | zero =>
    intro m sn x3 hk hm hsn
    obtain rfl : m = N := by omega
    refine zr_iload_n (pc := 76)  (i := 2) rfl rfl dX8_lookUp_76 ?_
    refine zr_aload_n (pc := 77)  (i := 0) rfl rfl dX8_lookUp_77 ?_
    refine zr_get (pc := 78)  fl_X8_102 (by first | assumption | rfl | (repeat (first | assumption | exact zup_s | refine zup_g (by decide) ?_))) rfl dX8_lookUp_78 ?_
    refine zr_icmp_ge (pc := 81)  (tgt := 151) ⟨by omega, by omega⟩ ⟨by omega, by omega⟩ (by decide) dX8_lookUp_81 (fun q81 => ?_) (fun q81 => ?_)
    · refine zr_iconst (pc := 151)  dX8_lookUp_151 ?_
      refine zs_istore_n_2 (pc := 152)  (by first | exact zn_i | exact zn_r | exact zn_0) (by decide) dX8_lookUp_152 ?_
      exact fin sn x3 hsn
    · exact absurd q81 (by omega)
  | succ k ih =>
    intro m sn x3 hk hm hsn
    have hbm := hb m
    have hpm := hp m
    have ix : 84 * (pl m / 84) + pl m % 84 = pl m := by omega
    have i3m := i3 (84 * (pl m / 84) + pl m % 84)
    have no : ¬ (ap (pl m) ≠ 1 ∧ bt m ≤ t) → ∀ p, 0 ≤ p → p < 1344 → rk (p / 84) = 1 → sn p = stZ ap bc pl bt (m + 1) p t := fun q p a b c => by
      rw [stZ_s, if_neg (fun z => q ⟨by rw [z.2.1]; exact z.1, z.2.2⟩)]
      exact hsn p a b c
    have ye : (ap (pl m) ≠ 1 ∧ bt m ≤ t) → ∀ p, 0 ≤ p → p < 1344 → rk (p / 84) = 1 → uZ sn (84 * (pl m / 84) + pl m % 84) (bc m) p = stZ ap bc pl bt (m + 1) p t := fun q p a b c => by
      rw [stZ_s, ix]
      by_cases z : p = pl m
      · rw [z, uZ_s, if_pos ⟨q.1, rfl, q.2⟩]
      · rw [uZ_n z, if_neg (fun y => z y.2.1.symm)]
        exact hsn p a b c
    rw [ix] at i3m
    refine zr_iload_n (pc := 76)  (i := 2) rfl rfl dX8_lookUp_76 ?_
    refine zr_aload_n (pc := 77)  (i := 0) rfl rfl dX8_lookUp_77 ?_
    refine zr_get (pc := 78)  fl_X8_102 (by first | assumption | rfl | (repeat (first | assumption | exact zup_s | refine zup_g (by decide) ?_))) rfl dX8_lookUp_78 ?_
    refine zr_icmp_ge (pc := 81)  (tgt := 151) ⟨by omega, by omega⟩ ⟨by omega, by omega⟩ (by decide) dX8_lookUp_81 (fun q81 => ?_) (fun q81 => ?_)
    · refine zr_iconst (pc := 151)  dX8_lookUp_151 ?_
      refine zs_istore_n_2 (pc := 152)  (by first | exact zn_i | exact zn_r | exact zn_0) (by decide) dX8_lookUp_152 ?_
      obtain rfl : m = N := by omega
      exact fin sn x3 hsn
    · refine zr_aload_n (pc := 84)  (i := 0) rfl rfl dX8_lookUp_84 ?_
      refine zr_get (pc := 85)  fl_X8_36 (by first | assumption | rfl | (repeat (first | assumption | exact zup_s | refine zup_g (by decide) ?_))) rfl dX8_lookUp_85 ?_
      refine zr_iload_n (pc := 88)  (i := 2) rfl rfl dX8_lookUp_88 ?_
      refine zr_iald (pc := 89)  (by first | assumption | rfl | (repeat (first | assumption | exact zup_s | refine zup_g (by decide) ?_))) ⟨by omega, by omega⟩ (by decide) dX8_lookUp_89 ?_
      refine zr_iload_n (pc := 90)  (i := 1) rfl rfl dX8_lookUp_90 ?_
      refine zr_icmp_gt (pc := 91)  (tgt := 145) ⟨by omega, by omega⟩ ⟨by omega, by omega⟩ (by decide) dX8_lookUp_91 (fun q91 => ?_) (fun q91 => ?_)
      · try rw [zup_zup]
        refine zs_iinc_2 (pc := 145)  (by first | exact zn_i | exact zn_r | exact zn_0) (by decide) dX8_lookUp_145 ?_
        refine zr_goto (pc := 148)  (tgt := 76) (by decide) dX8_lookUp_148 ?_
        first | exact ih (m + 1) _ x3 (by omega) (by omega) (no (by omega)) | exact ih (m + 1) _ x3 (by omega) (by omega) (ye (by omega))
      · refine zr_aload_n (pc := 94)  (i := 0) rfl rfl dX8_lookUp_94 ?_
        refine zr_get (pc := 95)  fl_X8_17 (by first | assumption | rfl | (repeat (first | assumption | exact zup_s | refine zup_g (by decide) ?_))) rfl dX8_lookUp_95 ?_
        refine zr_bipush (pc := 98)  (by decide) dX8_lookUp_98 ?_
        refine zr_aload_n (pc := 100)  (i := 0) rfl rfl dX8_lookUp_100 ?_
        refine zr_get (pc := 101)  fl_X8_30 (by first | assumption | rfl | (repeat (first | assumption | exact zup_s | refine zup_g (by decide) ?_))) rfl dX8_lookUp_101 ?_
        refine zr_iload_n (pc := 104)  (i := 2) rfl rfl dX8_lookUp_104 ?_
        refine zr_iald (pc := 105)  (by first | assumption | rfl | (repeat (first | assumption | exact zup_s | refine zup_g (by decide) ?_))) ⟨by omega, by omega⟩ (by decide) dX8_lookUp_105 ?_
        refine zr_imul (pc := 106)  dX8_lookUp_106 ?_
        refine zr_aload_n (pc := 107)  (i := 0) rfl rfl dX8_lookUp_107 ?_
        refine zr_get (pc := 108)  fl_X8_33 (by first | assumption | rfl | (repeat (first | assumption | exact zup_s | refine zup_g (by decide) ?_))) rfl dX8_lookUp_108 ?_
        refine zr_iload_n (pc := 111)  (i := 2) rfl rfl dX8_lookUp_111 ?_
        refine zr_iald (pc := 112)  (by first | assumption | rfl | (repeat (first | assumption | exact zup_s | refine zup_g (by decide) ?_))) ⟨by omega, by omega⟩ (by decide) dX8_lookUp_112 ?_
        refine zr_iadd (pc := 113)  dX8_lookUp_113 ?_
        refine zr_zald (pc := 114)  (by first | assumption | rfl | (repeat (first | assumption | exact zup_s | refine zup_g (by decide) ?_))) ⟨by omega, by omega⟩ (by decide) dX8_lookUp_114 ?_
        rw [ix]
        refine zr_if_ne (pc := 115)  (tgt := 145) ⟨by omega, by omega⟩ (by decide) dX8_lookUp_115 (fun q115 => ?_) (fun q115 => ?_)
        · try rw [zup_zup]
          refine zs_iinc_2 (pc := 145)  (by first | exact zn_i | exact zn_r | exact zn_0) (by decide) dX8_lookUp_145 ?_
          refine zr_goto (pc := 148)  (tgt := 76) (by decide) dX8_lookUp_148 ?_
          first | exact ih (m + 1) _ x3 (by omega) (by omega) (no (by omega)) | exact ih (m + 1) _ x3 (by omega) (by omega) (ye (by omega))
        · refine zr_aload_n (pc := 118)  (i := 0) rfl rfl dX8_lookUp_118 ?_
          refine zr_get (pc := 119)  fl_X8_45 (by first | assumption | rfl | (repeat (first | assumption | exact zup_s | refine zup_g (by decide) ?_))) rfl dX8_lookUp_119 ?_
          refine zr_bipush (pc := 122)  (by decide) dX8_lookUp_122 ?_
          refine zr_aload_n (pc := 124)  (i := 0) rfl rfl dX8_lookUp_124 ?_
          refine zr_get (pc := 125)  fl_X8_30 (by first | assumption | rfl | (repeat (first | assumption | exact zup_s | refine zup_g (by decide) ?_))) rfl dX8_lookUp_125 ?_
          refine zr_iload_n (pc := 128)  (i := 2) rfl rfl dX8_lookUp_128 ?_
          refine zr_iald (pc := 129)  (by first | assumption | rfl | (repeat (first | assumption | exact zup_s | refine zup_g (by decide) ?_))) ⟨by omega, by omega⟩ (by decide) dX8_lookUp_129 ?_
          refine zr_imul (pc := 130)  dX8_lookUp_130 ?_
          refine zr_aload_n (pc := 131)  (i := 0) rfl rfl dX8_lookUp_131 ?_
          refine zr_get (pc := 132)  fl_X8_33 (by first | assumption | rfl | (repeat (first | assumption | exact zup_s | refine zup_g (by decide) ?_))) rfl dX8_lookUp_132 ?_
          refine zr_iload_n (pc := 135)  (i := 2) rfl rfl dX8_lookUp_135 ?_
          refine zr_iald (pc := 136)  (by first | assumption | rfl | (repeat (first | assumption | exact zup_s | refine zup_g (by decide) ?_))) ⟨by omega, by omega⟩ (by decide) dX8_lookUp_136 ?_
          refine zr_iadd (pc := 137)  dX8_lookUp_137 ?_
          refine zr_aload_n (pc := 138)  (i := 0) rfl rfl dX8_lookUp_138 ?_
          refine zr_get (pc := 139)  fl_X8_39 (by first | assumption | rfl | (repeat (first | assumption | exact zup_s | refine zup_g (by decide) ?_))) rfl dX8_lookUp_139 ?_
          refine zr_iload_n (pc := 142)  (i := 2) rfl rfl dX8_lookUp_142 ?_
          refine zr_iald (pc := 143)  (by first | assumption | rfl | (repeat (first | assumption | exact zup_s | refine zup_g (by decide) ?_))) ⟨by omega, by omega⟩ (by decide) dX8_lookUp_143 ?_
          refine zr_iast (pc := 144)  (by first | assumption | rfl | (repeat (first | assumption | exact zup_s | refine zup_g (by decide) ?_))) ⟨by omega, by omega⟩ (by decide) dX8_lookUp_144 ?_
          try rw [zup_zup]
          refine zs_iinc_2 (pc := 145)  (by first | exact zn_i | exact zn_r | exact zn_0) (by decide) dX8_lookUp_145 ?_
          refine zr_goto (pc := 148)  (tgt := 76) (by decide) dX8_lookUp_148 ?_
          first | exact ih (m + 1) _ x3 (by omega) (by omega) (no (by omega)) | exact ih (m + 1) _ x3 (by omega) (by omega) (ye (by omega))
theorem k_X8_lookUp {t : Int} (m38 : h 38 = some (oMod th len N now al pm pd sq up lw)) (m40 : h 40 = some (aZ 16 rk)) (m41 : h 41 = some (aZ 1344 ap)) (m44 : h 44 = some (aI 16 gr)) (m45 : h 45 = some (aI 600 (fun e => pl e / 84))) (m46 : h 46 = some (aI 600 (fun e => pl e % 84))) (m47 : h 47 = some (aI 600 bt)) (m48 : h 48 = some (aI 600 bc)) {sn0 iw : Int → Int} (m50 : h 50 = some (aI 1344 sn0)) (m51 : h 51 = some (aZ 16 iw)) (hz : ∀ i, iw i = 0 ∨ iw i = 1) (i4 : ∀ i, rk i = 0 ∨ rk i = 1) (i7 : ∀ i, -1 ≤ gr i ∧ gr i < 4) (hN : N ≤ 600) (hp : ∀ e, 0 ≤ pl e ∧ pl e < 1344) (hb : ∀ i, 0 ≤ bt i ∧ bt i ≤ 99) (hc : ∀ i, -1 ≤ bc i ∧ bc i ≤ 50) (i3 : ∀ i, ap i = 0 ∨ ap i = 1) (ht : iR t) (k : ∀ sn iw, lkS (SA ap bc pl bt N t) rk gr sn iw → Post none n (zup (zup h 50 (aI 1344 sn)) 51 (aZ 16 iw))) : zMP G mX8_lookUp [.ref 38, vi t] n h Post := by
  have main : ∀ (k : Nat) (m : Int) (sn : Int → Int) (x3 : Option Value), 16 - m ≤ k → 0 ≤ m → m ≤ 16 → (∀ p, 0 ≤ p → p < 84 * m → rk (p / 84) = 1 → sn p = stZ ap bc pl bt 0 p t) → zAW G mX8_lookUp zTT (zF G mX8_lookUp Post) 2 [some (.ref 38), some (vi t), some (vi m), x3] [] n (zup h 50 (aI 1344 sn)) 0 0 := by
    intro k
    induction k with
    | zero =>
      intro m sn x3 hk h0 hm hsn
      obtain rfl : m = 16 := by omega
      refine zr_iload_n (pc := 2)  (i := 2) rfl rfl dX8_lookUp_2 ?_
      refine zr_bipush (pc := 3)  (by decide) dX8_lookUp_3 ?_
      refine zr_icmp_ge (pc := 5)  (tgt := 74) ⟨by omega, by omega⟩ ⟨by omega, by omega⟩ (by decide) dX8_lookUp_5 (fun q5 => ?_) (fun q5 => ?_)
      · refine zr_iconst (pc := 74)  dX8_lookUp_74 ?_
        refine zs_istore_n_2 (pc := 75)  (by first | exact zn_i | exact zn_r | exact zn_0) (by decide) dX8_lookUp_75 ?_
        exact l_X8_lookUp2 m38 m40 m41 m44 m45 m46 m47 m48 m51 hz i4 i7 hN hp hb hc i3 ht (by assumption) N 0 sn x3 (by omega) (by omega) (fun p a b c => hsn p a (by omega) c)
      · exact absurd q5 (by omega)
    | succ k ih =>
      intro m sn x3 hk h0 hm hsn
      have i4m := i4 m
      have inner : m < 16 → ∀ (k2 : Nat) (d : Int) (sn : Int → Int), 84 - d ≤ k2 → 0 ≤ d → d ≤ 84 → (∀ p, 0 ≤ p → p < 84 * m + d → rk (p / 84) = 1 → sn p = stZ ap bc pl bt 0 p t) → zAW G mX8_lookUp zTT (zF G mX8_lookUp Post) 10 [some (.ref 38), some (vi t), some (vi m), some (vi d)] [] n (zup h 50 (aI 1344 sn)) 0 0 := by
        intro hm16 k2
        induction k2 with
        | zero =>
          intro d sn hk2 d0 d4 hsn
          obtain rfl : d = 84 := by omega
          refine zr_iload_n (pc := 10)  (i := 3) rfl rfl dX8_lookUp_10 ?_
          refine zr_bipush (pc := 11)  (by decide) dX8_lookUp_11 ?_
          refine zr_icmp_ge (pc := 13)  (tgt := 68) ⟨by omega, by omega⟩ ⟨by omega, by omega⟩ (by decide) dX8_lookUp_13 (fun q13 => ?_) (fun q13 => ?_)
          · refine zs_iinc_2 (pc := 68)  (by first | exact zn_i | exact zn_r | exact zn_0) (by decide) dX8_lookUp_68 ?_
            refine zr_goto (pc := 71)  (tgt := 2) (by decide) dX8_lookUp_71 ?_
            exact ih (m + 1) sn _ (by omega) (by omega) (by omega) (fun p a b c => hsn p a (by omega) c)
          · exact absurd q13 (by omega)
        | succ k2 ih2 =>
          intro d sn hk2 d0 d4 hsn
          have i3m := i3 (84 * m + d)
          have nx : d < 84 → ∀ v : Int, (rk m = 1 → v = if ap (84 * m + d) = 1 then -3 else -2) → ∀ p, 0 ≤ p → p < 84 * m + (d + 1) → rk (p / 84) = 1 → uZ sn (84 * m + d) v p = stZ ap bc pl bt 0 p t := fun hd v hv p a b c => by
            by_cases z : p = 84 * m + d
            · rw [z, uZ_s, stZ_0]
              exact hv (by rw [z, show (84 * m + d) / 84 = m by omega] at c; exact c)
            · rw [uZ_n z]; exact hsn p a (by omega) c
          refine zr_iload_n (pc := 10)  (i := 3) rfl rfl dX8_lookUp_10 ?_
          refine zr_bipush (pc := 11)  (by decide) dX8_lookUp_11 ?_
          refine zr_icmp_ge (pc := 13)  (tgt := 68) ⟨by omega, by omega⟩ ⟨by omega, by omega⟩ (by decide) dX8_lookUp_13 (fun q13 => ?_) (fun q13 => ?_)
          · refine zs_iinc_2 (pc := 68)  (by first | exact zn_i | exact zn_r | exact zn_0) (by decide) dX8_lookUp_68 ?_
            refine zr_goto (pc := 71)  (tgt := 2) (by decide) dX8_lookUp_71 ?_
            obtain rfl : d = 84 := by omega
            exact ih (m + 1) sn _ (by omega) (by omega) (by omega) (fun p a b c => hsn p a (by omega) c)
          · refine zr_aload_n (pc := 16)  (i := 0) rfl rfl dX8_lookUp_16 ?_
            refine zr_get (pc := 17)  fl_X8_45 (by first | assumption | rfl | (repeat (first | assumption | exact zup_s | refine zup_g (by decide) ?_))) rfl dX8_lookUp_17 ?_
            refine zr_bipush (pc := 20)  (by decide) dX8_lookUp_20 ?_
            refine zr_iload_n (pc := 22)  (i := 2) rfl rfl dX8_lookUp_22 ?_
            refine zr_imul (pc := 23)  dX8_lookUp_23 ?_
            refine zr_iload_n (pc := 24)  (i := 3) rfl rfl dX8_lookUp_24 ?_
            refine zr_iadd (pc := 25)  dX8_lookUp_25 ?_
            refine zr_aload_n (pc := 26)  (i := 0) rfl rfl dX8_lookUp_26 ?_
            refine zr_get (pc := 27)  fl_X8_13 (by first | assumption | rfl | (repeat (first | assumption | exact zup_s | refine zup_g (by decide) ?_))) rfl dX8_lookUp_27 ?_
            refine zr_iload_n (pc := 30)  (i := 2) rfl rfl dX8_lookUp_30 ?_
            refine zr_zald (pc := 31)  (by first | assumption | rfl | (repeat (first | assumption | exact zup_s | refine zup_g (by decide) ?_))) ⟨by omega, by omega⟩ (by decide) dX8_lookUp_31 ?_
            refine zr_if_eq (pc := 32)  (tgt := 59) ⟨by omega, by omega⟩ (by decide) dX8_lookUp_32 (fun q32 => ?_) (fun q32 => ?_)
            · refine zr_bipush (pc := 59)  (by decide) dX8_lookUp_59 ?_
              refine zr_iast (pc := 61)  (by first | assumption | rfl | (repeat (first | assumption | exact zup_s | refine zup_g (by decide) ?_))) ⟨by omega, by omega⟩ (by decide) dX8_lookUp_61 ?_
              rw [zup_zup]
              refine zs_iinc_3 (pc := 62)  (by first | exact zn_i | exact zn_r | exact zn_0) (by decide) dX8_lookUp_62 ?_
              refine zr_goto (pc := 65)  (tgt := 10) (by decide) dX8_lookUp_65 ?_
              exact ih2 (d + 1) _ (by omega) (by omega) (by omega) (nx (by omega) _ (fun _ => by split <;> omega))
            · refine zr_aload_n (pc := 35)  (i := 0) rfl rfl dX8_lookUp_35 ?_
              refine zr_get (pc := 36)  fl_X8_17 (by first | assumption | rfl | (repeat (first | assumption | exact zup_s | refine zup_g (by decide) ?_))) rfl dX8_lookUp_36 ?_
              refine zr_bipush (pc := 39)  (by decide) dX8_lookUp_39 ?_
              refine zr_iload_n (pc := 41)  (i := 2) rfl rfl dX8_lookUp_41 ?_
              refine zr_imul (pc := 42)  dX8_lookUp_42 ?_
              refine zr_iload_n (pc := 43)  (i := 3) rfl rfl dX8_lookUp_43 ?_
              refine zr_iadd (pc := 44)  dX8_lookUp_44 ?_
              refine zr_zald (pc := 45)  (by first | assumption | rfl | (repeat (first | assumption | exact zup_s | refine zup_g (by decide) ?_))) ⟨by omega, by omega⟩ (by decide) dX8_lookUp_45 ?_
              refine zr_if_eq (pc := 46)  (tgt := 54) ⟨by omega, by omega⟩ (by decide) dX8_lookUp_46 (fun q46 => ?_) (fun q46 => ?_)
              · refine zr_bipush (pc := 54)  (by decide) dX8_lookUp_54 ?_
                refine zr_goto (pc := 56)  (tgt := 61) (by decide) dX8_lookUp_56 ?_
                refine zr_iast (pc := 61)  (by first | assumption | rfl | (repeat (first | assumption | exact zup_s | refine zup_g (by decide) ?_))) ⟨by omega, by omega⟩ (by decide) dX8_lookUp_61 ?_
                rw [zup_zup]
                refine zs_iinc_3 (pc := 62)  (by first | exact zn_i | exact zn_r | exact zn_0) (by decide) dX8_lookUp_62 ?_
                refine zr_goto (pc := 65)  (tgt := 10) (by decide) dX8_lookUp_65 ?_
                exact ih2 (d + 1) _ (by omega) (by omega) (by omega) (nx (by omega) _ (fun _ => by split <;> omega))
              · refine zr_bipush (pc := 49)  (by decide) dX8_lookUp_49 ?_
                refine zr_goto (pc := 51)  (tgt := 61) (by decide) dX8_lookUp_51 ?_
                refine zr_iast (pc := 61)  (by first | assumption | rfl | (repeat (first | assumption | exact zup_s | refine zup_g (by decide) ?_))) ⟨by omega, by omega⟩ (by decide) dX8_lookUp_61 ?_
                rw [zup_zup]
                refine zs_iinc_3 (pc := 62)  (by first | exact zn_i | exact zn_r | exact zn_0) (by decide) dX8_lookUp_62 ?_
                refine zr_goto (pc := 65)  (tgt := 10) (by decide) dX8_lookUp_65 ?_
                exact ih2 (d + 1) _ (by omega) (by omega) (by omega) (nx (by omega) _ (fun _ => by split <;> omega))
      refine zr_iload_n (pc := 2)  (i := 2) rfl rfl dX8_lookUp_2 ?_
      refine zr_bipush (pc := 3)  (by decide) dX8_lookUp_3 ?_
      refine zr_icmp_ge (pc := 5)  (tgt := 74) ⟨by omega, by omega⟩ ⟨by omega, by omega⟩ (by decide) dX8_lookUp_5 (fun q5 => ?_) (fun q5 => ?_)
      · refine zr_iconst (pc := 74)  dX8_lookUp_74 ?_
        refine zs_istore_n_2 (pc := 75)  (by first | exact zn_i | exact zn_r | exact zn_0) (by decide) dX8_lookUp_75 ?_
        obtain rfl : m = 16 := by omega
        exact l_X8_lookUp2 m38 m40 m41 m44 m45 m46 m47 m48 m51 hz i4 i7 hN hp hb hc i3 ht (by assumption) N 0 sn x3 (by omega) (by omega) (fun p a b c => hsn p a (by omega) c)
      · refine zr_iconst (pc := 8)  dX8_lookUp_8 ?_
        refine zs_istore_n_3 (pc := 9)  (by first | exact zn_i | exact zn_r | exact zn_0) (by decide) dX8_lookUp_9 ?_
        exact inner (by omega) 84 0 sn (by omega) (by omega) (by omega) (fun p a b c => hsn p a (by omega) c)
  refine zMP_of (by decide) [some _, some _, none, none] (Nat.le_of_ble_eq_true rfl) rfl ?_
  refine zr_iconst (pc := 0)  dX8_lookUp_0 ?_
  refine zs_istore_n_2 (pc := 1)  (by first | exact zn_i | exact zn_r | exact zn_0) (by decide) dX8_lookUp_1 ?_
  refine zr_heap (show h = zup h 50 (aI 1344 sn0) from (zup_self m50).symm) ?_
  exact main 16 0 sn0 _ (by omega) (by omega) (by omega) (fun p a b c => by omega)
end MOD
