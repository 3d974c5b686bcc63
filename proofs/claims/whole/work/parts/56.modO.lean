/-! the reference's agreed flows -/
def hD (h : zH) (co ma si sh : Int → Int) : zH := zup (zup (zup (zup h 60 (aI 4 co)) 61 (aJ 16 ma)) 62 (aJ 4 si)) 63 (aJ 8 sh)
section HD
variable {h : zH} {co ma si sh g : Int → Int}
theorem hD_60 : zup (hD h co ma si sh) 60 (aI 4 g) = hD h g ma si sh := by
  funext j
  simp only [hD, zup]
  (repeat' split) <;> first | rfl | omega
theorem hD_61 : zup (hD h co ma si sh) 61 (aJ 16 g) = hD h co g si sh := by
  funext j
  simp only [hD, zup]
  (repeat' split) <;> first | rfl | omega
theorem hD_62 : zup (hD h co ma si sh) 62 (aJ 4 g) = hD h co ma g sh := by
  funext j
  simp only [hD, zup]
  (repeat' split) <;> first | rfl | omega
theorem hD_63 : zup (hD h co ma si sh) 63 (aJ 8 g) = hD h co ma si g := by unfold hD; rw [zup_zup]
theorem hD_fr {j : Nat} (hj : j < 60 ∨ 63 < j) : hD h co ma si sh j = h j := by unfold hD; rw [zup_n (by omega), zup_n (by omega), zup_n (by omega), zup_n (by omega)]
end HD
theorem ad1 {f : Int → Int} {e z g : Int} : uZ f e (f e + z) g = f g + (if g = e then z else 0) := by
  unfold uZ
  by_cases q : g = e
  · rw [if_pos q, if_pos q, q]
  · rw [if_neg q, if_neg q, Int.add_zero]
theorem ad2 {f : Int → Int} {e z g : Int} : uZ f e (f e - z) g = f g - (if g = e then z else 0) := by
  unfold uZ
  by_cases q : g = e
  · rw [if_pos q, if_pos q, q]
  · rw [if_neg q, if_neg q, Int.sub_zero]
theorem mx_t {q pc p : Int → Int} {d : Nat} (h : plP q pc d p) (hpo : ∀ c, 4 ≤ c → c < 8 → pc c = -1) {x y dd i j : Int} (hx : 0 ≤ x ∧ x < 8) (hy : 0 ≤ y ∧ y < 8) (hi : 0 ≤ i ∧ i < d) (hj : 0 ≤ j ∧ j < d) : arZ x y dd (p i) (p j) = (if i = pc x ∧ j = pc x then dd else 0) + (if i = pc y ∧ j = pc y then dd else 0) - (if i = pc x ∧ j = pc y then dd else 0) - (if i = pc y ∧ j = pc x then dd else 0) := by
  have key : ∀ x i : Int, 0 ≤ x ∧ x < 8 → 0 ≤ i ∧ i < d → (p i = x ↔ i = pc x) := fun x i hx hi => by
    have hpi := h.2.1 i hi.1 hi.2
    constructor
    · intro e; rw [← e]; exact hpi.2.2.symm
    · intro e
      by_cases z : x < 4
      · by_cases z2 : q x = -2
        · have := h.2.2.2.1 x hx.1 z z2; omega
        · have := (h.2.2.1 x hx.1 z z2).2; rw [← e] at this; exact this
      · have := hpo x (by omega) hx.2; omega
  have p1 := h.2.1 i hi.1 hi.2
  have p2 := h.2.1 j hj.1 hj.2
  have kix := key x i hx hi
  have kiy := key y i hy hi
  have kjx := key x j hx hj
  have kjy := key y j hy hj
  have c1 : (p i = x ∧ p j = x) = (i = pc x ∧ j = pc x) := by rw [propext kix, propext kjx]
  have c2 : (p i = y ∧ p j = y) = (i = pc y ∧ j = pc y) := by rw [propext kiy, propext kjy]
  have c3 : ((x < 4 ∧ y < 4) ∧ (p i = x ∧ p j = y)) = (i = pc x ∧ j = pc y) := propext ⟨fun z => ⟨kix.mp z.2.1, kjy.mp z.2.2⟩, fun z => ⟨⟨by have := kix.mpr z.1; omega, by have := kjy.mpr z.2; omega⟩, kix.mpr z.1, kjy.mpr z.2⟩⟩
  have c5 : ((x < 4 ∧ y < 4) ∧ (p i = y ∧ p j = x)) = (i = pc y ∧ j = pc x) := propext ⟨fun z => ⟨kiy.mp z.2.1, kjx.mp z.2.2⟩, fun z => ⟨⟨by have := kjx.mpr z.2; omega, by have := kiy.mpr z.1; omega⟩, kiy.mpr z.1, kjx.mpr z.2⟩⟩
  unfold arZ
  simp only [c1, c2, c3, c5]
theorem lp_st {fl rs rg db : Int → Int} {m : Nat} {c j : Int} (hj : j < 4) : lpZ fl rs rg db (m + 1) c j = lpZ fl rs rg db m c j + (if fl m = -1 then 0 else arZ (rs m) (rg m) (db m) c j) := by
  unfold lpZ
  rw [if_pos hj, if_pos hj, Int.add_assoc]
  rfl
theorem lp_0 {fl rs rg db : Int → Int} {c j : Int} (hj : j < 4) (hc : 0 ≤ c) : lpZ fl rs rg db 0 c j = 0 := by
  unfold lpZ
  rw [if_pos hj, if_neg (by omega)]
  rfl
theorem lp_c2 {fl fl2 rs rg db db2 : Int → Int} (h : ∀ r, 0 ≤ r → r < 16 → fl r = fl2 r ∧ (fl r ≠ -1 → db r = db2 r)) : lpZ fl rs rg db 16 = lpZ fl2 rs rg db2 16 := by
  funext c j
  unfold lpZ
  rw [sumZ_congr (g := fun r => if fl2 r = -1 then 0 else arZ (rs r) (rg r) (db2 r) c j) 16 (fun r a b => ?_)]
  have e := h r a (by omega)
  by_cases z : fl r = -1
  · rw [if_pos z, if_pos (by rw [← e.1]; exact z)]
  · rw [if_neg z, if_neg (by rw [← e.1]; exact z), e.2 z]
theorem ag_c2 {fl fl2 rs rg db db2 : Int → Int} (h : ∀ r, 0 ≤ r → r < 16 → fl r = fl2 r ∧ (fl r ≠ -1 → db r = db2 r)) : agD fl rs rg db = agD fl2 rs rg db2 ∧ ∀ r, 0 ≤ r → r < 16 → fl r ≠ -1 → agT fl rs rg db r = agT fl2 rs rg db2 r := by
  have e1 := lp_c2 (rs := rs) (rg := rg) h
  have e2 : (fun c => exZ fl rs rg c 16) = fun c => exZ fl2 rs rg c 16 := by
    funext c
    exact exZ_congr (fun r a b => (h r a b).1)
  have eD : agD fl rs rg db = agD fl2 rs rg db2 := by unfold agD; rw [e1]
  refine ⟨eD, fun r a b z => ?_⟩
  have e := h r a b
  unfold agT
  rw [eD, e.1, e.2 z]
  unfold agP
  rw [e1, e2]
section MOD
variable {G : zG} {n : Nat} {h : zH} {Post : Option Value → Nat → zH → Prop} {th len now al pm pd sq up lw : Int} {N : Nat}
variable {fl db rs rg pc p q op : Int → Int} {d : Nat} {r t w : Int}
/-- the table of doubts -/
theorem l_X8_agR {co si sh : Int → Int} (m38 : h 38 = some (oMod th len N now al pm pd sq up lw)) (m42 : h 42 = some (aI 16 rs)) (m43 : h 43 = some (aI 16 rg)) (m57 : h 57 = some (aI 16 fl)) (m58 : h 58 = some (aI 16 db)) (m59 : h 59 = some (aI 8 pc)) (hf : ∀ i, 0 ≤ i → i < 16 → -1 ≤ fl i ∧ fl i ≤ 100000) (hd : ∀ i, 0 ≤ i → i < 16 → fl i ≠ -1 → 1 ≤ db i ∧ db i ≤ 14) (hne : ∀ i, 0 ≤ i → i < 16 → fl i ≠ -1 → rs i ≠ rg i) (hs : ∀ i, 0 ≤ rs i ∧ rs i < 8) (hg : ∀ i, 0 ≤ rg i ∧ rg i < 8) (hpl : plP q pc d p) (hpo : ∀ c, 4 ≤ c → c < 8 → pc c = -1) (kk : ∀ (ma : Int → Int) x7 x8, (∀ i j : Int, 0 ≤ i → i < d → 0 ≤ j → j < d → ma (4 * i + j) = lpZ fl rs rg db 16 (p i) (p j)) → zAW G mX8_agreed zTT (zF G mX8_agreed Post) 257 [some (.ref 38), some (vi r), some (vi t), some (vi w), some (vi 1), some (vi d), some (vi 16), x7, x8] [] n (hD h co ma si sh) 0 0) : ∀ (K m : Nat) (ma : Int → Int) (x7 x8 : Option Value), 16 - m ≤ K → m ≤ 16 → (∀ i j : Int, 0 ≤ i → i < d → 0 ≤ j → j < d → ma (4 * i + j) = lpZ fl rs rg db m (p i) (p j)) → zAW G mX8_agreed zTT (zF G mX8_agreed Post) 97 [some (.ref 38), some (vi r), some (vi t), some (vi w), some (vi 1), some (vi d), some (vi m), x7, x8] [] n (hD h co ma si sh) 0 0 := by
  have hd4 := hpl.1
  have hpR : ∀ c, 0 ≤ c → c < 8 → -2 ≤ pc c ∧ pc c < d := fun c a b => by
    by_cases z : c < 4
    · by_cases z2 : q c = -2
      · have := hpl.2.2.2.1 c a z z2; omega
      · have := (hpl.2.2.1 c a z z2).1; omega
    · have := hpo c (by omega) b; omega
  have hpi : ∀ x y, 0 ≤ x → x < 8 → 0 ≤ y → y < 8 → x ≠ y → 0 ≤ pc x → pc x ≠ pc y := fun x y x0 x8 y0 y8 e z f => by
    have inv : ∀ c, 0 ≤ c → c < 8 → 0 ≤ pc c → p (pc c) = c := fun c a b z => by
      by_cases z1 : c < 4
      · by_cases z2 : q c = -2
        · have := hpl.2.2.2.1 c a z1 z2; omega
        · exact (hpl.2.2.1 c a z1 z2).2
      · have := hpo c (by omega) b; omega
    have i1 := inv x x0 x8 z
    have i2 := inv y y0 y8 (by omega)
    rw [f] at i1
    omega
  intro K
  induction K with
  | zero =>
    intro m ma x7 x8 hK hm hM
    obtain rfl : m = 16 := by omega
    refine zr_iload (pc := 97)  rfl dX8_agreed_97 ?_
    refine zr_bipush (pc := 99)  (by decide) dX8_agreed_99 ?_
    refine zr_icmp_ge (pc := 101)  (tgt := 257) ⟨by omega, by omega⟩ ⟨by omega, by omega⟩ (by decide) dX8_agreed_101 (fun q101 => ?_) (fun q101 => ?_)
    · exact kk ma _ _ hM
    · exact absurd q101 (by omega)
  | succ K ih =>
    intro m ma x7 x8 hK hm hM
    have hsm := hs m
    have hgm := hg m
    have hpx := hpR (rs m) hsm.1 hsm.2
    have hpy := hpR (rg m) hgm.1 hgm.2
    have skp : m < 16 → fl m = -1 → ∀ i j : Int, 0 ≤ i → i < d → 0 ≤ j → j < d → ma (4 * i + j) = lpZ fl rs rg db (m + 1) (p i) (p j) := fun _ z i j a b c e => by
      rw [lp_st (hpl.2.1 j c e).1.2, if_pos z, Int.add_zero]; exact hM i j a b c e
    have stp : m < 16 → fl m ≠ -1 → ∀ X : Int → Int, (∀ i j : Int, 0 ≤ i → i < d → 0 ≤ j → j < d → X (4 * i + j) = ma (4 * i + j) + ((if i = pc (rs m) ∧ j = pc (rs m) then db m else 0) + (if i = pc (rg m) ∧ j = pc (rg m) then db m else 0) - (if i = pc (rs m) ∧ j = pc (rg m) then db m else 0) - (if i = pc (rg m) ∧ j = pc (rs m) then db m else 0))) → ∀ i j : Int, 0 ≤ i → i < d → 0 ≤ j → j < d → X (4 * i + j) = lpZ fl rs rg db (m + 1) (p i) (p j) := fun _ z X hX i j a b c e => by
      rw [lp_st (hpl.2.1 j c e).1.2, if_neg z, mx_t hpl hpo hsm hgm ⟨a, b⟩ ⟨c, e⟩, hX i j a b c e, hM i j a b c e]
    have hxy : m < 16 → fl m ≠ -1 → 0 ≤ pc (rs m) → pc (rs m) ≠ pc (rg m) := fun a z => hpi _ _ hsm.1 hsm.2 hgm.1 hgm.2 (hne m (by omega) (by omega) z)
    refine zr_iload (pc := 97)  rfl dX8_agreed_97 ?_
    refine zr_bipush (pc := 99)  (by decide) dX8_agreed_99 ?_
    refine zr_icmp_ge (pc := 101)  (tgt := 257) ⟨by omega, by omega⟩ ⟨by omega, by omega⟩ (by decide) dX8_agreed_101 (fun q101 => ?_) (fun q101 => ?_)
    · obtain rfl : m = 16 := by omega
      exact kk ma _ _ hM
    · have hfm := hf m (by omega) (by omega)
      refine zr_aload_n (pc := 104)  (i := 0) rfl rfl dX8_agreed_104 ?_
      refine zr_get (pc := 105)  fl_X8_67 (by first | assumption | rfl | (repeat (first | assumption | exact zup_s | refine zup_g (by decide) ?_))) rfl dX8_agreed_105 ?_
      refine zr_iload (pc := 108)  rfl dX8_agreed_108 ?_
      refine zr_iald (pc := 110)  (by first | assumption | rfl | (repeat (first | assumption | exact zup_s | refine zup_g (by decide) ?_))) ⟨by omega, by omega⟩ (by decide) dX8_agreed_110 ?_
      refine zr_if_ge (pc := 111)  (tgt := 117) ⟨by omega, by omega⟩ (by decide) dX8_agreed_111 (fun q111 => ?_) (fun q111 => ?_)
      · have hact : fl m ≠ -1 := by omega
        have hdm := hd m (by omega) (by omega) hact
        have hxy := hxy (by omega) hact
        have stp := stp (by omega) hact
        refine zr_aload_n (pc := 117)  (i := 0) rfl rfl dX8_agreed_117 ?_
        refine zr_get (pc := 118)  fl_X8_73 (by first | assumption | rfl | (repeat (first | assumption | exact zup_s | refine zup_g (by decide) ?_))) rfl dX8_agreed_118 ?_
        refine zr_aload_n (pc := 121)  (i := 0) rfl rfl dX8_agreed_121 ?_
        refine zr_get (pc := 122)  fl_X8_20 (by first | assumption | rfl | (repeat (first | assumption | exact zup_s | refine zup_g (by decide) ?_))) rfl dX8_agreed_122 ?_
        refine zr_iload (pc := 125)  rfl dX8_agreed_125 ?_
        refine zr_iald (pc := 127)  (by first | assumption | rfl | (repeat (first | assumption | exact zup_s | refine zup_g (by decide) ?_))) ⟨by omega, by omega⟩ (by decide) dX8_agreed_127 ?_
        refine zr_iald (pc := 128)  (by first | assumption | rfl | (repeat (first | assumption | exact zup_s | refine zup_g (by decide) ?_))) ⟨by omega, by omega⟩ (by decide) dX8_agreed_128 ?_
        refine zs_istore_7 (pc := 129)  (by first | exact zn_i | exact zn_r | exact zn_0) (by decide) dX8_agreed_129 ?_
        refine zr_aload_n (pc := 131)  (i := 0) rfl rfl dX8_agreed_131 ?_
        refine zr_get (pc := 132)  fl_X8_73 (by first | assumption | rfl | (repeat (first | assumption | exact zup_s | refine zup_g (by decide) ?_))) rfl dX8_agreed_132 ?_
        refine zr_aload_n (pc := 135)  (i := 0) rfl rfl dX8_agreed_135 ?_
        refine zr_get (pc := 136)  fl_X8_24 (by first | assumption | rfl | (repeat (first | assumption | exact zup_s | refine zup_g (by decide) ?_))) rfl dX8_agreed_136 ?_
        refine zr_iload (pc := 139)  rfl dX8_agreed_139 ?_
        refine zr_iald (pc := 141)  (by first | assumption | rfl | (repeat (first | assumption | exact zup_s | refine zup_g (by decide) ?_))) ⟨by omega, by omega⟩ (by decide) dX8_agreed_141 ?_
        refine zr_iald (pc := 142)  (by first | assumption | rfl | (repeat (first | assumption | exact zup_s | refine zup_g (by decide) ?_))) ⟨by omega, by omega⟩ (by decide) dX8_agreed_142 ?_
        refine zs_istore_8 (pc := 143)  (by first | exact zn_i | exact zn_r | exact zn_0) (by decide) dX8_agreed_143 ?_
        refine zr_iload (pc := 145)  rfl dX8_agreed_145 ?_
        refine zr_if_lt (pc := 147)  (tgt := 170) ⟨by omega, by omega⟩ (by decide) dX8_agreed_147 (fun q147 => ?_) (fun q147 => ?_)
        · refine zr_iload (pc := 170)  rfl dX8_agreed_170 ?_
          refine zr_if_lt (pc := 172)  (tgt := 195) ⟨by omega, by omega⟩ (by decide) dX8_agreed_172 (fun q172 => ?_) (fun q172 => ?_)
          · refine zr_iload (pc := 195)  rfl dX8_agreed_195 ?_
            refine zr_if_lt (pc := 197)  (tgt := 251) ⟨by omega, by omega⟩ (by decide) dX8_agreed_197 (fun q197 => ?_) (fun q197 => ?_)
            · refine zs_iinc_6 (pc := 251)  (by first | exact zn_i | exact zn_r | exact zn_0) (by decide) dX8_agreed_251 ?_
              refine zr_goto (pc := 254)  (tgt := 97) (by decide) dX8_agreed_254 ?_
              first | (exfalso; omega) | exact ih (m + 1) _ _ _ (by omega) (by omega) (skp (by omega) (by omega)) | exact ih (m + 1) _ _ _ (by omega) (by omega) (stp _ (fun i j a b c e => by rw [ad2, ad2, ad1, ad1]; have hxy := hxy (by omega); have g1 : (4 * i + j = 5 * pc (rs m)) = (i = pc (rs m) ∧ j = pc (rs m)) := propext ⟨by omega, by omega⟩; have g2 : (4 * i + j = 5 * pc (rg m)) = (i = pc (rg m) ∧ j = pc (rg m)) := propext ⟨by omega, by omega⟩; have g3 : (4 * i + j = 4 * pc (rs m) + pc (rg m)) = (i = pc (rs m) ∧ j = pc (rg m)) := propext ⟨by omega, by omega⟩; have g4 : (4 * i + j = 4 * pc (rg m) + pc (rs m)) = (i = pc (rg m) ∧ j = pc (rs m)) := propext ⟨by omega, by omega⟩; simp only [g1, g2, g3, g4]; omega)) | exact ih (m + 1) _ _ _ (by omega) (by omega) (stp _ (fun i j a b c e => by rw [ad1]; (repeat' split) <;> omega)) | exact ih (m + 1) _ _ _ (by omega) (by omega) (stp _ (fun i j a b c e => by (repeat' split) <;> omega))
            · refine zr_iload (pc := 200)  rfl dX8_agreed_200 ?_
              refine zr_if_lt (pc := 202)  (tgt := 251) ⟨by omega, by omega⟩ (by decide) dX8_agreed_202 (fun q202 => ?_) (fun q202 => ?_)
              · refine zs_iinc_6 (pc := 251)  (by first | exact zn_i | exact zn_r | exact zn_0) (by decide) dX8_agreed_251 ?_
                refine zr_goto (pc := 254)  (tgt := 97) (by decide) dX8_agreed_254 ?_
                first | (exfalso; omega) | exact ih (m + 1) _ _ _ (by omega) (by omega) (skp (by omega) (by omega)) | exact ih (m + 1) _ _ _ (by omega) (by omega) (stp _ (fun i j a b c e => by rw [ad2, ad2, ad1, ad1]; have hxy := hxy (by omega); have g1 : (4 * i + j = 5 * pc (rs m)) = (i = pc (rs m) ∧ j = pc (rs m)) := propext ⟨by omega, by omega⟩; have g2 : (4 * i + j = 5 * pc (rg m)) = (i = pc (rg m) ∧ j = pc (rg m)) := propext ⟨by omega, by omega⟩; have g3 : (4 * i + j = 4 * pc (rs m) + pc (rg m)) = (i = pc (rs m) ∧ j = pc (rg m)) := propext ⟨by omega, by omega⟩; have g4 : (4 * i + j = 4 * pc (rg m) + pc (rs m)) = (i = pc (rg m) ∧ j = pc (rs m)) := propext ⟨by omega, by omega⟩; simp only [g1, g2, g3, g4]; omega)) | exact ih (m + 1) _ _ _ (by omega) (by omega) (stp _ (fun i j a b c e => by rw [ad1]; (repeat' split) <;> omega)) | exact ih (m + 1) _ _ _ (by omega) (by omega) (stp _ (fun i j a b c e => by (repeat' split) <;> omega))
              · refine zr_aload_n (pc := 205)  (i := 0) rfl rfl dX8_agreed_205 ?_
                refine zr_get (pc := 206)  fl_X8_79 (by first | assumption | rfl | (repeat (first | assumption | exact zup_s | refine zup_g (by decide) ?_))) rfl dX8_agreed_206 ?_
                refine zr_iconst (pc := 209)  dX8_agreed_209 ?_
                refine zr_iload (pc := 210)  rfl dX8_agreed_210 ?_
                refine zr_imul (pc := 212)  dX8_agreed_212 ?_
                refine zr_iload (pc := 213)  rfl dX8_agreed_213 ?_
                refine zr_iadd (pc := 215)  dX8_agreed_215 ?_
                first | refine zr_dup2 (pc := 216)  rfl rfl dX8_agreed_216 ?_ | refine zr_dup2L (pc := 216)  rfl dX8_agreed_216 ?_
                refine zr_lald (pc := 217)  (by first | assumption | rfl | (repeat (first | assumption | exact zup_s | refine zup_g (by decide) ?_))) ⟨by omega, by omega⟩ (by decide) dX8_agreed_217 ?_
                refine zr_aload_n (pc := 218)  (i := 0) rfl rfl dX8_agreed_218 ?_
                refine zr_get (pc := 219)  fl_X8_70 (by first | assumption | rfl | (repeat (first | assumption | exact zup_s | refine zup_g (by decide) ?_))) rfl dX8_agreed_219 ?_
                refine zr_iload (pc := 222)  rfl dX8_agreed_222 ?_
                refine zr_iald (pc := 224)  (by first | assumption | rfl | (repeat (first | assumption | exact zup_s | refine zup_g (by decide) ?_))) ⟨by omega, by omega⟩ (by decide) dX8_agreed_224 ?_
                refine zr_i2l (pc := 225)  ⟨by omega, by omega⟩ dX8_agreed_225 ?_
                refine zr_lsub (pc := 226)  dX8_agreed_226 ?_
                refine zr_last (pc := 227)  (by first | assumption | rfl | (repeat (first | assumption | exact zup_s | refine zup_g (by decide) ?_))) ⟨by omega, by omega⟩ (by decide) dX8_agreed_227 ?_
                refine zr_heap hD_61 ?_
                refine zr_aload_n (pc := 228)  (i := 0) rfl rfl dX8_agreed_228 ?_
                refine zr_get (pc := 229)  fl_X8_79 (by first | assumption | rfl | (repeat (first | assumption | exact zup_s | refine zup_g (by decide) ?_))) rfl dX8_agreed_229 ?_
                refine zr_iconst (pc := 232)  dX8_agreed_232 ?_
                refine zr_iload (pc := 233)  rfl dX8_agreed_233 ?_
                refine zr_imul (pc := 235)  dX8_agreed_235 ?_
                refine zr_iload (pc := 236)  rfl dX8_agreed_236 ?_
                refine zr_iadd (pc := 238)  dX8_agreed_238 ?_
                first | refine zr_dup2 (pc := 239)  rfl rfl dX8_agreed_239 ?_ | refine zr_dup2L (pc := 239)  rfl dX8_agreed_239 ?_
                refine zr_lald (pc := 240)  (by first | assumption | rfl | (repeat (first | assumption | exact zup_s | refine zup_g (by decide) ?_))) ⟨by omega, by omega⟩ (by decide) dX8_agreed_240 ?_
                refine zr_aload_n (pc := 241)  (i := 0) rfl rfl dX8_agreed_241 ?_
                refine zr_get (pc := 242)  fl_X8_70 (by first | assumption | rfl | (repeat (first | assumption | exact zup_s | refine zup_g (by decide) ?_))) rfl dX8_agreed_242 ?_
                refine zr_iload (pc := 245)  rfl dX8_agreed_245 ?_
                refine zr_iald (pc := 247)  (by first | assumption | rfl | (repeat (first | assumption | exact zup_s | refine zup_g (by decide) ?_))) ⟨by omega, by omega⟩ (by decide) dX8_agreed_247 ?_
                refine zr_i2l (pc := 248)  ⟨by omega, by omega⟩ dX8_agreed_248 ?_
                refine zr_lsub (pc := 249)  dX8_agreed_249 ?_
                refine zr_last (pc := 250)  (by first | assumption | rfl | (repeat (first | assumption | exact zup_s | refine zup_g (by decide) ?_))) ⟨by omega, by omega⟩ (by decide) dX8_agreed_250 ?_
                refine zr_heap hD_61 ?_
                refine zs_iinc_6 (pc := 251)  (by first | exact zn_i | exact zn_r | exact zn_0) (by decide) dX8_agreed_251 ?_
                refine zr_goto (pc := 254)  (tgt := 97) (by decide) dX8_agreed_254 ?_
                first | (exfalso; omega) | exact ih (m + 1) _ _ _ (by omega) (by omega) (skp (by omega) (by omega)) | exact ih (m + 1) _ _ _ (by omega) (by omega) (stp _ (fun i j a b c e => by rw [ad2, ad2, ad1, ad1]; have hxy := hxy (by omega); have g1 : (4 * i + j = 5 * pc (rs m)) = (i = pc (rs m) ∧ j = pc (rs m)) := propext ⟨by omega, by omega⟩; have g2 : (4 * i + j = 5 * pc (rg m)) = (i = pc (rg m) ∧ j = pc (rg m)) := propext ⟨by omega, by omega⟩; have g3 : (4 * i + j = 4 * pc (rs m) + pc (rg m)) = (i = pc (rs m) ∧ j = pc (rg m)) := propext ⟨by omega, by omega⟩; have g4 : (4 * i + j = 4 * pc (rg m) + pc (rs m)) = (i = pc (rg m) ∧ j = pc (rs m)) := propext ⟨by omega, by omega⟩; simp only [g1, g2, g3, g4]; omega)) | exact ih (m + 1) _ _ _ (by omega) (by omega) (stp _ (fun i j a b c e => by rw [ad1]; (repeat' split) <;> omega)) | exact ih (m + 1) _ _ _ (by omega) (by omega) (stp _ (fun i j a b c e => by (repeat' split) <;> omega))
          · refine zr_aload_n (pc := 175)  (i := 0) rfl rfl dX8_agreed_175 ?_
            refine zr_get (pc := 176)  fl_X8_79 (by first | assumption | rfl | (repeat (first | assumption | exact zup_s | refine zup_g (by decide) ?_))) rfl dX8_agreed_176 ?_
            refine zr_iconst (pc := 179)  dX8_agreed_179 ?_
            refine zr_iload (pc := 180)  rfl dX8_agreed_180 ?_
            refine zr_imul (pc := 182)  dX8_agreed_182 ?_
            first | refine zr_dup2 (pc := 183)  rfl rfl dX8_agreed_183 ?_ | refine zr_dup2L (pc := 183)  rfl dX8_agreed_183 ?_
            refine zr_lald (pc := 184)  (by first | assumption | rfl | (repeat (first | assumption | exact zup_s | refine zup_g (by decide) ?_))) ⟨by omega, by omega⟩ (by decide) dX8_agreed_184 ?_
            refine zr_aload_n (pc := 185)  (i := 0) rfl rfl dX8_agreed_185 ?_
            refine zr_get (pc := 186)  fl_X8_70 (by first | assumption | rfl | (repeat (first | assumption | exact zup_s | refine zup_g (by decide) ?_))) rfl dX8_agreed_186 ?_
            refine zr_iload (pc := 189)  rfl dX8_agreed_189 ?_
            refine zr_iald (pc := 191)  (by first | assumption | rfl | (repeat (first | assumption | exact zup_s | refine zup_g (by decide) ?_))) ⟨by omega, by omega⟩ (by decide) dX8_agreed_191 ?_
            refine zr_i2l (pc := 192)  ⟨by omega, by omega⟩ dX8_agreed_192 ?_
            refine zr_ladd (pc := 193)  dX8_agreed_193 ?_
            refine zr_last (pc := 194)  (by first | assumption | rfl | (repeat (first | assumption | exact zup_s | refine zup_g (by decide) ?_))) ⟨by omega, by omega⟩ (by decide) dX8_agreed_194 ?_
            refine zr_heap hD_61 ?_
            refine zr_iload (pc := 195)  rfl dX8_agreed_195 ?_
            refine zr_if_lt (pc := 197)  (tgt := 251) ⟨by omega, by omega⟩ (by decide) dX8_agreed_197 (fun q197 => ?_) (fun q197 => ?_)
            · refine zs_iinc_6 (pc := 251)  (by first | exact zn_i | exact zn_r | exact zn_0) (by decide) dX8_agreed_251 ?_
              refine zr_goto (pc := 254)  (tgt := 97) (by decide) dX8_agreed_254 ?_
              first | (exfalso; omega) | exact ih (m + 1) _ _ _ (by omega) (by omega) (skp (by omega) (by omega)) | exact ih (m + 1) _ _ _ (by omega) (by omega) (stp _ (fun i j a b c e => by rw [ad2, ad2, ad1, ad1]; have hxy := hxy (by omega); have g1 : (4 * i + j = 5 * pc (rs m)) = (i = pc (rs m) ∧ j = pc (rs m)) := propext ⟨by omega, by omega⟩; have g2 : (4 * i + j = 5 * pc (rg m)) = (i = pc (rg m) ∧ j = pc (rg m)) := propext ⟨by omega, by omega⟩; have g3 : (4 * i + j = 4 * pc (rs m) + pc (rg m)) = (i = pc (rs m) ∧ j = pc (rg m)) := propext ⟨by omega, by omega⟩; have g4 : (4 * i + j = 4 * pc (rg m) + pc (rs m)) = (i = pc (rg m) ∧ j = pc (rs m)) := propext ⟨by omega, by omega⟩; simp only [g1, g2, g3, g4]; omega)) | exact ih (m + 1) _ _ _ (by omega) (by omega) (stp _ (fun i j a b c e => by rw [ad1]; (repeat' split) <;> omega)) | exact ih (m + 1) _ _ _ (by omega) (by omega) (stp _ (fun i j a b c e => by (repeat' split) <;> omega))
            · refine zr_iload (pc := 200)  rfl dX8_agreed_200 ?_
              refine zr_if_lt (pc := 202)  (tgt := 251) ⟨by omega, by omega⟩ (by decide) dX8_agreed_202 (fun q202 => ?_) (fun q202 => ?_)
              · refine zs_iinc_6 (pc := 251)  (by first | exact zn_i | exact zn_r | exact zn_0) (by decide) dX8_agreed_251 ?_
                refine zr_goto (pc := 254)  (tgt := 97) (by decide) dX8_agreed_254 ?_
                first | (exfalso; omega) | exact ih (m + 1) _ _ _ (by omega) (by omega) (skp (by omega) (by omega)) | exact ih (m + 1) _ _ _ (by omega) (by omega) (stp _ (fun i j a b c e => by rw [ad2, ad2, ad1, ad1]; have hxy := hxy (by omega); have g1 : (4 * i + j = 5 * pc (rs m)) = (i = pc (rs m) ∧ j = pc (rs m)) := propext ⟨by omega, by omega⟩; have g2 : (4 * i + j = 5 * pc (rg m)) = (i = pc (rg m) ∧ j = pc (rg m)) := propext ⟨by omega, by omega⟩; have g3 : (4 * i + j = 4 * pc (rs m) + pc (rg m)) = (i = pc (rs m) ∧ j = pc (rg m)) := propext ⟨by omega, by omega⟩; have g4 : (4 * i + j = 4 * pc (rg m) + pc (rs m)) = (i = pc (rg m) ∧ j = pc (rs m)) := propext ⟨by omega, by omega⟩; simp only [g1, g2, g3, g4]; omega)) | exact ih (m + 1) _ _ _ (by omega) (by omega) (stp _ (fun i j a b c e => by rw [ad1]; (repeat' split) <;> omega)) | exact ih (m + 1) _ _ _ (by omega) (by omega) (stp _ (fun i j a b c e => by (repeat' split) <;> omega))
              · refine zr_aload_n (pc := 205)  (i := 0) rfl rfl dX8_agreed_205 ?_
                refine zr_get (pc := 206)  fl_X8_79 (by first | assumption | rfl | (repeat (first | assumption | exact zup_s | refine zup_g (by decide) ?_))) rfl dX8_agreed_206 ?_
                refine zr_iconst (pc := 209)  dX8_agreed_209 ?_
                refine zr_iload (pc := 210)  rfl dX8_agreed_210 ?_
                refine zr_imul (pc := 212)  dX8_agreed_212 ?_
                refine zr_iload (pc := 213)  rfl dX8_agreed_213 ?_
                refine zr_iadd (pc := 215)  dX8_agreed_215 ?_
                first | refine zr_dup2 (pc := 216)  rfl rfl dX8_agreed_216 ?_ | refine zr_dup2L (pc := 216)  rfl dX8_agreed_216 ?_
                refine zr_lald (pc := 217)  (by first | assumption | rfl | (repeat (first | assumption | exact zup_s | refine zup_g (by decide) ?_))) ⟨by omega, by omega⟩ (by decide) dX8_agreed_217 ?_
                refine zr_aload_n (pc := 218)  (i := 0) rfl rfl dX8_agreed_218 ?_
                refine zr_get (pc := 219)  fl_X8_70 (by first | assumption | rfl | (repeat (first | assumption | exact zup_s | refine zup_g (by decide) ?_))) rfl dX8_agreed_219 ?_
                refine zr_iload (pc := 222)  rfl dX8_agreed_222 ?_
                refine zr_iald (pc := 224)  (by first | assumption | rfl | (repeat (first | assumption | exact zup_s | refine zup_g (by decide) ?_))) ⟨by omega, by omega⟩ (by decide) dX8_agreed_224 ?_
                refine zr_i2l (pc := 225)  ⟨by omega, by omega⟩ dX8_agreed_225 ?_
                refine zr_lsub (pc := 226)  dX8_agreed_226 ?_
                refine zr_last (pc := 227)  (by first | assumption | rfl | (repeat (first | assumption | exact zup_s | refine zup_g (by decide) ?_))) ⟨by omega, by omega⟩ (by decide) dX8_agreed_227 ?_
                refine zr_heap hD_61 ?_
                refine zr_aload_n (pc := 228)  (i := 0) rfl rfl dX8_agreed_228 ?_
                refine zr_get (pc := 229)  fl_X8_79 (by first | assumption | rfl | (repeat (first | assumption | exact zup_s | refine zup_g (by decide) ?_))) rfl dX8_agreed_229 ?_
                refine zr_iconst (pc := 232)  dX8_agreed_232 ?_
                refine zr_iload (pc := 233)  rfl dX8_agreed_233 ?_
                refine zr_imul (pc := 235)  dX8_agreed_235 ?_
                refine zr_iload (pc := 236)  rfl dX8_agreed_236 ?_
                refine zr_iadd (pc := 238)  dX8_agreed_238 ?_
                first | refine zr_dup2 (pc := 239)  rfl rfl dX8_agreed_239 ?_ | refine zr_dup2L (pc := 239)  rfl dX8_agreed_239 ?_
                refine zr_lald (pc := 240)  (by first | assumption | rfl | (repeat (first | assumption | exact zup_s | refine zup_g (by decide) ?_))) ⟨by omega, by omega⟩ (by decide) dX8_agreed_240 ?_
                refine zr_aload_n (pc := 241)  (i := 0) rfl rfl dX8_agreed_241 ?_
                refine zr_get (pc := 242)  fl_X8_70 (by first | assumption | rfl | (repeat (first | assumption | exact zup_s | refine zup_g (by decide) ?_))) rfl dX8_agreed_242 ?_
                refine zr_iload (pc := 245)  rfl dX8_agreed_245 ?_
                refine zr_iald (pc := 247)  (by first | assumption | rfl | (repeat (first | assumption | exact zup_s | refine zup_g (by decide) ?_))) ⟨by omega, by omega⟩ (by decide) dX8_agreed_247 ?_
                refine zr_i2l (pc := 248)  ⟨by omega, by omega⟩ dX8_agreed_248 ?_
                refine zr_lsub (pc := 249)  dX8_agreed_249 ?_
                refine zr_last (pc := 250)  (by first | assumption | rfl | (repeat (first | assumption | exact zup_s | refine zup_g (by decide) ?_))) ⟨by omega, by omega⟩ (by decide) dX8_agreed_250 ?_
                refine zr_heap hD_61 ?_
                refine zs_iinc_6 (pc := 251)  (by first | exact zn_i | exact zn_r | exact zn_0) (by decide) dX8_agreed_251 ?_
                refine zr_goto (pc := 254)  (tgt := 97) (by decide) dX8_agreed_254 ?_
                first | (exfalso; omega) | exact ih (m + 1) _ _ _ (by omega) (by omega) (skp (by omega) (by omega)) | exact ih (m + 1) _ _ _ (by omega) (by omega) (stp _ (fun i j a b c e => by rw [ad2, ad2, ad1, ad1]; have hxy := hxy (by omega); have g1 : (4 * i + j = 5 * pc (rs m)) = (i = pc (rs m) ∧ j = pc (rs m)) := propext ⟨by omega, by omega⟩; have g2 : (4 * i + j = 5 * pc (rg m)) = (i = pc (rg m) ∧ j = pc (rg m)) := propext ⟨by omega, by omega⟩; have g3 : (4 * i + j = 4 * pc (rs m) + pc (rg m)) = (i = pc (rs m) ∧ j = pc (rg m)) := propext ⟨by omega, by omega⟩; have g4 : (4 * i + j = 4 * pc (rg m) + pc (rs m)) = (i = pc (rg m) ∧ j = pc (rs m)) := propext ⟨by omega, by omega⟩; simp only [g1, g2, g3, g4]; omega)) | exact ih (m + 1) _ _ _ (by omega) (by omega) (stp _ (fun i j a b c e => by rw [ad1]; (repeat' split) <;> omega)) | exact ih (m + 1) _ _ _ (by omega) (by omega) (stp _ (fun i j a b c e => by (repeat' split) <;> omega))
        · refine zr_aload_n (pc := 150)  (i := 0) rfl rfl dX8_agreed_150 ?_
          refine zr_get (pc := 151)  fl_X8_79 (by first | assumption | rfl | (repeat (first | assumption | exact zup_s | refine zup_g (by decide) ?_))) rfl dX8_agreed_151 ?_
          refine zr_iconst (pc := 154)  dX8_agreed_154 ?_
          refine zr_iload (pc := 155)  rfl dX8_agreed_155 ?_
          refine zr_imul (pc := 157)  dX8_agreed_157 ?_
          first | refine zr_dup2 (pc := 158)  rfl rfl dX8_agreed_158 ?_ | refine zr_dup2L (pc := 158)  rfl dX8_agreed_158 ?_
          refine zr_lald (pc := 159)  (by first | assumption | rfl | (repeat (first | assumption | exact zup_s | refine zup_g (by decide) ?_))) ⟨by omega, by omega⟩ (by decide) dX8_agreed_159 ?_
          refine zr_aload_n (pc := 160)  (i := 0) rfl rfl dX8_agreed_160 ?_
          refine zr_get (pc := 161)  fl_X8_70 (by first | assumption | rfl | (repeat (first | assumption | exact zup_s | refine zup_g (by decide) ?_))) rfl dX8_agreed_161 ?_
          refine zr_iload (pc := 164)  rfl dX8_agreed_164 ?_
          refine zr_iald (pc := 166)  (by first | assumption | rfl | (repeat (first | assumption | exact zup_s | refine zup_g (by decide) ?_))) ⟨by omega, by omega⟩ (by decide) dX8_agreed_166 ?_
          refine zr_i2l (pc := 167)  ⟨by omega, by omega⟩ dX8_agreed_167 ?_
          refine zr_ladd (pc := 168)  dX8_agreed_168 ?_
          refine zr_last (pc := 169)  (by first | assumption | rfl | (repeat (first | assumption | exact zup_s | refine zup_g (by decide) ?_))) ⟨by omega, by omega⟩ (by decide) dX8_agreed_169 ?_
          refine zr_heap hD_61 ?_
          refine zr_iload (pc := 170)  rfl dX8_agreed_170 ?_
          refine zr_if_lt (pc := 172)  (tgt := 195) ⟨by omega, by omega⟩ (by decide) dX8_agreed_172 (fun q172 => ?_) (fun q172 => ?_)
          · refine zr_iload (pc := 195)  rfl dX8_agreed_195 ?_
            refine zr_if_lt (pc := 197)  (tgt := 251) ⟨by omega, by omega⟩ (by decide) dX8_agreed_197 (fun q197 => ?_) (fun q197 => ?_)
            · refine zs_iinc_6 (pc := 251)  (by first | exact zn_i | exact zn_r | exact zn_0) (by decide) dX8_agreed_251 ?_
              refine zr_goto (pc := 254)  (tgt := 97) (by decide) dX8_agreed_254 ?_
              first | (exfalso; omega) | exact ih (m + 1) _ _ _ (by omega) (by omega) (skp (by omega) (by omega)) | exact ih (m + 1) _ _ _ (by omega) (by omega) (stp _ (fun i j a b c e => by rw [ad2, ad2, ad1, ad1]; have hxy := hxy (by omega); have g1 : (4 * i + j = 5 * pc (rs m)) = (i = pc (rs m) ∧ j = pc (rs m)) := propext ⟨by omega, by omega⟩; have g2 : (4 * i + j = 5 * pc (rg m)) = (i = pc (rg m) ∧ j = pc (rg m)) := propext ⟨by omega, by omega⟩; have g3 : (4 * i + j = 4 * pc (rs m) + pc (rg m)) = (i = pc (rs m) ∧ j = pc (rg m)) := propext ⟨by omega, by omega⟩; have g4 : (4 * i + j = 4 * pc (rg m) + pc (rs m)) = (i = pc (rg m) ∧ j = pc (rs m)) := propext ⟨by omega, by omega⟩; simp only [g1, g2, g3, g4]; omega)) | exact ih (m + 1) _ _ _ (by omega) (by omega) (stp _ (fun i j a b c e => by rw [ad1]; (repeat' split) <;> omega)) | exact ih (m + 1) _ _ _ (by omega) (by omega) (stp _ (fun i j a b c e => by (repeat' split) <;> omega))
            · refine zr_iload (pc := 200)  rfl dX8_agreed_200 ?_
              refine zr_if_lt (pc := 202)  (tgt := 251) ⟨by omega, by omega⟩ (by decide) dX8_agreed_202 (fun q202 => ?_) (fun q202 => ?_)
              · refine zs_iinc_6 (pc := 251)  (by first | exact zn_i | exact zn_r | exact zn_0) (by decide) dX8_agreed_251 ?_
                refine zr_goto (pc := 254)  (tgt := 97) (by decide) dX8_agreed_254 ?_
                first | (exfalso; omega) | exact ih (m + 1) _ _ _ (by omega) (by omega) (skp (by omega) (by omega)) | exact ih (m + 1) _ _ _ (by omega) (by omega) (stp _ (fun i j a b c e => by rw [ad2, ad2, ad1, ad1]; have hxy := hxy (by omega); have g1 : (4 * i + j = 5 * pc (rs m)) = (i = pc (rs m) ∧ j = pc (rs m)) := propext ⟨by omega, by omega⟩; have g2 : (4 * i + j = 5 * pc (rg m)) = (i = pc (rg m) ∧ j = pc (rg m)) := propext ⟨by omega, by omega⟩; have g3 : (4 * i + j = 4 * pc (rs m) + pc (rg m)) = (i = pc (rs m) ∧ j = pc (rg m)) := propext ⟨by omega, by omega⟩; have g4 : (4 * i + j = 4 * pc (rg m) + pc (rs m)) = (i = pc (rg m) ∧ j = pc (rs m)) := propext ⟨by omega, by omega⟩; simp only [g1, g2, g3, g4]; omega)) | exact ih (m + 1) _ _ _ (by omega) (by omega) (stp _ (fun i j a b c e => by rw [ad1]; (repeat' split) <;> omega)) | exact ih (m + 1) _ _ _ (by omega) (by omega) (stp _ (fun i j a b c e => by (repeat' split) <;> omega))
              · refine zr_aload_n (pc := 205)  (i := 0) rfl rfl dX8_agreed_205 ?_
                refine zr_get (pc := 206)  fl_X8_79 (by first | assumption | rfl | (repeat (first | assumption | exact zup_s | refine zup_g (by decide) ?_))) rfl dX8_agreed_206 ?_
                refine zr_iconst (pc := 209)  dX8_agreed_209 ?_
                refine zr_iload (pc := 210)  rfl dX8_agreed_210 ?_
                refine zr_imul (pc := 212)  dX8_agreed_212 ?_
                refine zr_iload (pc := 213)  rfl dX8_agreed_213 ?_
                refine zr_iadd (pc := 215)  dX8_agreed_215 ?_
                first | refine zr_dup2 (pc := 216)  rfl rfl dX8_agreed_216 ?_ | refine zr_dup2L (pc := 216)  rfl dX8_agreed_216 ?_
                refine zr_lald (pc := 217)  (by first | assumption | rfl | (repeat (first | assumption | exact zup_s | refine zup_g (by decide) ?_))) ⟨by omega, by omega⟩ (by decide) dX8_agreed_217 ?_
                refine zr_aload_n (pc := 218)  (i := 0) rfl rfl dX8_agreed_218 ?_
                refine zr_get (pc := 219)  fl_X8_70 (by first | assumption | rfl | (repeat (first | assumption | exact zup_s | refine zup_g (by decide) ?_))) rfl dX8_agreed_219 ?_
                refine zr_iload (pc := 222)  rfl dX8_agreed_222 ?_
                refine zr_iald (pc := 224)  (by first | assumption | rfl | (repeat (first | assumption | exact zup_s | refine zup_g (by decide) ?_))) ⟨by omega, by omega⟩ (by decide) dX8_agreed_224 ?_
                refine zr_i2l (pc := 225)  ⟨by omega, by omega⟩ dX8_agreed_225 ?_
                refine zr_lsub (pc := 226)  dX8_agreed_226 ?_
                refine zr_last (pc := 227)  (by first | assumption | rfl | (repeat (first | assumption | exact zup_s | refine zup_g (by decide) ?_))) ⟨by omega, by omega⟩ (by decide) dX8_agreed_227 ?_
                refine zr_heap hD_61 ?_
                refine zr_aload_n (pc := 228)  (i := 0) rfl rfl dX8_agreed_228 ?_
                refine zr_get (pc := 229)  fl_X8_79 (by first | assumption | rfl | (repeat (first | assumption | exact zup_s | refine zup_g (by decide) ?_))) rfl dX8_agreed_229 ?_
                refine zr_iconst (pc := 232)  dX8_agreed_232 ?_
                refine zr_iload (pc := 233)  rfl dX8_agreed_233 ?_
                refine zr_imul (pc := 235)  dX8_agreed_235 ?_
                refine zr_iload (pc := 236)  rfl dX8_agreed_236 ?_
                refine zr_iadd (pc := 238)  dX8_agreed_238 ?_
                first | refine zr_dup2 (pc := 239)  rfl rfl dX8_agreed_239 ?_ | refine zr_dup2L (pc := 239)  rfl dX8_agreed_239 ?_
                refine zr_lald (pc := 240)  (by first | assumption | rfl | (repeat (first | assumption | exact zup_s | refine zup_g (by decide) ?_))) ⟨by omega, by omega⟩ (by decide) dX8_agreed_240 ?_
                refine zr_aload_n (pc := 241)  (i := 0) rfl rfl dX8_agreed_241 ?_
                refine zr_get (pc := 242)  fl_X8_70 (by first | assumption | rfl | (repeat (first | assumption | exact zup_s | refine zup_g (by decide) ?_))) rfl dX8_agreed_242 ?_
                refine zr_iload (pc := 245)  rfl dX8_agreed_245 ?_
                refine zr_iald (pc := 247)  (by first | assumption | rfl | (repeat (first | assumption | exact zup_s | refine zup_g (by decide) ?_))) ⟨by omega, by omega⟩ (by decide) dX8_agreed_247 ?_
                refine zr_i2l (pc := 248)  ⟨by omega, by omega⟩ dX8_agreed_248 ?_
                refine zr_lsub (pc := 249)  dX8_agreed_249 ?_
                refine zr_last (pc := 250)  (by first | assumption | rfl | (repeat (first | assumption | exact zup_s | refine zup_g (by decide) ?_))) ⟨by omega, by omega⟩ (by decide) dX8_agreed_250 ?_
                refine zr_heap hD_61 ?_
                refine zs_iinc_6 (pc := 251)  (by first | exact zn_i | exact zn_r | exact zn_0) (by decide) dX8_agreed_251 ?_
                refine zr_goto (pc := 254)  (tgt := 97) (by decide) dX8_agreed_254 ?_
                first | (exfalso; omega) | exact ih (m + 1) _ _ _ (by omega) (by omega) (skp (by omega) (by omega)) | exact ih (m + 1) _ _ _ (by omega) (by omega) (stp _ (fun i j a b c e => by rw [ad2, ad2, ad1, ad1]; have hxy := hxy (by omega); have g1 : (4 * i + j = 5 * pc (rs m)) = (i = pc (rs m) ∧ j = pc (rs m)) := propext ⟨by omega, by omega⟩; have g2 : (4 * i + j = 5 * pc (rg m)) = (i = pc (rg m) ∧ j = pc (rg m)) := propext ⟨by omega, by omega⟩; have g3 : (4 * i + j = 4 * pc (rs m) + pc (rg m)) = (i = pc (rs m) ∧ j = pc (rg m)) := propext ⟨by omega, by omega⟩; have g4 : (4 * i + j = 4 * pc (rg m) + pc (rs m)) = (i = pc (rg m) ∧ j = pc (rs m)) := propext ⟨by omega, by omega⟩; simp only [g1, g2, g3, g4]; omega)) | exact ih (m + 1) _ _ _ (by omega) (by omega) (stp _ (fun i j a b c e => by rw [ad1]; (repeat' split) <;> omega)) | exact ih (m + 1) _ _ _ (by omega) (by omega) (stp _ (fun i j a b c e => by (repeat' split) <;> omega))
          · refine zr_aload_n (pc := 175)  (i := 0) rfl rfl dX8_agreed_175 ?_
            refine zr_get (pc := 176)  fl_X8_79 (by first | assumption | rfl | (repeat (first | assumption | exact zup_s | refine zup_g (by decide) ?_))) rfl dX8_agreed_176 ?_
            refine zr_iconst (pc := 179)  dX8_agreed_179 ?_
            refine zr_iload (pc := 180)  rfl dX8_agreed_180 ?_
            refine zr_imul (pc := 182)  dX8_agreed_182 ?_
            first | refine zr_dup2 (pc := 183)  rfl rfl dX8_agreed_183 ?_ | refine zr_dup2L (pc := 183)  rfl dX8_agreed_183 ?_
            refine zr_lald (pc := 184)  (by first | assumption | rfl | (repeat (first | assumption | exact zup_s | refine zup_g (by decide) ?_))) ⟨by omega, by omega⟩ (by decide) dX8_agreed_184 ?_
            refine zr_aload_n (pc := 185)  (i := 0) rfl rfl dX8_agreed_185 ?_
            refine zr_get (pc := 186)  fl_X8_70 (by first | assumption | rfl | (repeat (first | assumption | exact zup_s | refine zup_g (by decide) ?_))) rfl dX8_agreed_186 ?_
            refine zr_iload (pc := 189)  rfl dX8_agreed_189 ?_
            refine zr_iald (pc := 191)  (by first | assumption | rfl | (repeat (first | assumption | exact zup_s | refine zup_g (by decide) ?_))) ⟨by omega, by omega⟩ (by decide) dX8_agreed_191 ?_
            refine zr_i2l (pc := 192)  ⟨by omega, by omega⟩ dX8_agreed_192 ?_
            refine zr_ladd (pc := 193)  dX8_agreed_193 ?_
            refine zr_last (pc := 194)  (by first | assumption | rfl | (repeat (first | assumption | exact zup_s | refine zup_g (by decide) ?_))) ⟨by omega, by omega⟩ (by decide) dX8_agreed_194 ?_
            refine zr_heap hD_61 ?_
            refine zr_iload (pc := 195)  rfl dX8_agreed_195 ?_
            refine zr_if_lt (pc := 197)  (tgt := 251) ⟨by omega, by omega⟩ (by decide) dX8_agreed_197 (fun q197 => ?_) (fun q197 => ?_)
            · refine zs_iinc_6 (pc := 251)  (by first | exact zn_i | exact zn_r | exact zn_0) (by decide) dX8_agreed_251 ?_
              refine zr_goto (pc := 254)  (tgt := 97) (by decide) dX8_agreed_254 ?_
              first | (exfalso; omega) | exact ih (m + 1) _ _ _ (by omega) (by omega) (skp (by omega) (by omega)) | exact ih (m + 1) _ _ _ (by omega) (by omega) (stp _ (fun i j a b c e => by rw [ad2, ad2, ad1, ad1]; have hxy := hxy (by omega); have g1 : (4 * i + j = 5 * pc (rs m)) = (i = pc (rs m) ∧ j = pc (rs m)) := propext ⟨by omega, by omega⟩; have g2 : (4 * i + j = 5 * pc (rg m)) = (i = pc (rg m) ∧ j = pc (rg m)) := propext ⟨by omega, by omega⟩; have g3 : (4 * i + j = 4 * pc (rs m) + pc (rg m)) = (i = pc (rs m) ∧ j = pc (rg m)) := propext ⟨by omega, by omega⟩; have g4 : (4 * i + j = 4 * pc (rg m) + pc (rs m)) = (i = pc (rg m) ∧ j = pc (rs m)) := propext ⟨by omega, by omega⟩; simp only [g1, g2, g3, g4]; omega)) | exact ih (m + 1) _ _ _ (by omega) (by omega) (stp _ (fun i j a b c e => by rw [ad1]; (repeat' split) <;> omega)) | exact ih (m + 1) _ _ _ (by omega) (by omega) (stp _ (fun i j a b c e => by (repeat' split) <;> omega))
            · refine zr_iload (pc := 200)  rfl dX8_agreed_200 ?_
              refine zr_if_lt (pc := 202)  (tgt := 251) ⟨by omega, by omega⟩ (by decide) dX8_agreed_202 (fun q202 => ?_) (fun q202 => ?_)
              · refine zs_iinc_6 (pc := 251)  (by first | exact zn_i | exact zn_r | exact zn_0) (by decide) dX8_agreed_251 ?_
                refine zr_goto (pc := 254)  (tgt := 97) (by decide) dX8_agreed_254 ?_
                first | (exfalso; omega) | exact ih (m + 1) _ _ _ (by omega) (by omega) (skp (by omega) (by omega)) | exact ih (m + 1) _ _ _ (by omega) (by omega) (stp _ (fun i j a b c e => by rw [ad2, ad2, ad1, ad1]; have hxy := hxy (by omega); have g1 : (4 * i + j = 5 * pc (rs m)) = (i = pc (rs m) ∧ j = pc (rs m)) := propext ⟨by omega, by omega⟩; have g2 : (4 * i + j = 5 * pc (rg m)) = (i = pc (rg m) ∧ j = pc (rg m)) := propext ⟨by omega, by omega⟩; have g3 : (4 * i + j = 4 * pc (rs m) + pc (rg m)) = (i = pc (rs m) ∧ j = pc (rg m)) := propext ⟨by omega, by omega⟩; have g4 : (4 * i + j = 4 * pc (rg m) + pc (rs m)) = (i = pc (rg m) ∧ j = pc (rs m)) := propext ⟨by omega, by omega⟩; simp only [g1, g2, g3, g4]; omega)) | exact ih (m + 1) _ _ _ (by omega) (by omega) (stp _ (fun i j a b c e => by rw [ad1]; (repeat' split) <;> omega)) | exact ih (m + 1) _ _ _ (by omega) (by omega) (stp _ (fun i j a b c e => by (repeat' split) <;> omega))
              · refine zr_aload_n (pc := 205)  (i := 0) rfl rfl dX8_agreed_205 ?_
                refine zr_get (pc := 206)  fl_X8_79 (by first | assumption | rfl | (repeat (first | assumption | exact zup_s | refine zup_g (by decide) ?_))) rfl dX8_agreed_206 ?_
                refine zr_iconst (pc := 209)  dX8_agreed_209 ?_
                refine zr_iload (pc := 210)  rfl dX8_agreed_210 ?_
                refine zr_imul (pc := 212)  dX8_agreed_212 ?_
                refine zr_iload (pc := 213)  rfl dX8_agreed_213 ?_
                refine zr_iadd (pc := 215)  dX8_agreed_215 ?_
                first | refine zr_dup2 (pc := 216)  rfl rfl dX8_agreed_216 ?_ | refine zr_dup2L (pc := 216)  rfl dX8_agreed_216 ?_
                refine zr_lald (pc := 217)  (by first | assumption | rfl | (repeat (first | assumption | exact zup_s | refine zup_g (by decide) ?_))) ⟨by omega, by omega⟩ (by decide) dX8_agreed_217 ?_
                refine zr_aload_n (pc := 218)  (i := 0) rfl rfl dX8_agreed_218 ?_
                refine zr_get (pc := 219)  fl_X8_70 (by first | assumption | rfl | (repeat (first | assumption | exact zup_s | refine zup_g (by decide) ?_))) rfl dX8_agreed_219 ?_
                refine zr_iload (pc := 222)  rfl dX8_agreed_222 ?_
                refine zr_iald (pc := 224)  (by first | assumption | rfl | (repeat (first | assumption | exact zup_s | refine zup_g (by decide) ?_))) ⟨by omega, by omega⟩ (by decide) dX8_agreed_224 ?_
                refine zr_i2l (pc := 225)  ⟨by omega, by omega⟩ dX8_agreed_225 ?_
                refine zr_lsub (pc := 226)  dX8_agreed_226 ?_
                refine zr_last (pc := 227)  (by first | assumption | rfl | (repeat (first | assumption | exact zup_s | refine zup_g (by decide) ?_))) ⟨by omega, by omega⟩ (by decide) dX8_agreed_227 ?_
                refine zr_heap hD_61 ?_
                refine zr_aload_n (pc := 228)  (i := 0) rfl rfl dX8_agreed_228 ?_
                refine zr_get (pc := 229)  fl_X8_79 (by first | assumption | rfl | (repeat (first | assumption | exact zup_s | refine zup_g (by decide) ?_))) rfl dX8_agreed_229 ?_
                refine zr_iconst (pc := 232)  dX8_agreed_232 ?_
                refine zr_iload (pc := 233)  rfl dX8_agreed_233 ?_
                refine zr_imul (pc := 235)  dX8_agreed_235 ?_
                refine zr_iload (pc := 236)  rfl dX8_agreed_236 ?_
                refine zr_iadd (pc := 238)  dX8_agreed_238 ?_
                first | refine zr_dup2 (pc := 239)  rfl rfl dX8_agreed_239 ?_ | refine zr_dup2L (pc := 239)  rfl dX8_agreed_239 ?_
                refine zr_lald (pc := 240)  (by first | assumption | rfl | (repeat (first | assumption | exact zup_s | refine zup_g (by decide) ?_))) ⟨by omega, by omega⟩ (by decide) dX8_agreed_240 ?_
                refine zr_aload_n (pc := 241)  (i := 0) rfl rfl dX8_agreed_241 ?_
                refine zr_get (pc := 242)  fl_X8_70 (by first | assumption | rfl | (repeat (first | assumption | exact zup_s | refine zup_g (by decide) ?_))) rfl dX8_agreed_242 ?_
                refine zr_iload (pc := 245)  rfl dX8_agreed_245 ?_
                refine zr_iald (pc := 247)  (by first | assumption | rfl | (repeat (first | assumption | exact zup_s | refine zup_g (by decide) ?_))) ⟨by omega, by omega⟩ (by decide) dX8_agreed_247 ?_
                refine zr_i2l (pc := 248)  ⟨by omega, by omega⟩ dX8_agreed_248 ?_
                refine zr_lsub (pc := 249)  dX8_agreed_249 ?_
                refine zr_last (pc := 250)  (by first | assumption | rfl | (repeat (first | assumption | exact zup_s | refine zup_g (by decide) ?_))) ⟨by omega, by omega⟩ (by decide) dX8_agreed_250 ?_
                refine zr_heap hD_61 ?_
                refine zs_iinc_6 (pc := 251)  (by first | exact zn_i | exact zn_r | exact zn_0) (by decide) dX8_agreed_251 ?_
                refine zr_goto (pc := 254)  (tgt := 97) (by decide) dX8_agreed_254 ?_
                first | (exfalso; omega) | exact ih (m + 1) _ _ _ (by omega) (by omega) (skp (by omega) (by omega)) | exact ih (m + 1) _ _ _ (by omega) (by omega) (stp _ (fun i j a b c e => by rw [ad2, ad2, ad1, ad1]; have hxy := hxy (by omega); have g1 : (4 * i + j = 5 * pc (rs m)) = (i = pc (rs m) ∧ j = pc (rs m)) := propext ⟨by omega, by omega⟩; have g2 : (4 * i + j = 5 * pc (rg m)) = (i = pc (rg m) ∧ j = pc (rg m)) := propext ⟨by omega, by omega⟩; have g3 : (4 * i + j = 4 * pc (rs m) + pc (rg m)) = (i = pc (rs m) ∧ j = pc (rg m)) := propext ⟨by omega, by omega⟩; have g4 : (4 * i + j = 4 * pc (rg m) + pc (rs m)) = (i = pc (rg m) ∧ j = pc (rs m)) := propext ⟨by omega, by omega⟩; simp only [g1, g2, g3, g4]; omega)) | exact ih (m + 1) _ _ _ (by omega) (by omega) (stp _ (fun i j a b c e => by rw [ad1]; (repeat' split) <;> omega)) | exact ih (m + 1) _ _ _ (by omega) (by omega) (stp _ (fun i j a b c e => by (repeat' split) <;> omega))
      · refine zr_goto (pc := 114)  (tgt := 251) (by decide) dX8_agreed_114 ?_
        refine zs_iinc_6 (pc := 251)  (by first | exact zn_i | exact zn_r | exact zn_0) (by decide) dX8_agreed_251 ?_
        refine zr_goto (pc := 254)  (tgt := 97) (by decide) dX8_agreed_254 ?_
        first | (exfalso; omega) | exact ih (m + 1) _ _ _ (by omega) (by omega) (skp (by omega) (by omega)) | exact ih (m + 1) _ _ _ (by omega) (by omega) (stp _ (fun i j a b c e => by rw [ad2, ad2, ad1, ad1]; have hxy := hxy (by omega); have g1 : (4 * i + j = 5 * pc (rs m)) = (i = pc (rs m) ∧ j = pc (rs m)) := propext ⟨by omega, by omega⟩; have g2 : (4 * i + j = 5 * pc (rg m)) = (i = pc (rg m) ∧ j = pc (rg m)) := propext ⟨by omega, by omega⟩; have g3 : (4 * i + j = 4 * pc (rs m) + pc (rg m)) = (i = pc (rs m) ∧ j = pc (rg m)) := propext ⟨by omega, by omega⟩; have g4 : (4 * i + j = 4 * pc (rg m) + pc (rs m)) = (i = pc (rg m) ∧ j = pc (rs m)) := propext ⟨by omega, by omega⟩; simp only [g1, g2, g3, g4]; omega)) | exact ih (m + 1) _ _ _ (by omega) (by omega) (stp _ (fun i j a b c e => by rw [ad1]; (repeat' split) <;> omega)) | exact ih (m + 1) _ _ _ (by omega) (by omega) (stp _ (fun i j a b c e => by (repeat' split) <;> omega))
end MOD
