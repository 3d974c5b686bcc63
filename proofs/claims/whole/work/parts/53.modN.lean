/-! which crossings are set down as the ground -/
def hC (h : zH) (op pc : Int → Int) : zH := zup (zup h 64 (aZ 8 op)) 59 (aI 8 pc)
section HC
variable {h : zH} {op op2 pc pc2 : Int → Int}
theorem hC_64 : zup (hC h op pc) 64 (aZ 8 op2) = hC h op2 pc := by
  funext j
  simp only [hC, zup]
  (repeat' split) <;> first | rfl | omega
theorem hC_59 : zup (hC h op pc) 59 (aI 8 pc2) = hC h op pc2 := by unfold hC; rw [zup_zup]
theorem hC_fr {j : Nat} (hj : j ≠ 59 ∧ j ≠ 64) : hC h op pc j = h j := by unfold hC; rw [zup_n (by omega), zup_n (by omega)]
end HC
def chS (fl rs rg q : Int → Int) (m : Int) (op : Int → Int) : Prop := (∀ u, csZ fl rs rg u → (∀ c, 4 ≤ c → c < 8 → u c = 0) → (∀ c, 0 ≤ c → c < m → q c = -2 → u c = 0) → ∀ c, 0 ≤ c → c < 8 → op c = 1 → u c = 0) ∧ ∀ c, 0 ≤ c → c < m → q c = -2 → ∃ K, csZ fl rs rg K ∧ (∀ x, 4 ≤ x → x < 8 → K x = 0) ∧ K c = 1 ∧ ∀ g, 0 ≤ g → g < c → q g = -2 → K g = 0
def chI (fl rs rg : Int → Int) (m : Int) (op q : Int → Int) : Prop := opB op ∧ (∀ c, 4 ≤ c → c < 8 → op c = 1) ∧ (∀ c, 0 ≤ c → c < m → op c = 1) ∧ (∀ c, m ≤ c → c < 8 → q c = -1) ∧ (∀ c, 0 ≤ c → c < m → q c = -1 ∨ q c = -2) ∧ chS fl rs rg q m op
section CH
variable {fl rs rg op op2 q : Int → Int} {m : Int}
theorem chI_a (h : chI fl rs rg m op q) (hm : 0 ≤ m ∧ m < 4) (hb : opB op2) (hmo : ∀ c, 0 ≤ c → c < 8 → op c ≤ op2 c) (hso : soZ fl rs rg op op2) (ho : op2 m = 1) : chI fl rs rg (m + 1) op2 q := by
  obtain ⟨h1, h2, h3, h4, h5, h6, h7⟩ := h
  have up : ∀ c, 0 ≤ c → c < 8 → op c = 1 → op2 c = 1 := fun c a b z => by have := hmo c a b; have := hb c; omega
  refine ⟨hb, fun c a b => up c (by omega) b (h2 c a b), fun c a b => ?_, fun c a b => h4 c (by omega) b, fun c a b => ?_, fun u hu hz hq => hso u hu (h6 u hu hz (fun c a b => hq c a (by omega))), fun c a b hc => ?_⟩
  · by_cases e : c = m
    · rw [e]; exact ho
    · exact up c a (by omega) (h3 c a (by omega))
  · by_cases e : c = m
    · rw [e]; exact Or.inl (h4 m (by omega) (by omega))
    · exact h5 c a (by omega)
  · by_cases e : c = m
    · have := h4 c (by omega) (by omega); omega
    · exact h7 c a (by omega) hc
theorem chI_b (h : chI fl rs rg m op q) (hm : 0 ≤ m ∧ m < 4) (hb : opB op2) (hmo : ∀ c, 0 ≤ c → c < 8 → op c ≤ op2 c) (hcs : csZ fl rs rg op2) (hso : soZ fl rs rg op op2) (ho : op2 m = 0) : chI fl rs rg (m + 1) (uZ op2 m 1) (uZ q m (-2)) := by
  obtain ⟨h1, h2, h3, h4, h5, h6, h7⟩ := h
  have up : ∀ c, 0 ≤ c → c < 8 → op c = 1 → op2 c = 1 := fun c a b z => by have := hmo c a b; have := hb c; omega
  refine ⟨fun c => ?_, fun c a b => ?_, fun c a b => ?_, fun c a b => ?_, fun c a b => ?_, fun u hu hz hq c a b hc => ?_, fun c a b hc => ?_⟩
  · by_cases e : c = m
    · rw [e, uZ_s]; exact Or.inr rfl
    · rw [uZ_n e]; exact hb c
  · rw [uZ_n (by omega)]; exact up c (by omega) b (h2 c a b)
  · by_cases e : c = m
    · rw [e, uZ_s]
    · rw [uZ_n e]; exact up c a (by omega) (h3 c a (by omega))
  · rw [uZ_n (by omega)]; exact h4 c (by omega) b
  · by_cases e : c = m
    · rw [e, uZ_s]; exact Or.inr rfl
    · rw [uZ_n e]; exact h5 c a (by omega)
  · by_cases e : c = m
    · rw [e]; exact hq m (by omega) (by omega) uZ_s
    · rw [uZ_n e] at hc
      exact hso u hu (h6 u hu hz (fun x y z w => hq x y (by omega) (by rw [uZ_n (by omega)]; exact w))) c a b hc
  · by_cases e : c = m
    · refine ⟨fun x => 1 - op2 x, fun r x y z => by show 1 - op2 (rs r) = 1 - op2 (rg r); rw [hcs r x y z], fun x y z => by show 1 - op2 x = 0; rw [up x (by omega) z (h2 x y z)]; rfl, by show 1 - op2 c = 1; rw [e, ho]; rfl, fun g x y _ => by show 1 - op2 g = 0; rw [up g x (by omega) (h3 g x (by omega))]; rfl⟩
    · rw [uZ_n e] at hc
      obtain ⟨K, k1, k2, k3, k4⟩ := h7 c a (by omega) hc
      exact ⟨K, k1, k2, k3, fun g x y z => k4 g x y (by rw [uZ_n (by omega)] at z; exact z)⟩
end CH
def nbZ (q : Int → Int) (m : Nat) : Int := sumZ (fun i => if q i = -2 then 0 else 1) m
section MOD
variable {G : zG} {n : Nat} {h : zH} {Post : Option Value → Nat → zH → Prop} {th len now al pm pd sq up lw : Int} {N : Nat}
variable {fl rs rg : Int → Int}
theorem l_X8_choose4 {q op : Int → Int} (m38 : h 38 = some (oMod th len N now al pm pd sq up lw)) (hq : ∀ c, 0 ≤ c → c < 4 → q c = -1 ∨ q c = -2) (hq4 : ∀ c, 4 ≤ c → c < 8 → q c = -1) (kk : ∀ pc, (∀ c : Nat, c < 4 → pc c = if q c = -2 then -2 else nbZ q c) → (∀ c, 4 ≤ c → c < 8 → pc c = -1) → Post (some (vi (nbZ q 4))) n (hC h op pc)) : ∀ (K m : Nat) (nn : Int) (pc : Int → Int), 4 - m ≤ K → m ≤ 4 → nn = nbZ q m → (0 ≤ nn ∧ nn ≤ m) → (∀ c : Nat, c < m → pc c = if q c = -2 then -2 else nbZ q c) → (∀ c, (m : Int) ≤ c → c < 8 → pc c = q c) → zAW G mX8_choose zTT (zF G mX8_choose Post) 103 [some (.ref 38), some (vi nn), some (vi m)] [] n (hC h op pc) 0 0 := by
  intro K
  induction K with
  | zero =>
    intro m nn pc hK hm hn hR h1 h2
    obtain rfl : m = 4 := by omega
    have kk := kk pc h1 (fun c a b => (h2 c (by omega) b).trans (hq4 c a b))
    rw [← hn] at kk
    refine zr_iload_n (pc := 103)  (i := 2) rfl rfl dX8_choose_103 ?_
    refine zr_iconst (pc := 104)  dX8_choose_104 ?_
    refine zr_icmp_ge (pc := 105)  (tgt := 138) ⟨by omega, by omega⟩ ⟨by omega, by omega⟩ (by decide) dX8_choose_105 (fun q105 => ?_) (fun q105 => ?_)
    · refine zr_iload_n (pc := 138)  (i := 1) rfl rfl dX8_choose_138 ?_
      refine zr_ireturn (pc := 139)  rfl (by decide) (by decide) dX8_choose_139 ?_
      exact kk
    · exact absurd q105 (by omega)
  | succ K ih =>
    intro m nn pc hK hm hn hR h1 h2
    have es : nbZ q (m + 1) = nn + (if q m = -2 then 0 else 1) := by rw [hn]; rfl
    have h2m := h2 m (by omega) (by omega)
    have hqm := hq m
    refine zr_iload_n (pc := 103)  (i := 2) rfl rfl dX8_choose_103 ?_
    refine zr_iconst (pc := 104)  dX8_choose_104 ?_
    refine zr_icmp_ge (pc := 105)  (tgt := 138) ⟨by omega, by omega⟩ ⟨by omega, by omega⟩ (by decide) dX8_choose_105 (fun q105 => ?_) (fun q105 => ?_)
    · refine zr_iload_n (pc := 138)  (i := 1) rfl rfl dX8_choose_138 ?_
      refine zr_ireturn (pc := 139)  rfl (by decide) (by decide) dX8_choose_139 ?_
      obtain rfl : m = 4 := by omega
      have kk := kk pc h1 (fun c a b => (h2 c (by omega) b).trans (hq4 c a b))
      rw [← hn] at kk
      exact kk
    · have hqm := hqm (by omega) (by omega)
      refine zr_aload_n (pc := 108)  (i := 0) rfl rfl dX8_choose_108 ?_
      refine zr_get (pc := 109)  fl_X8_73 (by first | assumption | rfl | (repeat (first | assumption | exact zup_s | refine zup_g (by decide) ?_))) rfl dX8_choose_109 ?_
      refine zr_iload_n (pc := 112)  (i := 2) rfl rfl dX8_choose_112 ?_
      refine zr_iald (pc := 113)  (by first | assumption | rfl | (repeat (first | assumption | exact zup_s | refine zup_g (by decide) ?_))) ⟨by omega, by omega⟩ (by decide) dX8_choose_113 ?_
      refine zr_bipush (pc := 114)  (by decide) dX8_choose_114 ?_
      refine zr_icmp_ne (pc := 116)  (tgt := 122) ⟨by omega, by omega⟩ ⟨by omega, by omega⟩ (by decide) dX8_choose_116 (fun q116 => ?_) (fun q116 => ?_)
      · refine zr_aload_n (pc := 122)  (i := 0) rfl rfl dX8_choose_122 ?_
        refine zr_get (pc := 123)  fl_X8_73 (by first | assumption | rfl | (repeat (first | assumption | exact zup_s | refine zup_g (by decide) ?_))) rfl dX8_choose_123 ?_
        refine zr_iload_n (pc := 126)  (i := 2) rfl rfl dX8_choose_126 ?_
        refine zr_iload_n (pc := 127)  (i := 1) rfl rfl dX8_choose_127 ?_
        refine zr_iast (pc := 128)  (by first | assumption | rfl | (repeat (first | assumption | exact zup_s | refine zup_g (by decide) ?_))) ⟨by omega, by omega⟩ (by decide) dX8_choose_128 ?_
        refine zr_heap hC_59 ?_
        refine zs_iinc_1 (pc := 129)  (by first | exact zn_i | exact zn_r | exact zn_0) (by decide) dX8_choose_129 ?_
        refine zs_iinc_2 (pc := 132)  (by first | exact zn_i | exact zn_r | exact zn_0) (by decide) dX8_choose_132 ?_
        refine zr_goto (pc := 135)  (tgt := 103) (by decide) dX8_choose_135 ?_
        first | exact ih (m + 1) nn pc (by omega) (by omega) (by rw [es, if_pos (by omega)]; omega) (by omega) (fun c b => by by_cases e : c = m; (rw [e, if_pos (by omega)]; omega); exact h1 c (by omega)) (fun c a b => h2 c (by omega) b) | exact ih (m + 1) (nn + 1) (uZ pc m nn) (by omega) (by omega) (by rw [es, if_neg (by omega)]) (by omega) (fun c b => by by_cases e : c = m; (rw [e, uZ_s, if_neg (by omega)]; exact hn); (rw [uZ_n (by omega)]; exact h1 c (by omega))) (fun c a b => by rw [uZ_n (by omega)]; exact h2 c (by omega) b)
      · refine zr_goto (pc := 119)  (tgt := 132) (by decide) dX8_choose_119 ?_
        refine zs_iinc_2 (pc := 132)  (by first | exact zn_i | exact zn_r | exact zn_0) (by decide) dX8_choose_132 ?_
        refine zr_goto (pc := 135)  (tgt := 103) (by decide) dX8_choose_135 ?_
        first | exact ih (m + 1) nn pc (by omega) (by omega) (by rw [es, if_pos (by omega)]; omega) (by omega) (fun c b => by by_cases e : c = m; (rw [e, if_pos (by omega)]; omega); exact h1 c (by omega)) (fun c a b => h2 c (by omega) b) | exact ih (m + 1) (nn + 1) (uZ pc m nn) (by omega) (by omega) (by rw [es, if_neg (by omega)]) (by omega) (fun c b => by by_cases e : c = m; (rw [e, uZ_s, if_neg (by omega)]; exact hn); (rw [uZ_n (by omega)]; exact h1 c (by omega))) (fun c a b => by rw [uZ_n (by omega)]; exact h2 c (by omega) b)
theorem l_X8_choose3 (m38 : h 38 = some (oMod th len N now al pm pd sq up lw)) (m42 : h 42 = some (aI 16 rs)) (m43 : h 43 = some (aI 16 rg)) (m57 : h 57 = some (aI 16 fl)) (hf : ∀ i, 0 ≤ i → i < 16 → -1 ≤ fl i ∧ fl i ≤ 100000) (hs : ∀ i, 0 ≤ rs i ∧ rs i < 8) (hg : ∀ i, 0 ≤ rg i ∧ rg i < 8) (kk : ∀ op q, chI fl rs rg 4 op q → ∀ op2, opB op2 → zAW G mX8_choose zTT (zF G mX8_choose Post) 103 [some (.ref 38), some (vi 0), some (vi 0)] [] n (hC h op2 q) 0 0) : ∀ (K : Nat) (m : Int) (op q : Int → Int), 4 - m ≤ K → 0 ≤ m → m ≤ 4 → chI fl rs rg m op q → zAW G mX8_choose zTT (zF G mX8_choose Post) 55 [some (.ref 38), some (vi 0), some (vi m)] [] n (hC h op q) 0 0 := by
  intro K
  induction K with
  | zero =>
    intro m op q hK h0 hm hI
    obtain rfl : m = 4 := by omega
    refine zr_iload_n (pc := 55)  (i := 2) rfl rfl dX8_choose_55 ?_
    refine zr_iconst (pc := 56)  dX8_choose_56 ?_
    refine zr_icmp_ge (pc := 57)  (tgt := 97) ⟨by omega, by omega⟩ ⟨by omega, by omega⟩ (by decide) dX8_choose_57 (fun q57 => ?_) (fun q57 => ?_)
    · refine zr_aload_n (pc := 97)  (i := 0) rfl rfl dX8_choose_97 ?_
      refine zv_call0 (pc := 98)  cv_X8_choose_209 (by first | assumption | rfl | (repeat (first | assumption | exact zup_s | refine zup_g (by decide) ?_))) ⟨_, rfl, rfl⟩ (Nat.le_of_ble_eq_true rfl) (by decide) dX8_choose_98 ?_
      refine k_X8_spread m38 m42 m43 m57 rfl hf hs hg hI.1 (fun op2 ob _ _ _ => ?_)
      rw [hC_64]
      dsimp only [Option.toList, List.cons_append, List.nil_append]
      refine zr_iconst (pc := 101)  dX8_choose_101 ?_
      refine zs_istore_n_2 (pc := 102)  (by first | exact zn_i | exact zn_r | exact zn_0) (by decide) dX8_choose_102 ?_
      exact kk op q hI op2 ob
    · exact absurd q57 (by omega)
  | succ K ih =>
    intro m op q hK h0 hm hI
    refine zr_iload_n (pc := 55)  (i := 2) rfl rfl dX8_choose_55 ?_
    refine zr_iconst (pc := 56)  dX8_choose_56 ?_
    refine zr_icmp_ge (pc := 57)  (tgt := 97) ⟨by omega, by omega⟩ ⟨by omega, by omega⟩ (by decide) dX8_choose_57 (fun q57 => ?_) (fun q57 => ?_)
    · refine zr_aload_n (pc := 97)  (i := 0) rfl rfl dX8_choose_97 ?_
      refine zv_call0 (pc := 98)  cv_X8_choose_209 (by first | assumption | rfl | (repeat (first | assumption | exact zup_s | refine zup_g (by decide) ?_))) ⟨_, rfl, rfl⟩ (Nat.le_of_ble_eq_true rfl) (by decide) dX8_choose_98 ?_
      refine k_X8_spread m38 m42 m43 m57 rfl hf hs hg hI.1 (fun op2 ob _ _ _ => ?_)
      rw [hC_64]
      dsimp only [Option.toList, List.cons_append, List.nil_append]
      refine zr_iconst (pc := 101)  dX8_choose_101 ?_
      refine zs_istore_n_2 (pc := 102)  (by first | exact zn_i | exact zn_r | exact zn_0) (by decide) dX8_choose_102 ?_
      obtain rfl : m = 4 := by omega
      exact kk op q hI op2 ob
    · refine zr_aload_n (pc := 60)  (i := 0) rfl rfl dX8_choose_60 ?_
      refine zv_call0 (pc := 61)  cv_X8_choose_209 (by first | assumption | rfl | (repeat (first | assumption | exact zup_s | refine zup_g (by decide) ?_))) ⟨_, rfl, rfl⟩ (Nat.le_of_ble_eq_true rfl) (by decide) dX8_choose_61 ?_
      refine k_X8_spread m38 m42 m43 m57 rfl hf hs hg hI.1 (fun op2 a1 a2 a3 a4 => ?_)
      rw [hC_64]
      have hom := a1 m
      have a1' : ∀ i, op2 i = 0 ∨ op2 i = 1 := a1
      dsimp only [Option.toList, List.cons_append, List.nil_append]
      refine zr_aload_n (pc := 64)  (i := 0) rfl rfl dX8_choose_64 ?_
      refine zr_get (pc := 65)  fl_X8_88 (by first | assumption | rfl | (repeat (first | assumption | exact zup_s | refine zup_g (by decide) ?_))) rfl dX8_choose_65 ?_
      refine zr_iload_n (pc := 68)  (i := 2) rfl rfl dX8_choose_68 ?_
      refine zr_zald (pc := 69)  (by first | assumption | rfl | (repeat (first | assumption | exact zup_s | refine zup_g (by decide) ?_))) ⟨by omega, by omega⟩ (by decide) dX8_choose_69 ?_
      refine zr_if_eq (pc := 70)  (tgt := 76) ⟨by omega, by omega⟩ (by decide) dX8_choose_70 (fun q70 => ?_) (fun q70 => ?_)
      · refine zr_aload_n (pc := 76)  (i := 0) rfl rfl dX8_choose_76 ?_
        refine zr_get (pc := 77)  fl_X8_88 (by first | assumption | rfl | (repeat (first | assumption | exact zup_s | refine zup_g (by decide) ?_))) rfl dX8_choose_77 ?_
        refine zr_iload_n (pc := 80)  (i := 2) rfl rfl dX8_choose_80 ?_
        refine zr_iconst (pc := 81)  dX8_choose_81 ?_
        refine zr_zast (pc := 82)  (by first | assumption | rfl | (repeat (first | assumption | exact zup_s | refine zup_g (by decide) ?_))) ⟨by omega, by omega⟩ (by decide) (by omega) dX8_choose_82 ?_
        refine zr_heap hC_64 ?_
        refine zr_aload_n (pc := 83)  (i := 0) rfl rfl dX8_choose_83 ?_
        refine zr_get (pc := 84)  fl_X8_73 (by first | assumption | rfl | (repeat (first | assumption | exact zup_s | refine zup_g (by decide) ?_))) rfl dX8_choose_84 ?_
        refine zr_iload_n (pc := 87)  (i := 2) rfl rfl dX8_choose_87 ?_
        refine zr_bipush (pc := 88)  (by decide) dX8_choose_88 ?_
        refine zr_iast (pc := 90)  (by first | assumption | rfl | (repeat (first | assumption | exact zup_s | refine zup_g (by decide) ?_))) ⟨by omega, by omega⟩ (by decide) dX8_choose_90 ?_
        refine zr_heap hC_59 ?_
        refine zs_iinc_2 (pc := 91)  (by first | exact zn_i | exact zn_r | exact zn_0) (by decide) dX8_choose_91 ?_
        refine zr_goto (pc := 94)  (tgt := 55) (by decide) dX8_choose_94 ?_
        first | exact ih (m + 1) _ _ (by omega) (by omega) (by omega) (chI_a hI (by omega) a1 a2 a4 (by omega)) | exact ih (m + 1) _ _ (by omega) (by omega) (by omega) (chI_b hI (by omega) a1 a2 a3 a4 (by omega))
      · refine zr_goto (pc := 73)  (tgt := 91) (by decide) dX8_choose_73 ?_
        refine zs_iinc_2 (pc := 91)  (by first | exact zn_i | exact zn_r | exact zn_0) (by decide) dX8_choose_91 ?_
        refine zr_goto (pc := 94)  (tgt := 55) (by decide) dX8_choose_94 ?_
        first | exact ih (m + 1) _ _ (by omega) (by omega) (by omega) (chI_a hI (by omega) a1 a2 a4 (by omega)) | exact ih (m + 1) _ _ (by omega) (by omega) (by omega) (chI_b hI (by omega) a1 a2 a3 a4 (by omega))
theorem k_X8_choose {op0 pc0 : Int → Int} (m38 : h 38 = some (oMod th len N now al pm pd sq up lw)) (m42 : h 42 = some (aI 16 rs)) (m43 : h 43 = some (aI 16 rg)) (m57 : h 57 = some (aI 16 fl)) (m64 : h 64 = some (aZ 8 op0)) (m59 : h 59 = some (aI 8 pc0)) (hf : ∀ i, 0 ≤ i → i < 16 → -1 ≤ fl i ∧ fl i ≤ 100000) (hs : ∀ i, 0 ≤ rs i ∧ rs i < 8) (hg : ∀ i, 0 ≤ rg i ∧ rg i < 8) (ho0 : opB op0) (k : ∀ op op2 q pc, opB op2 → chI fl rs rg 4 op q → (∀ c : Nat, c < 4 → pc c = if q c = -2 then -2 else nbZ q c) → (∀ c, 4 ≤ c → c < 8 → pc c = -1) → Post (some (vi (nbZ q 4))) n (hC h op2 pc)) : zMP G mX8_choose [.ref 38] n h Post := by
  have e55 : ∀ op q : Int → Int, chI fl rs rg 0 op q → zAW G mX8_choose zTT (zF G mX8_choose Post) 55 [some (.ref 38), some (vi 0), some (vi 0)] [] n (hC h op q) 0 0 := fun op q hI => l_X8_choose3 m38 m42 m43 m57 hf hs hg (fun op q hI op2 ob => l_X8_choose4 m38 hI.2.2.2.2.1 hI.2.2.2.1 (fun pc a b => k op op2 q pc ob hI a b) 4 0 0 q (by omega) (by omega) rfl (by omega) (fun c b => by omega) (fun _ _ _ => rfl)) 4 0 op q (by omega) (by omega) (by omega) hI
  have l2 : ∀ (K : Nat) (m : Int) (op q : Int → Int), 8 - m ≤ K → 0 ≤ m → m ≤ 8 → opB op → (∀ c, 0 ≤ c → c < 8 → op c = if 4 ≤ c then 1 else 0) → (∀ c, 0 ≤ c → c < m → q c = -1) → zAW G mX8_choose zTT (zF G mX8_choose Post) 34 [some (.ref 38), some (vi 0), some (vi m)] [] n (hC h op q) 0 0 := by
    have fin : ∀ op q : Int → Int, opB op → (∀ c, 0 ≤ c → c < 8 → op c = if 4 ≤ c then 1 else 0) → (∀ c, 0 ≤ c → c < 8 → q c = -1) → chI fl rs rg 0 op q := fun op q hB ho hq => ⟨hB, fun c a b => by rw [ho c (by omega) b, if_pos a], fun c a b => by omega, hq, fun c a b => by omega, fun u _ hz _ c a b hc => by
      by_cases e : 4 ≤ c
      · exact hz c e b
      · rw [ho c a b, if_neg e] at hc; omega, fun c a b => by omega⟩
    intro K
    induction K with
    | zero =>
      intro m op q hK h0 hm hB ho hq
      obtain rfl : m = 8 := by omega
      refine zr_iload_n (pc := 34)  (i := 2) rfl rfl dX8_choose_34 ?_
      refine zr_bipush (pc := 35)  (by decide) dX8_choose_35 ?_
      refine zr_icmp_ge (pc := 37)  (tgt := 53) ⟨by omega, by omega⟩ ⟨by omega, by omega⟩ (by decide) dX8_choose_37 (fun q37 => ?_) (fun q37 => ?_)
      · refine zr_iconst (pc := 53)  dX8_choose_53 ?_
        refine zs_istore_n_2 (pc := 54)  (by first | exact zn_i | exact zn_r | exact zn_0) (by decide) dX8_choose_54 ?_
        exact e55 op q (fin op q hB ho hq)
      · exact absurd q37 (by omega)
    | succ K ih =>
      intro m op q hK h0 hm hB ho hq
      refine zr_iload_n (pc := 34)  (i := 2) rfl rfl dX8_choose_34 ?_
      refine zr_bipush (pc := 35)  (by decide) dX8_choose_35 ?_
      refine zr_icmp_ge (pc := 37)  (tgt := 53) ⟨by omega, by omega⟩ ⟨by omega, by omega⟩ (by decide) dX8_choose_37 (fun q37 => ?_) (fun q37 => ?_)
      · refine zr_iconst (pc := 53)  dX8_choose_53 ?_
        refine zs_istore_n_2 (pc := 54)  (by first | exact zn_i | exact zn_r | exact zn_0) (by decide) dX8_choose_54 ?_
        exact e55 op q (fin op q hB ho (fun c a b => hq c a (by omega)))
      · refine zr_aload_n (pc := 40)  (i := 0) rfl rfl dX8_choose_40 ?_
        refine zr_get (pc := 41)  fl_X8_73 (by first | assumption | rfl | (repeat (first | assumption | exact zup_s | refine zup_g (by decide) ?_))) rfl dX8_choose_41 ?_
        refine zr_iload_n (pc := 44)  (i := 2) rfl rfl dX8_choose_44 ?_
        refine zr_iconst (pc := 45)  dX8_choose_45 ?_
        refine zr_iast (pc := 46)  (by first | assumption | rfl | (repeat (first | assumption | exact zup_s | refine zup_g (by decide) ?_))) ⟨by omega, by omega⟩ (by decide) dX8_choose_46 ?_
        refine zr_heap hC_59 ?_
        refine zs_iinc_2 (pc := 47)  (by first | exact zn_i | exact zn_r | exact zn_0) (by decide) dX8_choose_47 ?_
        refine zr_goto (pc := 50)  (tgt := 34) (by decide) dX8_choose_50 ?_
        exact ih (m + 1) op _ (by omega) (by omega) (by omega) hB ho (fun c a b => by by_cases e : c = m; (rw [e, uZ_s]); (rw [uZ_n e]; exact hq c a (by omega)))
  have l1 : ∀ (K : Nat) (m : Int) (op : Int → Int) (x2 : Option Value), 8 - m ≤ K → 0 ≤ m → m ≤ 8 → opB op → (∀ c, 0 ≤ c → c < m → op c = if 4 ≤ c then 1 else 0) → zAW G mX8_choose zTT (zF G mX8_choose Post) 2 [some (.ref 38), some (vi m), x2] [] n (hC h op pc0) 0 0 := by
    intro K
    induction K with
    | zero =>
      intro m op x2 hK h0 hm hB ho
      obtain rfl : m = 8 := by omega
      refine zr_iload_n (pc := 2)  (i := 1) rfl rfl dX8_choose_2 ?_
      refine zr_bipush (pc := 3)  (by decide) dX8_choose_3 ?_
      refine zr_icmp_ge (pc := 5)  (tgt := 30) ⟨by omega, by omega⟩ ⟨by omega, by omega⟩ (by decide) dX8_choose_5 (fun q5 => ?_) (fun q5 => ?_)
      · refine zr_iconst (pc := 30)  dX8_choose_30 ?_
        refine zs_istore_n_1 (pc := 31)  (by first | exact zn_i | exact zn_r | exact zn_0) (by decide) dX8_choose_31 ?_
        refine zr_iconst (pc := 32)  dX8_choose_32 ?_
        refine zs_istore_n_2 (pc := 33)  (by first | exact zn_i | exact zn_r | exact zn_0) (by decide) dX8_choose_33 ?_
        exact l2 8 0 op pc0 (by omega) (by omega) (by omega) hB ho (fun c a b => by omega)
      · exact absurd q5 (by omega)
    | succ K ih =>
      intro m op x2 hK h0 hm hB ho
      have hB' : ∀ i, op i = 0 ∨ op i = 1 := hB
      have nb : ∀ v : Int, v = 0 ∨ v = 1 → opB (uZ op m v) := fun v hv i => by by_cases e : i = m; (rw [e, uZ_s]; exact hv); (rw [uZ_n e]; exact hB i)
      refine zr_iload_n (pc := 2)  (i := 1) rfl rfl dX8_choose_2 ?_
      refine zr_bipush (pc := 3)  (by decide) dX8_choose_3 ?_
      refine zr_icmp_ge (pc := 5)  (tgt := 30) ⟨by omega, by omega⟩ ⟨by omega, by omega⟩ (by decide) dX8_choose_5 (fun q5 => ?_) (fun q5 => ?_)
      · refine zr_iconst (pc := 30)  dX8_choose_30 ?_
        refine zs_istore_n_1 (pc := 31)  (by first | exact zn_i | exact zn_r | exact zn_0) (by decide) dX8_choose_31 ?_
        refine zr_iconst (pc := 32)  dX8_choose_32 ?_
        refine zs_istore_n_2 (pc := 33)  (by first | exact zn_i | exact zn_r | exact zn_0) (by decide) dX8_choose_33 ?_
        exact l2 8 0 op pc0 (by omega) (by omega) (by omega) hB (fun c a b => ho c a (by omega)) (fun c a b => by omega)
      · refine zr_aload_n (pc := 8)  (i := 0) rfl rfl dX8_choose_8 ?_
        refine zr_get (pc := 9)  fl_X8_88 (by first | assumption | rfl | (repeat (first | assumption | exact zup_s | refine zup_g (by decide) ?_))) rfl dX8_choose_9 ?_
        refine zr_iload_n (pc := 12)  (i := 1) rfl rfl dX8_choose_12 ?_
        refine zr_iload_n (pc := 13)  (i := 1) rfl rfl dX8_choose_13 ?_
        refine zr_iconst (pc := 14)  dX8_choose_14 ?_
        refine zr_icmp_lt (pc := 15)  (tgt := 22) ⟨by omega, by omega⟩ ⟨by omega, by omega⟩ (by decide) dX8_choose_15 (fun q15 => ?_) (fun q15 => ?_)
        · refine zr_iconst (pc := 22)  dX8_choose_22 ?_
          refine zr_zast (pc := 23)  (by first | assumption | rfl | (repeat (first | assumption | exact zup_s | refine zup_g (by decide) ?_))) ⟨by omega, by omega⟩ (by decide) (by omega) dX8_choose_23 ?_
          refine zr_heap hC_64 ?_
          refine zs_iinc_1 (pc := 24)  (by first | exact zn_i | exact zn_r | exact zn_0) (by decide) dX8_choose_24 ?_
          refine zr_goto (pc := 27)  (tgt := 2) (by decide) dX8_choose_27 ?_
          exact ih (m + 1) _ _ (by omega) (by omega) (by omega) (nb _ (by omega)) (fun c a b => by by_cases e : c = m; (rw [e, uZ_s]; split <;> omega); (rw [uZ_n e]; exact ho c a (by omega)))
        · refine zr_iconst (pc := 18)  dX8_choose_18 ?_
          refine zr_goto (pc := 19)  (tgt := 23) (by decide) dX8_choose_19 ?_
          refine zr_zast (pc := 23)  (by first | assumption | rfl | (repeat (first | assumption | exact zup_s | refine zup_g (by decide) ?_))) ⟨by omega, by omega⟩ (by decide) (by omega) dX8_choose_23 ?_
          refine zr_heap hC_64 ?_
          refine zs_iinc_1 (pc := 24)  (by first | exact zn_i | exact zn_r | exact zn_0) (by decide) dX8_choose_24 ?_
          refine zr_goto (pc := 27)  (tgt := 2) (by decide) dX8_choose_27 ?_
          exact ih (m + 1) _ _ (by omega) (by omega) (by omega) (nb _ (by omega)) (fun c a b => by by_cases e : c = m; (rw [e, uZ_s]; split <;> omega); (rw [uZ_n e]; exact ho c a (by omega)))
  refine zMP_of (by decide) [some _, none, none] (Nat.le_of_ble_eq_true rfl) rfl ?_
  refine zr_iconst (pc := 0)  dX8_choose_0 ?_
  refine zs_istore_n_1 (pc := 1)  (by first | exact zn_i | exact zn_r | exact zn_0) (by decide) dX8_choose_1 ?_
  refine zr_heap (show h = hC h op0 pc0 from by unfold hC; rw [zup_self m64, zup_self m59]) ?_
  exact l1 8 0 op0 _ (by omega) (by omega) (by omega) ho0 (fun c a b => by omega)
end MOD
