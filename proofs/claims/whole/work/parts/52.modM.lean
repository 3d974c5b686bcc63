/-! which crossings hang together -/
def csZ (fl rs rg u : Int → Int) : Prop := ∀ r, 0 ≤ r → r < 16 → fl r ≠ -1 → u (rs r) = u (rg r)
def opB (op : Int → Int) : Prop := ∀ i, op i = 0 ∨ op i = 1
def soZ (fl rs rg op op2 : Int → Int) : Prop := ∀ u, csZ fl rs rg u → (∀ c, 0 ≤ c → c < 8 → op c = 1 → u c = 0) → ∀ c, 0 ≤ c → c < 8 → op2 c = 1 → u c = 0
def spI (fl rs rg op0 O : Int → Int) (m : Int) (P : Int → Int) : Prop := opB P ∧ (∀ c, 0 ≤ c → c < 8 → O c ≤ P c) ∧ soZ fl rs rg op0 P ∧ ((∀ c, 0 ≤ c → c < 8 → P c = O c) → ∀ r, 0 ≤ r → r < m → fl r ≠ -1 → O (rs r) = O (rg r)) ∧ (csZ fl rs rg O → ∀ c, 0 ≤ c → c < 8 → P c = O c)
section SP
variable {fl rs rg op0 O P : Int → Int} {m : Int}
theorem spI_0 (hO : opB O) (hs : soZ fl rs rg op0 O) : spI fl rs rg op0 O 0 O := ⟨hO, fun _ _ _ => Int.le_refl _, hs, fun _ r a b => by omega, fun _ _ _ _ => rfl⟩
theorem spI_skip (h : spI fl rs rg op0 O m P) (hf : fl m = -1) : spI fl rs rg op0 O (m + 1) P := by
  obtain ⟨h1, h2, h3, h4, h5⟩ := h
  refine ⟨h1, h2, h3, fun z r a b c => ?_, h5⟩
  by_cases e : r = m
  · rw [e] at c; exact absurd hf c
  · exact h4 z r a (by omega) c
theorem spI_s (h : spI fl rs rg op0 O m P) (hO : opB O) (hm : 0 ≤ m ∧ m < 16) (hf : fl m ≠ -1) (hs : ∀ i, 0 ≤ rs i ∧ rs i < 8) (hg : ∀ i, 0 ≤ rg i ∧ rg i < 8) {v : Int} (hv : v = 0 ∧ P (rs m) = 0 ∧ P (rg m) = 0 ∨ v = 1 ∧ (P (rs m) = 1 ∨ P (rg m) = 1)) : spI fl rs rg op0 O (m + 1) (uZ (uZ P (rs m) v) (rg m) v) := by
  obtain ⟨h1, h2, h3, h4, h5⟩ := h
  have es : ∀ c, uZ (uZ P (rs m) v) (rg m) v c = if c = rg m then v else if c = rs m then v else P c := fun c => rfl
  have hP : ∀ c, P c ≤ uZ (uZ P (rs m) v) (rg m) v c := fun c => by
    rw [es]
    have := h1 c
    by_cases e1 : c = rg m
    · rw [if_pos e1]; rw [← e1] at hv; omega
    · rw [if_neg e1]
      by_cases e2 : c = rs m
      · rw [if_pos e2]; rw [← e2] at hv; omega
      · rw [if_neg e2]; omega
  have hsm := hs m
  have hgm := hg m
  refine ⟨fun i => ?_, fun c a b => Int.le_trans (h2 c a b) (hP c), fun u hu hz c a b hc => ?_, fun z r a b d => ?_, fun z c a b => ?_⟩
  · rw [es]
    have := h1 i
    (repeat' split) <;> omega
  · have h3' := h3 u hu hz
    have hu2 := hu m hm.1 hm.2 hf
    rw [es] at hc
    have key : v = 1 → u (rs m) = 0 := fun z => by
      rcases hv with q | ⟨_, q | q⟩
      · omega
      · exact h3' _ hsm.1 hsm.2 q
      · rw [hu2]; exact h3' _ hgm.1 hgm.2 q
    by_cases e1 : c = rg m
    · rw [if_pos e1] at hc
      rw [e1, ← hu2]; exact key hc
    · rw [if_neg e1] at hc
      by_cases e2 : c = rs m
      · rw [if_pos e2] at hc; rw [e2]; exact key hc
      · rw [if_neg e2] at hc; exact h3' c a b hc
  · have hPO : ∀ c, 0 ≤ c → c < 8 → P c = O c := fun c a b => by
      have := hP c
      have := z c a b
      have := h2 c a b
      omega
    by_cases e : r = m
    · have q1 := z (rs m) hsm.1 hsm.2
      have q2 := z (rg m) hgm.1 hgm.2
      rw [es] at q1 q2
      rw [if_pos rfl] at q2
      rw [e, ← q2]
      by_cases e1 : rs m = rg m
      · rw [if_pos e1] at q1; exact q1.symm
      · rw [if_neg e1, if_pos rfl] at q1; exact q1.symm
    · exact h4 hPO r a (by omega) d
  · have q := h5 z
    have q1 := q (rs m) hsm.1 hsm.2
    have q2 := q (rg m) hgm.1 hgm.2
    have q3 := z m hm.1 hm.2 hf
    rw [es]
    by_cases e1 : c = rg m
    · rw [if_pos e1, e1]; omega
    · rw [if_neg e1]
      by_cases e2 : c = rs m
      · rw [if_pos e2, e2]; omega
      · rw [if_neg e2]; exact q c a b
theorem s8 (P : Int → Int) : sumZ P 8 = P 0 + P 1 + P 2 + P 3 + P 4 + P 5 + P 6 + P 7 := by
  show 0 + P 0 + P 1 + P 2 + P 3 + P 4 + P 5 + P 6 + P 7 = _
  omega
theorem c8 {p : Int → Prop} (h0 : p 0) (h1 : p 1) (h2 : p 2) (h3 : p 3) (h4 : p 4) (h5 : p 5) (h6 : p 6) (h7 : p 7) : ∀ c : Int, 0 ≤ c → c < 8 → p c := fun c a b => by
  have : c = 0 ∨ c = 1 ∨ c = 2 ∨ c = 3 ∨ c = 4 ∨ c = 5 ∨ c = 6 ∨ c = 7 := by omega
  rcases this with rfl | rfl | rfl | rfl | rfl | rfl | rfl | rfl <;> assumption
theorem cs_congr {u v : Int → Int} (hs : ∀ i, 0 ≤ rs i ∧ rs i < 8) (hg : ∀ i, 0 ≤ rg i ∧ rg i < 8) (h : ∀ c, 0 ≤ c → c < 8 → u c = v c) (hv : csZ fl rs rg v) : csZ fl rs rg u := fun r a b c => by
  rw [h _ (hs r).1 (hs r).2, h _ (hg r).1 (hg r).2]
  exact hv r a b c
theorem spI_end {k : Int} (h : spI fl rs rg op0 O 16 P) (hs : ∀ i, 0 ≤ rs i ∧ rs i < 8) (hg : ∀ i, 0 ≤ rg i ∧ rg i < 8) (hk : csZ fl rs rg O ∨ k ≤ sumZ O 8) : csZ fl rs rg P ∨ k + 1 ≤ sumZ P 8 := by
  obtain ⟨h1, h2, h3, h4, h5⟩ := h
  rcases hk with hk | hk
  · exact Or.inl (cs_congr hs hg (h5 hk) hk)
  · by_cases q : k + 1 ≤ sumZ P 8
    · exact Or.inr q
    · rw [s8] at hk q
      have f := fun c a b => h2 c a b
      have f0 := f 0 (by omega) (by omega)
      have f1 := f 1 (by omega) (by omega)
      have f2 := f 2 (by omega) (by omega)
      have f3 := f 3 (by omega) (by omega)
      have f4 := f 4 (by omega) (by omega)
      have f5 := f 5 (by omega) (by omega)
      have f6 := f 6 (by omega) (by omega)
      have f7 := f 7 (by omega) (by omega)
      have e : ∀ c, 0 ≤ c → c < 8 → P c = O c := c8 (by omega) (by omega) (by omega) (by omega) (by omega) (by omega) (by omega) (by omega)
      exact Or.inl (cs_congr hs hg e (fun r a b c => h4 e r a b c))
theorem cs_8 (hP : opB P) (hs : ∀ i, 0 ≤ rs i ∧ rs i < 8) (hg : ∀ i, 0 ≤ rg i ∧ rg i < 8) (h : csZ fl rs rg P ∨ 8 ≤ sumZ P 8) : csZ fl rs rg P := by
  rcases h with h | h
  · exact h
  · rw [s8] at h
    have g0 := hP 0
    have g1 := hP 1
    have g2 := hP 2
    have g3 := hP 3
    have g4 := hP 4
    have g5 := hP 5
    have g6 := hP 6
    have g7 := hP 7
    have e : ∀ c, 0 ≤ c → c < 8 → P c = 1 := c8 (by omega) (by omega) (by omega) (by omega) (by omega) (by omega) (by omega) (by omega)
    exact cs_congr hs hg e (fun _ _ _ _ => rfl)
end SP
section MOD
variable {G : zG} {n : Nat} {h : zH} {Post : Option Value → Nat → zH → Prop} {th len now al pm pd sq up lw : Int} {N : Nat}
variable {fl rs rg : Int → Int}
theorem l_X8_spread2 {op0 O : Int → Int} {kz : Int} (m38 : h 38 = some (oMod th len N now al pm pd sq up lw)) (m42 : h 42 = some (aI 16 rs)) (m43 : h 43 = some (aI 16 rg)) (m57 : h 57 = some (aI 16 fl)) (hf : ∀ i, 0 ≤ i → i < 16 → -1 ≤ fl i ∧ fl i ≤ 100000) (hs : ∀ i, 0 ≤ rs i ∧ rs i < 8) (hg : ∀ i, 0 ≤ rg i ∧ rg i < 8) (hO : opB O) (kk : ∀ (P : Int → Int) x3, spI fl rs rg op0 O 16 P → zAW G mX8_spread zTT (zF G mX8_spread Post) 92 [some (.ref 38), some (vi kz), some (vi 16), x3] [] n (zup h 64 (aZ 8 P)) 0 0) : ∀ (K : Nat) (m : Int) (P : Int → Int) (x3 : Option Value), 16 - m ≤ K → 0 ≤ m → m ≤ 16 → spI fl rs rg op0 O m P → zAW G mX8_spread zTT (zF G mX8_spread Post) 10 [some (.ref 38), some (vi kz), some (vi m), x3] [] n (zup h 64 (aZ 8 P)) 0 0 := by
  intro K
  induction K with
  | zero =>
    intro m P x3 hK h0 hm hP
    obtain rfl : m = 16 := by omega
    refine zr_iload_n (pc := 10)  (i := 2) rfl rfl dX8_spread_10 ?_
    refine zr_bipush (pc := 11)  (by decide) dX8_spread_11 ?_
    refine zr_icmp_ge (pc := 13)  (tgt := 92) ⟨by omega, by omega⟩ ⟨by omega, by omega⟩ (by decide) dX8_spread_13 (fun q13 => ?_) (fun q13 => ?_)
    · exact kk P _ hP
    · exact absurd q13 (by omega)
  | succ K ih =>
    intro m P x3 hK h0 hm hP
    have hsm := hs m
    have hgm := hg m
    have hp1 := hP.1 (rs m)
    have hp2 := hP.1 (rg m)
    have hP1 := hP.1
    have p1 : ∀ i, uZ P (rs m) 1 i = 0 ∨ uZ P (rs m) 1 i = 1 := fun i => by unfold uZ; split <;> first | exact Or.inr rfl | exact hP1 i
    have p0 : ∀ i, uZ P (rs m) 0 i = 0 ∨ uZ P (rs m) 0 i = 1 := fun i => by unfold uZ; split <;> first | exact Or.inl rfl | exact hP1 i
    refine zr_iload_n (pc := 10)  (i := 2) rfl rfl dX8_spread_10 ?_
    refine zr_bipush (pc := 11)  (by decide) dX8_spread_11 ?_
    refine zr_icmp_ge (pc := 13)  (tgt := 92) ⟨by omega, by omega⟩ ⟨by omega, by omega⟩ (by decide) dX8_spread_13 (fun q13 => ?_) (fun q13 => ?_)
    · obtain rfl : m = 16 := by omega
      exact kk P _ hP
    · have hfm := hf m (by omega) (by omega)
      refine zr_aload_n (pc := 16)  (i := 0) rfl rfl dX8_spread_16 ?_
      refine zr_get (pc := 17)  fl_X8_67 (by first | assumption | rfl | (repeat (first | assumption | exact zup_s | refine zup_g (by decide) ?_))) rfl dX8_spread_17 ?_
      refine zr_iload_n (pc := 20)  (i := 2) rfl rfl dX8_spread_20 ?_
      refine zr_iald (pc := 21)  (by first | assumption | rfl | (repeat (first | assumption | exact zup_s | refine zup_g (by decide) ?_))) ⟨by omega, by omega⟩ (by decide) dX8_spread_21 ?_
      refine zr_if_ge (pc := 22)  (tgt := 28) ⟨by omega, by omega⟩ (by decide) dX8_spread_22 (fun q22 => ?_) (fun q22 => ?_)
      · refine zr_aload_n (pc := 28)  (i := 0) rfl rfl dX8_spread_28 ?_
        refine zr_get (pc := 29)  fl_X8_88 (by first | assumption | rfl | (repeat (first | assumption | exact zup_s | refine zup_g (by decide) ?_))) rfl dX8_spread_29 ?_
        refine zr_aload_n (pc := 32)  (i := 0) rfl rfl dX8_spread_32 ?_
        refine zr_get (pc := 33)  fl_X8_20 (by first | assumption | rfl | (repeat (first | assumption | exact zup_s | refine zup_g (by decide) ?_))) rfl dX8_spread_33 ?_
        refine zr_iload_n (pc := 36)  (i := 2) rfl rfl dX8_spread_36 ?_
        refine zr_iald (pc := 37)  (by first | assumption | rfl | (repeat (first | assumption | exact zup_s | refine zup_g (by decide) ?_))) ⟨by omega, by omega⟩ (by decide) dX8_spread_37 ?_
        refine zr_zald (pc := 38)  (by first | assumption | rfl | (repeat (first | assumption | exact zup_s | refine zup_g (by decide) ?_))) ⟨by omega, by omega⟩ (by decide) dX8_spread_38 ?_
        refine zr_if_ne (pc := 39)  (tgt := 56) ⟨by omega, by omega⟩ (by decide) dX8_spread_39 (fun q39 => ?_) (fun q39 => ?_)
        · refine zr_iconst (pc := 56)  dX8_spread_56 ?_
          refine zr_goto (pc := 57)  (tgt := 61) (by decide) dX8_spread_57 ?_
          refine zs_istore_n_3 (pc := 61)  (by first | exact zn_i | exact zn_r | exact zn_0) (by decide) dX8_spread_61 ?_
          refine zr_aload_n (pc := 62)  (i := 0) rfl rfl dX8_spread_62 ?_
          refine zr_get (pc := 63)  fl_X8_88 (by first | assumption | rfl | (repeat (first | assumption | exact zup_s | refine zup_g (by decide) ?_))) rfl dX8_spread_63 ?_
          refine zr_aload_n (pc := 66)  (i := 0) rfl rfl dX8_spread_66 ?_
          refine zr_get (pc := 67)  fl_X8_20 (by first | assumption | rfl | (repeat (first | assumption | exact zup_s | refine zup_g (by decide) ?_))) rfl dX8_spread_67 ?_
          refine zr_iload_n (pc := 70)  (i := 2) rfl rfl dX8_spread_70 ?_
          refine zr_iald (pc := 71)  (by first | assumption | rfl | (repeat (first | assumption | exact zup_s | refine zup_g (by decide) ?_))) ⟨by omega, by omega⟩ (by decide) dX8_spread_71 ?_
          refine zr_iload_n (pc := 72)  (i := 3) rfl rfl dX8_spread_72 ?_
          refine zr_zast (pc := 73)  (by first | assumption | rfl | (repeat (first | assumption | exact zup_s | refine zup_g (by decide) ?_))) ⟨by omega, by omega⟩ (by decide) (by omega) dX8_spread_73 ?_
          rw [zup_zup]
          refine zr_aload_n (pc := 74)  (i := 0) rfl rfl dX8_spread_74 ?_
          refine zr_get (pc := 75)  fl_X8_88 (by first | assumption | rfl | (repeat (first | assumption | exact zup_s | refine zup_g (by decide) ?_))) rfl dX8_spread_75 ?_
          refine zr_aload_n (pc := 78)  (i := 0) rfl rfl dX8_spread_78 ?_
          refine zr_get (pc := 79)  fl_X8_24 (by first | assumption | rfl | (repeat (first | assumption | exact zup_s | refine zup_g (by decide) ?_))) rfl dX8_spread_79 ?_
          refine zr_iload_n (pc := 82)  (i := 2) rfl rfl dX8_spread_82 ?_
          refine zr_iald (pc := 83)  (by first | assumption | rfl | (repeat (first | assumption | exact zup_s | refine zup_g (by decide) ?_))) ⟨by omega, by omega⟩ (by decide) dX8_spread_83 ?_
          refine zr_iload_n (pc := 84)  (i := 3) rfl rfl dX8_spread_84 ?_
          refine zr_zast (pc := 85)  (by first | assumption | rfl | (repeat (first | assumption | exact zup_s | refine zup_g (by decide) ?_))) ⟨by omega, by omega⟩ (by decide) (by omega) dX8_spread_85 ?_
          first | rw [zup_zup] | skip
          refine zs_iinc_2 (pc := 86)  (by first | exact zn_i | exact zn_r | exact zn_0) (by decide) dX8_spread_86 ?_
          refine zr_goto (pc := 89)  (tgt := 10) (by decide) dX8_spread_89 ?_
          first | exact ih (m + 1) P _ (by omega) (by omega) (by omega) (spI_skip hP (by omega)) | exact ih (m + 1) _ _ (by omega) (by omega) (by omega) (spI_s hP hO (by omega) (by omega) hs hg (by omega))
        · refine zr_aload_n (pc := 42)  (i := 0) rfl rfl dX8_spread_42 ?_
          refine zr_get (pc := 43)  fl_X8_88 (by first | assumption | rfl | (repeat (first | assumption | exact zup_s | refine zup_g (by decide) ?_))) rfl dX8_spread_43 ?_
          refine zr_aload_n (pc := 46)  (i := 0) rfl rfl dX8_spread_46 ?_
          refine zr_get (pc := 47)  fl_X8_24 (by first | assumption | rfl | (repeat (first | assumption | exact zup_s | refine zup_g (by decide) ?_))) rfl dX8_spread_47 ?_
          refine zr_iload_n (pc := 50)  (i := 2) rfl rfl dX8_spread_50 ?_
          refine zr_iald (pc := 51)  (by first | assumption | rfl | (repeat (first | assumption | exact zup_s | refine zup_g (by decide) ?_))) ⟨by omega, by omega⟩ (by decide) dX8_spread_51 ?_
          refine zr_zald (pc := 52)  (by first | assumption | rfl | (repeat (first | assumption | exact zup_s | refine zup_g (by decide) ?_))) ⟨by omega, by omega⟩ (by decide) dX8_spread_52 ?_
          refine zr_if_eq (pc := 53)  (tgt := 60) ⟨by omega, by omega⟩ (by decide) dX8_spread_53 (fun q53 => ?_) (fun q53 => ?_)
          · refine zr_iconst (pc := 60)  dX8_spread_60 ?_
            refine zs_istore_n_3 (pc := 61)  (by first | exact zn_i | exact zn_r | exact zn_0) (by decide) dX8_spread_61 ?_
            refine zr_aload_n (pc := 62)  (i := 0) rfl rfl dX8_spread_62 ?_
            refine zr_get (pc := 63)  fl_X8_88 (by first | assumption | rfl | (repeat (first | assumption | exact zup_s | refine zup_g (by decide) ?_))) rfl dX8_spread_63 ?_
            refine zr_aload_n (pc := 66)  (i := 0) rfl rfl dX8_spread_66 ?_
            refine zr_get (pc := 67)  fl_X8_20 (by first | assumption | rfl | (repeat (first | assumption | exact zup_s | refine zup_g (by decide) ?_))) rfl dX8_spread_67 ?_
            refine zr_iload_n (pc := 70)  (i := 2) rfl rfl dX8_spread_70 ?_
            refine zr_iald (pc := 71)  (by first | assumption | rfl | (repeat (first | assumption | exact zup_s | refine zup_g (by decide) ?_))) ⟨by omega, by omega⟩ (by decide) dX8_spread_71 ?_
            refine zr_iload_n (pc := 72)  (i := 3) rfl rfl dX8_spread_72 ?_
            refine zr_zast (pc := 73)  (by first | assumption | rfl | (repeat (first | assumption | exact zup_s | refine zup_g (by decide) ?_))) ⟨by omega, by omega⟩ (by decide) (by omega) dX8_spread_73 ?_
            rw [zup_zup]
            refine zr_aload_n (pc := 74)  (i := 0) rfl rfl dX8_spread_74 ?_
            refine zr_get (pc := 75)  fl_X8_88 (by first | assumption | rfl | (repeat (first | assumption | exact zup_s | refine zup_g (by decide) ?_))) rfl dX8_spread_75 ?_
            refine zr_aload_n (pc := 78)  (i := 0) rfl rfl dX8_spread_78 ?_
            refine zr_get (pc := 79)  fl_X8_24 (by first | assumption | rfl | (repeat (first | assumption | exact zup_s | refine zup_g (by decide) ?_))) rfl dX8_spread_79 ?_
            refine zr_iload_n (pc := 82)  (i := 2) rfl rfl dX8_spread_82 ?_
            refine zr_iald (pc := 83)  (by first | assumption | rfl | (repeat (first | assumption | exact zup_s | refine zup_g (by decide) ?_))) ⟨by omega, by omega⟩ (by decide) dX8_spread_83 ?_
            refine zr_iload_n (pc := 84)  (i := 3) rfl rfl dX8_spread_84 ?_
            refine zr_zast (pc := 85)  (by first | assumption | rfl | (repeat (first | assumption | exact zup_s | refine zup_g (by decide) ?_))) ⟨by omega, by omega⟩ (by decide) (by omega) dX8_spread_85 ?_
            first | rw [zup_zup] | skip
            refine zs_iinc_2 (pc := 86)  (by first | exact zn_i | exact zn_r | exact zn_0) (by decide) dX8_spread_86 ?_
            refine zr_goto (pc := 89)  (tgt := 10) (by decide) dX8_spread_89 ?_
            first | exact ih (m + 1) P _ (by omega) (by omega) (by omega) (spI_skip hP (by omega)) | exact ih (m + 1) _ _ (by omega) (by omega) (by omega) (spI_s hP hO (by omega) (by omega) hs hg (by omega))
          · refine zr_iconst (pc := 56)  dX8_spread_56 ?_
            refine zr_goto (pc := 57)  (tgt := 61) (by decide) dX8_spread_57 ?_
            refine zs_istore_n_3 (pc := 61)  (by first | exact zn_i | exact zn_r | exact zn_0) (by decide) dX8_spread_61 ?_
            refine zr_aload_n (pc := 62)  (i := 0) rfl rfl dX8_spread_62 ?_
            refine zr_get (pc := 63)  fl_X8_88 (by first | assumption | rfl | (repeat (first | assumption | exact zup_s | refine zup_g (by decide) ?_))) rfl dX8_spread_63 ?_
            refine zr_aload_n (pc := 66)  (i := 0) rfl rfl dX8_spread_66 ?_
            refine zr_get (pc := 67)  fl_X8_20 (by first | assumption | rfl | (repeat (first | assumption | exact zup_s | refine zup_g (by decide) ?_))) rfl dX8_spread_67 ?_
            refine zr_iload_n (pc := 70)  (i := 2) rfl rfl dX8_spread_70 ?_
            refine zr_iald (pc := 71)  (by first | assumption | rfl | (repeat (first | assumption | exact zup_s | refine zup_g (by decide) ?_))) ⟨by omega, by omega⟩ (by decide) dX8_spread_71 ?_
            refine zr_iload_n (pc := 72)  (i := 3) rfl rfl dX8_spread_72 ?_
            refine zr_zast (pc := 73)  (by first | assumption | rfl | (repeat (first | assumption | exact zup_s | refine zup_g (by decide) ?_))) ⟨by omega, by omega⟩ (by decide) (by omega) dX8_spread_73 ?_
            rw [zup_zup]
            refine zr_aload_n (pc := 74)  (i := 0) rfl rfl dX8_spread_74 ?_
            refine zr_get (pc := 75)  fl_X8_88 (by first | assumption | rfl | (repeat (first | assumption | exact zup_s | refine zup_g (by decide) ?_))) rfl dX8_spread_75 ?_
            refine zr_aload_n (pc := 78)  (i := 0) rfl rfl dX8_spread_78 ?_
            refine zr_get (pc := 79)  fl_X8_24 (by first | assumption | rfl | (repeat (first | assumption | exact zup_s | refine zup_g (by decide) ?_))) rfl dX8_spread_79 ?_
            refine zr_iload_n (pc := 82)  (i := 2) rfl rfl dX8_spread_82 ?_
            refine zr_iald (pc := 83)  (by first | assumption | rfl | (repeat (first | assumption | exact zup_s | refine zup_g (by decide) ?_))) ⟨by omega, by omega⟩ (by decide) dX8_spread_83 ?_
            refine zr_iload_n (pc := 84)  (i := 3) rfl rfl dX8_spread_84 ?_
            refine zr_zast (pc := 85)  (by first | assumption | rfl | (repeat (first | assumption | exact zup_s | refine zup_g (by decide) ?_))) ⟨by omega, by omega⟩ (by decide) (by omega) dX8_spread_85 ?_
            first | rw [zup_zup] | skip
            refine zs_iinc_2 (pc := 86)  (by first | exact zn_i | exact zn_r | exact zn_0) (by decide) dX8_spread_86 ?_
            refine zr_goto (pc := 89)  (tgt := 10) (by decide) dX8_spread_89 ?_
            first | exact ih (m + 1) P _ (by omega) (by omega) (by omega) (spI_skip hP (by omega)) | exact ih (m + 1) _ _ (by omega) (by omega) (by omega) (spI_s hP hO (by omega) (by omega) hs hg (by omega))
      · refine zr_goto (pc := 25)  (tgt := 86) (by decide) dX8_spread_25 ?_
        first | rw [zup_zup] | skip
        refine zs_iinc_2 (pc := 86)  (by first | exact zn_i | exact zn_r | exact zn_0) (by decide) dX8_spread_86 ?_
        refine zr_goto (pc := 89)  (tgt := 10) (by decide) dX8_spread_89 ?_
        first | exact ih (m + 1) P _ (by omega) (by omega) (by omega) (spI_skip hP (by omega)) | exact ih (m + 1) _ _ (by omega) (by omega) (by omega) (spI_s hP hO (by omega) (by omega) hs hg (by omega))
theorem k_X8_spread {op : Int → Int} (m38 : h 38 = some (oMod th len N now al pm pd sq up lw)) (m42 : h 42 = some (aI 16 rs)) (m43 : h 43 = some (aI 16 rg)) (m57 : h 57 = some (aI 16 fl)) (m64 : h 64 = some (aZ 8 op)) (hf : ∀ i, 0 ≤ i → i < 16 → -1 ≤ fl i ∧ fl i ≤ 100000) (hs : ∀ i, 0 ≤ rs i ∧ rs i < 8) (hg : ∀ i, 0 ≤ rg i ∧ rg i < 8) (ho : opB op) (k : ∀ op2, opB op2 → (∀ c, 0 ≤ c → c < 8 → op c ≤ op2 c) → csZ fl rs rg op2 → soZ fl rs rg op op2 → Post none n (zup h 64 (aZ 8 op2))) : zMP G mX8_spread [.ref 38] n h Post := by
  have main : ∀ (K : Nat) (kz : Int) (P : Int → Int) (x2 x3 : Option Value), 8 - kz ≤ K → 0 ≤ kz → kz ≤ 8 → opB P → (∀ c, 0 ≤ c → c < 8 → op c ≤ P c) → soZ fl rs rg op P → (csZ fl rs rg P ∨ kz ≤ sumZ P 8) → zAW G mX8_spread zTT (zF G mX8_spread Post) 2 [some (.ref 38), some (vi kz), x2, x3] [] n (zup h 64 (aZ 8 P)) 0 0 := by
    intro K
    induction K with
    | zero =>
      intro kz P x2 x3 hK h0 hk a1 a2 a3 a4
      obtain rfl : kz = 8 := by omega
      refine zr_iload_n (pc := 2)  (i := 1) rfl rfl dX8_spread_2 ?_
      refine zr_bipush (pc := 3)  (by decide) dX8_spread_3 ?_
      refine zr_icmp_ge (pc := 5)  (tgt := 98) ⟨by omega, by omega⟩ ⟨by omega, by omega⟩ (by decide) dX8_spread_5 (fun q5 => ?_) (fun q5 => ?_)
      · refine zr_vreturn (pc := 98)  rfl (by decide) (by decide) dX8_spread_98 ?_
        exact k P a1 a2 (cs_8 a1 hs hg a4) a3
      · exact absurd q5 (by omega)
    | succ K ih =>
      intro kz P x2 x3 hK h0 hk a1 a2 a3 a4
      have e92 : kz < 8 → ∀ (Q : Int → Int) x3, spI fl rs rg op P 16 Q → zAW G mX8_spread zTT (zF G mX8_spread Post) 92 [some (.ref 38), some (vi kz), some (vi 16), x3] [] n (zup h 64 (aZ 8 Q)) 0 0 := fun hk8 Q x3 hQ => by
        refine zs_iinc_1 (pc := 92)  (by first | exact zn_i | exact zn_r | exact zn_0) (by decide) dX8_spread_92 ?_
        refine zr_goto (pc := 95)  (tgt := 2) (by decide) dX8_spread_95 ?_
        exact ih (kz + 1) Q _ _ (by omega) (by omega) (by omega) hQ.1 (fun c a b => Int.le_trans (a2 c a b) (hQ.2.1 c a b)) hQ.2.2.1 (spI_end hQ hs hg a4)
      refine zr_iload_n (pc := 2)  (i := 1) rfl rfl dX8_spread_2 ?_
      refine zr_bipush (pc := 3)  (by decide) dX8_spread_3 ?_
      refine zr_icmp_ge (pc := 5)  (tgt := 98) ⟨by omega, by omega⟩ ⟨by omega, by omega⟩ (by decide) dX8_spread_5 (fun q5 => ?_) (fun q5 => ?_)
      · refine zr_vreturn (pc := 98)  rfl (by decide) (by decide) dX8_spread_98 ?_
        obtain rfl : kz = 8 := by omega
        exact k P a1 a2 (cs_8 a1 hs hg a4) a3
      · refine zr_iconst (pc := 8)  dX8_spread_8 ?_
        refine zs_istore_n_2 (pc := 9)  (by first | exact zn_i | exact zn_r | exact zn_0) (by decide) dX8_spread_9 ?_
        exact l_X8_spread2 m38 m42 m43 m57 hf hs hg a1 (e92 (by omega)) 16 0 P _ (by omega) (by omega) (by omega) (spI_0 a1 a3)
  refine zMP_of (by decide) [some _, none, none, none] (Nat.le_of_ble_eq_true rfl) rfl ?_
  refine zr_iconst (pc := 0)  dX8_spread_0 ?_
  refine zs_istore_n_1 (pc := 1)  (by first | exact zn_i | exact zn_r | exact zn_0) (by decide) dX8_spread_1 ?_
  refine zr_heap (zup_self m64).symm ?_
  exact main 8 0 op _ _ (by omega) (by omega) (by omega) ho (fun _ _ _ => Int.le_refl _) (fun u _ hz => hz) (Or.inr (by rw [s8]; have := ho 0; have := ho 1; have := ho 2; have := ho 3; have := ho 4; have := ho 5; have := ho 6; have := ho 7; omega))
end MOD
