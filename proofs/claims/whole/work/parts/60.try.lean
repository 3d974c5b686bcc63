/-! a call that may throw and the handler that takes it; methods with handlers -/
def zHT (hh : List (Nat × Nat × Nat × Nat)) : Array Value → State → Code → Prop := fun _ _ cd => cd.exceptionTable.toList = tableOf hh
def zMH (G : zG) (M : zM) (hh : List (Nat × Nat × Nat × Nat)) (args : List Value) (n : Nat) (h : zH) (Post : Option Value → Nat → zH → Prop) : Prop :=
  Met (zgl G) M.1 (Cond.codeWith M.1 M.2.1 (zmL M) (zmt M) hh :: TG) (zmr M) (zPc G args n h) (zQc G Post) (zmr M).cells (zmr M).slots (zAr G)
theorem zMH_of {G : zG} {M : zM} {hh : List (Nat × Nat × Nat × Nat)} {args : List Value} {n : Nat} {h : zH} {Post : Option Value → Nat → zH → Prop} (hy : plainName M.1.cls = true) (lo : List (Option Value)) (hn : (zent args).length ≤ zmL M) (hlo : zent args ++ List.replicate (zmL M - (zent args).length) none = lo)
    (k : zAW G M (zHT hh) (zF G M Post) 0 lo [] n h 0 0) : zMH G M hh args n h Post := by
  unfold zMH
  refine MetFree.of_bodyS (code := M.2.1) (maxLocals := zmL M) (ret := zmt M) hy ?_ ?_
  · intro a s m hp hnm
    obtain ⟨m9, meth, c, hn9, h1, h2, h3, h4, -, h5, h6, -⟩ := Cond.codeWith_spec (atoms_spec (ws := Cond.codeWith M.1 M.2.1 (zmL M) (zmt M) hh :: TG) hp _ List.mem_cons_self)
    cases hnm.symm.trans hn9
    exact ⟨meth, c, h1, h2, h3, h4, h5, h6⟩
  · intro p e s m a below meth c s₁ B hml hv _
    obtain ⟨rfl, hsz, hw, hok⟩ := hv
    have hh0 : s₁.heap = s.heap := by rw [B.state]; rfl
    have hts := atoms_spec (ws := Cond.codeWith M.1 M.2.1 (zmL M) (zmt M) hh :: TG) B.pre
    have ht : c.exceptionTable.toList = tableOf hh := vx_table (x := M.1) B (hts _ List.mem_cons_self)
    have K : W p (zgl G) e (zmr M) s m (args.map (zv (zgb G))).toArray below meth c s.heap [] 0 0 (zF G M Post below (args.map (zv (zgb G))).toArray s) (entryFrame m (args.map (zv (zgb G))).toArray (zmL M)) := by
      rw [lg_entry_eq]
      exact k p e s m _ below meth c ⟨B.exec, B.bytes, hml, findClass_of_methodNamed B.named, fun w hw => hts w (List.mem_cons_of_mem _ hw), hok, B.notSynchronized, B.returns, (name_of_methodNamed B.named B.method).1, by omega, ht⟩ s.heap [] _ hsz hw va_S.rf (zL_entry (zgb G) hn hlo)
    obtain ⟨t, a1, o, b1, b2, b3⟩ := K s₁ hh0 (Stand.of_body B)
    exact ⟨t, o, a1, b1, b2, ⟨b3.1, b3.2⟩⟩
section ZT
variable {G : zG} {M : zM} {XF : Array Value → State → Code → Prop} {QF : List Frame → Array Value → State → State → Prop} {pc : Nat} {lo : List (Option Value)} {st : List Value} {n : Nat} {h : zH} {c sl : Nat}
theorem zr_callVX {M' : zM} {As : List Value} {a ci kk idx : Nat} {fs : List Value} {PX : zH → Prop} (hC : zCV M idx M' kk) (hk : As.length = kk) (hh : h a = some (.inr (ci, fs))) (hci : ∃ r, vwCl[ci]? = some r ∧ r.1 = M'.1.cls) (hst : (st.map fun v => v.category).sum ≤ 8) (hf : c + (zmr M').cells ≤ (zmr M).cells ∧ sl + (zmr M').slots ≤ (zmr M).slots) (hd : decode M.2.1 pc = .ok (.invokevirtual idx, 3))
    (k : zMX G M' (.ref a :: As) n h (fun r n' h' => zAW G M XF QF (pc + 3) lo (r.toList ++ st) n' h' (c + (zmr M').cells) (sl + (zmr M').slots)) PX)
    (kx : ∀ (h' : zH) (n' : Nat), PX h' → ∀ (p : Program) (e : Env) (s : State) (m : MethodId) (args : Array Value) (below : List Frame) (meth : Method) (cd : Code), zFX G M XF p s m args meth cd → ∀ (H : Heap) (locs : List Loc) (ls : Array Slot) (q : Addr) (ce : Cell), H.size = zgb G + n' → zW G h' H → va_S (zAr G) s.heap H locs → zL (zgb G) ls (zmL M) lo → H[q]? = some ce → ce.vm = .none → s.vm.findClass xN = some ce.cls → vx_W p (zgl G) e (zmr M) s m args below meth cd H locs (c + (zmr M').cells) (sl + (zmr M').slots) (QF below args s) (F0 m pc ls (st.map (zv (zgb G)))) q) : zAW G M XF QF pc lo (As.reverse ++ .ref a :: st) n h c sl := by
  intro p e s m args below meth cd F H locs ls hz hw hs hl
  obtain ⟨hB, h1, h2, h3⟩ := hC
  obtain ⟨r, hr1, hr2⟩ := hci
  have hcell : ∃ cellB : Cell, H[zgb G + a]? = some cellB ∧ cellB.vm.isStatics = false ∧ s.vm.findClass M'.1.cls = some cellB.cls := by
    obtain ⟨r', q1, cell, g1, g2, g3, -⟩ := hw a _ hh
    have hrr : r' = r := Option.some.inj (q1.symm.trans hr1)
    subst hrr
    exact ⟨cell, g1, by rw [g3]; rfl, by rw [g2, ← hr2]; exact (F.2.2.2.2.2.1.2.1.1 ci _ hr1).2.1⟩
  have hpre := zPre (As := .ref a :: As) F hz hw hs
  have run := vx_runV (b := zgb G + a) (As := As.map (zv (zgb G))) (rest := st.map (zv (zgb G))) (g := F0 m pc ls ((As.reverse ++ .ref a :: st).map (zv (zgb G)))) (e := e) (meth := meth) (below := below) (cells := c) (slots := sl) (locs := locs) (H := H) ⟨F.1, F.2.1, F.2.2.1, F.2.2.2.1, F.2.2.2.2.1⟩ k ⟨hB.of F h1, F.2.2.2.2.1 _ h2, F.2.2.2.2.1 _ h3⟩ ⟨zPc_blind, hcell, hpre⟩ rfl (by rw [List.length_map]; exact hk) hl.1 (by show (As.reverse ++ .ref a :: st).map (zv (zgb G)) = _; rw [List.map_append, List.map_reverse]; rfl) (zroom hst) hd hf
  have keep : ∀ {st₀ t T' : State} {L : List Loc}, st₀.heap = H → T'.heap = t.heap → (∀ q ∈ L, zAr G q.base) → va_F (zAr G) st₀ t → va_S (zAr G) s.heap T'.heap (locs ++ L) := fun {st₀ t T' L} h0 e1 hL q5 => by
    refine ⟨?_, fun q h1 h2 => ?_, fun q hq => ?_⟩
    · rw [e1]; exact Nat.le_trans hs.1 (by rw [← h0]; exact q5.1)
    · rw [e1, q5.2 q (by rw [h0]; exact Nat.lt_of_lt_of_le h1 hs.1) h2, h0]; exact hs.2.1 q h1 h2
    · rcases List.mem_append.mp hq with h1 | h1
      · exact hs.2.2 q h1
      · exact hL q h1
  intro T hT X
  rcases run T hT X with ⟨v, st₀, t, T', L, h0, X', hL, e1, e2, ⟨r, n', h', q1, q2, q3, q4, q5⟩, go⟩ | ⟨q, st₀, t, T', L, E, ce, h0, X', hL, e1, e2, ⟨hE, ⟨n', h', q2, q3, q4⟩, q5⟩, hce, hcv, hcl, stp⟩
  · have hv : v = r.map (zv (zgb G)) := by cases q1; rfl
    subst hv
    have K := q4 p e s m args below meth cd F T'.heap (locs ++ L) ls (by rw [e1]; exact q2) (by rw [e1]; exact q3) (keep h0 e1 hL q5) hl
    obtain ⟨u, a1, b1⟩ := K T' rfl X'
    refine ⟨u, go u ?_, b1⟩
    have hst : (r.toList ++ st).map (zv (zgb G)) = (r.map (zv (zgb G))).toList ++ st.map (zv (zgb G)) := by cases r <;> simp
    rw [hst] at a1
    exact a1
  · subst hE
    obtain ⟨u, a1, b1⟩ := kx h' n' q4 p e s m args below meth cd F T'.heap (locs ++ L) ls q ce (by rw [e1]; exact q2) (by rw [e1]; exact q3) (keep h0 e1 hL q5) hl (by rw [e1]; exact hce) hcv hcl T' rfl X'
    exact ⟨u, stp.trans a1, b1⟩
theorem xCast : Cond.castable xN xN ∈ zNests := by decide
theorem zr_try {hh : List (Nat × Nat × Nat × Nat)} {x : ExceptionTableEntry} {i : Nat} {M' : zM} {As : List Value} {a ci kk idx : Nat} {fs : List Value} {PX : zH → Prop} (htab : tableOf hh = [x]) (hcov : covers x pc = true) (hct : x.catchType ≠ 0) (hlk : Cond.classLink M.1.cls x.catchType xN ∈ TG) (hda : decode M.2.1 x.handlerPc = .ok (.astore i, 2)) (hi : i < zmL M)
    (hC : zCV M idx M' kk) (hk : As.length = kk) (hho : h a = some (.inr (ci, fs))) (hci : ∃ r, vwCl[ci]? = some r ∧ r.1 = M'.1.cls) (hst : (st.map fun v => v.category).sum ≤ 8) (hf : c + (zmr M').cells ≤ (zmr M).cells ∧ sl + (zmr M').slots ≤ (zmr M).slots) (hd : decode M.2.1 pc = .ok (.invokevirtual idx, 3))
    (k : zMX G M' (.ref a :: As) n h (fun r n' h' => zAW G M (zHT hh) QF (pc + 3) lo (r.toList ++ st) n' h' (c + (zmr M').cells) (sl + (zmr M').slots)) PX)
    (kx : ∀ (h' : zH) (n' : Nat), PX h' → zAW G M (zHT hh) QF (x.handlerPc + 2) [] [] n' h' (c + (zmr M').cells) (sl + (zmr M').slots)) : zAW G M (zHT hh) QF pc lo (As.reverse ++ .ref a :: st) n h c sl := by
  refine zr_callVX hC hk hho hci hst hf hd k (fun h' n' hP p e s m args below meth cd F H locs ls q ce hz hw hs hl hq hv hcl => ?_)
  refine vx_catch (own := M.1.cls) (name := xN) (E := xN) F.2.2.2.1 [] x [] (F.2.2.2.2.2.2.2.2.2.2.trans htab) (fun z hz => absurd hz List.not_mem_nil) hcov hct (F.2.2.2.2.1 _ hlk) (va_Nw.use (zNest_tab xCast) (F.2.2.2.2.2.1.2.2.1 _ xCast)) hq hv hcl ?_
  refine lv_astore F.1 F.2.1 hda hl.has hi rfl (fun ls2 hl2 => ?_)
  exact kx h' n' hP p e s m args below meth cd F H locs ls2 hz hw hs ⟨hl2.1, hl2.2.1, fun j v z => by simp at z⟩
/-- a static call of a method with handlers -/
theorem zr_callSH {hh : List (Nat × Nat × Nat × Nat)} {M' : zM} {As : List Value} {kk idx : Nat} (hcw : Cond.codeWith M'.1 M'.2.1 (zmL M') (zmt M') hh ∈ TG) (hini : Cond.initialized M'.1.cls ∈ TG) (hhd : zHd M'.1 kk) (hfr : (zmr M').frames + 1 ≤ (zmr M).frames) (hlc : 8 + (zmL M' + 11) + (zmr M').locals ≤ (zmr M).locals) (hml : Cond.methodLink M.1.cls idx M'.1 ∈ TG) (hstt : Cond.static M'.1 ∈ TG) (hk : As.length = kk) (hst : (st.map fun v => v.category).sum ≤ 8) (hf : c + (zmr M').cells ≤ (zmr M).cells ∧ sl + (zmr M').slots ≤ (zmr M).slots) (hd : decode M.2.1 pc = .ok (.invokestatic idx, 3))
    (k : zMH G M' hh As n h (fun r n' h' => zAW G M XF QF (pc + 3) lo (r.toList ++ st) n' h' (c + (zmr M').cells) (sl + (zmr M').slots))) : zAW G M XF QF pc lo (As.reverse ++ st) n h c sl := by
  intro p e s m args below meth cd F H locs ls hz hw hs hl
  have hT : GoodIn TG (va_wsS M.1.cls idx M'.1 (Cond.codeWith M'.1 M'.2.1 (zmL M') (zmt M') hh :: TG)) := fun w hw => by
    unfold va_wsS at hw
    rcases List.mem_append.mp hw with h1 | h1
    · simp only [List.mem_cons, List.not_mem_nil, or_false] at h1
      rcases h1 with rfl | rfl | rfl
      · exact TG_in hml _ List.mem_cons_self
      · exact TG_in hstt _ List.mem_cons_self
      · exact TG_in hini _ List.mem_cons_self
    · exact TG_in hcw w h1
  have cw := vx_cwSW (R := zmr M) (rm := zmr M') (mc := (zmr M').cells) (ms := (zmr M').slots) kk F.2.2.2.2.1 hT rfl rfl rfl ⟨hhd.1, hhd.2.1, hhd.2.2⟩ ⟨hfr, hlc⟩
  have run := vx_runSW (As := As.map (zv (zgb G))) (rest := st.map (zv (zgb G))) (g := F0 m pc ls ((As.reverse ++ st).map (zv (zgb G)))) (e := e) (meth := meth) (below := below) (cells := c) (slots := sl) (locs := locs) (H := H) ⟨F.1, F.2.1, F.2.2.1, F.2.2.2.1, F.2.2.2.2.1⟩ k cw ⟨zPc_blind, zPre F hz hw hs⟩ rfl (by rw [List.length_map]; exact hk) hl.1 (by show (As.reverse ++ st).map (zv (zgb G)) = _; rw [List.map_append, List.map_reverse]) (zroom hst) hd hf
  exact zcall F hs hl run
/-- the script -/
def xZ (xs : Nat → Int32) : Int → Int := fun j => (xs j.toNat).toInt
theorem xZ_R {xs : Nat → Int32} (j : Int) : iR (xZ xs j) := ⟨Int32.le_toInt _, by have := Int32.toInt_lt (xs j.toNat); unfold xZ; omega⟩
def zSC (b L : Nat) (xs : Nat → Int32) (G : zG) : Array Value → State → Code → Prop := fun args s _ => args = #[Value.ref b] ∧ va_X b L xs s s.heap ∧ b < s.heap.size ∧ zgb G = s.heap.size
theorem zr_sld {b L : Nat} {xs : Nat → Int32} {i : Int} (hi : 0 ≤ i ∧ i < L) (hL : L < 2147483648) (hd : decode M.2.1 pc = .ok (.iaload, 1)) (k : zAW G M (zSC b L xs G) QF (pc + 1) lo (vi (xZ xs i) :: st) n h c sl) : zAW G M (zSC b L xs G) QF pc lo (vi i :: .retAddr b :: st) n h c sl := by
  intro p e s m args below meth cd F H locs ls hz hw hs hl
  have hX := F.2.2.2.2.2.2.2.2.2.2
  have hir : iR i := ⟨by omega, by omega⟩
  have e1 : (iZ i).toNatClampNeg = i.toNat := iZ_clamp hir
  refine va_sld F.1 F.2.1 hX.2.1 hX.2.2.1 (fun z => absurd (Nat.le_trans (Nat.le_of_eq hX.2.2.2.symm) z) (Nat.not_le.mpr hX.2.2.1)) hs (i := iZ i) ?_ hd ?_
  · rintro (z | z)
    · rw [show (0 : Int32) = iZ 0 from rfl, iZ_lt hir zR0] at z; omega
    · rw [e1] at z; omega
  · rw [e1]
    have K := k p e s m args below meth cd F H locs ls hz hw hs hl
    rw [show vi (xZ xs i) = .int (xs i.toNat) from congrArg Value.int (iZ_self (xs i.toNat))] at K
    exact K
theorem zr_slen {b L : Nat} {xs : Nat → Int32} (hd : decode M.2.1 pc = .ok (.arraylength, 1)) (k : zAW G M (zSC b L xs G) QF (pc + 1) lo (vi L :: st) n h c sl) : zAW G M (zSC b L xs G) QF pc lo (.retAddr b :: st) n h c sl := by
  intro p e s m args below meth cd F H locs ls hz hw hs hl
  have hX := F.2.2.2.2.2.2.2.2.2.2
  refine va_slen F.1 F.2.1 hX.2.1 hX.2.2.1 (fun z => absurd (Nat.le_trans (Nat.le_of_eq hX.2.2.2.symm) z) (Nat.not_le.mpr hX.2.2.1)) hs hd ?_
  have K := k p e s m args below meth cd F H locs ls hz hw hs hl
  rw [show vi (L : Int) = .int (Int32.ofNat L) from congrArg Value.int (nI_iZ L).symm] at K
  exact K
end ZT
