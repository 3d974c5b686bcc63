section ZC
variable {G : zG} {M : zM} {XF : Array Value → State → Code → Prop} {QF : List Frame → Array Value → State → State → Prop} {pc : Nat} {lo : List (Option Value)} {st : List Value} {n : Nat} {h : zH} {c sl : Nat}
/-- what 'new' of class own links to -/
def zNW (own : String) (idx ci N : Nat) (fs : List Value) : Prop := ∃ (C : String) (T : u_T) (tys : Nat → FieldType), vwCl[ci]? = some (C, T, N) ∧ (∀ w ∈ u_ws C T N, w ∈ TG) ∧ (∀ k, k < N → parseFieldDescriptor (T k).2.2.1 = some (tys k)) ∧ Cond.classLink own idx C ∈ TG ∧ Cond.instantiable C N ∈ TG ∧ Cond.initialized C ∈ TG ∧ (∀ j, j < N → defaultValue (tys j) = vp_V fs j) ∧ ∀ b, ∀ j, j < N → vp_V (fs.map (zv b)) j = vp_V fs j
theorem zr_new {ci N idx : Nat} {fs : List Value} (hf : zNW M.1.cls idx ci N fs) (hc : c + 1 ≤ (zmr M).cells) (hsl : sl + N ≤ (zmr M).slots) (hd : decode M.2.1 pc = .ok (.new idx, 3))
    (k : zAW G M XF QF (pc + 3) lo (.ref n :: st) (n + 1) (zup h n (.inr (ci, fs))) (c + 1) (sl + N)) : zAW G M XF QF pc lo st n h c sl := by
  intro p e s m args below meth cd F H locs ls hz hw hs hl
  obtain ⟨C, T, tys, h1, h2, h3, h4, h5, h6, h7, h8⟩ := hf
  have hK := F.2.2.2.2.2.1.2.1
  have hKn := hK.1 ci _ h1
  have hts := F.2.2.2.2.1
  refine W.newcK F.1 F.2.1 F.2.2.2.1 (hts _ h4) (hts _ h5) (hts _ h6) rfl hd hc hsl hKn.2.1 hz fun H1 kC hkC e1 z1 o1 => ?_
  rw [← hz] at o1
  refine k p e s m args below meth cd F H1 locs ls (by omega) (hw.push hz ?_ o1) (zS_push hs (by omega) o1) hl
  refine ⟨_, h1, ?_⟩
  have e2 := (u_born tys hts h2 hKn hkC e1 h3).to h7
  exact e2.to (fun j hj => (h8 (zgb G) j hj).symm)
theorem zS_new {fs : List Value} {N : Nat} (h : ∀ v ∈ fs, ∀ b, zv b v = v) : ∀ b, ∀ j, j < N → vp_V (fs.map (zv b)) j = vp_V fs j := by
  intro b j _
  have : fs.map (zv b) = fs := by
    conv => rhs; rw [← List.map_id fs]
    exact List.map_congr_left (fun v hv => h v hv b)
  rw [this]

theorem zr_newI {z : Int} {len : Nat} (hlen : z = (len : Int)) (hn : len < 60000000) (ha : Cond.arrayClass .int ∈ TG) (hc : c + 1 ≤ (zmr M).cells) (hsl : sl + len ≤ (zmr M).slots) (hd : decode M.2.1 pc = .ok (.newarray .int, 2))
    (k : zAW G M XF QF (pc + 2) lo (.ref n :: st) (n + 1) (zup h n (aI len (fun _ => 0))) (c + 1) (sl + len)) : zAW G M XF QF pc lo (vi z :: st) n h c sl := by
  intro p e s m args below meth cd F H locs ls hz hw hs hl
  subst hlen
  have hir : iR (len : Int) := ⟨by omega, by omega⟩
  refine va_newaK (atype := .int) F.1 F.2.1 (F.2.2.2.2.1 _ ha) rfl hd rfl (by rw [show (0 : Int32) = iZ 0 from rfl, iZ_lt hir zR0]; omega) (by rw [iZ_clamp hir]; exact Int.toNat_natCast len) (by show len * _ ≤ _; simp only [newarray.typeOf, componentBytes]; omega) hc hsl hz fun H1 cA e1 z1 o1 hAr hNm => ?_
  have hcA : cA = zgT G 0 := by
    have h9 := (F.2.2.2.2.2.1.2.1.2 0 _ rfl).2
    exact Option.some.inj (hNm.symm.trans h9)
  subst hcA
  rw [← hz] at o1
  refine k p e s m args below meth cd F H1 locs ls (by omega) (hw.push hz ?_ o1) (zS_push hs (by omega) o1) hl
  exact e1
theorem zr_newJ {z : Int} {len : Nat} (hlen : z = (len : Int)) (hn : len < 60000000) (ha : Cond.arrayClass .long ∈ TG) (hc : c + 1 ≤ (zmr M).cells) (hsl : sl + len ≤ (zmr M).slots) (hd : decode M.2.1 pc = .ok (.newarray .long, 2))
    (k : zAW G M XF QF (pc + 2) lo (.ref n :: st) (n + 1) (zup h n (aJ len (fun _ => 0))) (c + 1) (sl + len)) : zAW G M XF QF pc lo (vi z :: st) n h c sl := by
  intro p e s m args below meth cd F H locs ls hz hw hs hl
  subst hlen
  have hir : iR (len : Int) := ⟨by omega, by omega⟩
  refine va_newaK (atype := .long) F.1 F.2.1 (F.2.2.2.2.1 _ ha) rfl hd rfl (by rw [show (0 : Int32) = iZ 0 from rfl, iZ_lt hir zR0]; omega) (by rw [iZ_clamp hir]; exact Int.toNat_natCast len) (by show len * _ ≤ _; simp only [newarray.typeOf, componentBytes]; omega) hc hsl hz fun H1 cA e1 z1 o1 hAr hNm => ?_
  have hcA : cA = zgT G 1 := by
    have h9 := (F.2.2.2.2.2.1.2.1.2 1 _ rfl).2
    exact Option.some.inj (hNm.symm.trans h9)
  subst hcA
  rw [← hz] at o1
  refine k p e s m args below meth cd F H1 locs ls (by omega) (hw.push hz ?_ o1) (zS_push hs (by omega) o1) hl
  exact e1
theorem zr_newZ {z : Int} {len : Nat} (hlen : z = (len : Int)) (hn : len < 60000000) (ha : Cond.arrayClass .boolean ∈ TG) (hc : c + 1 ≤ (zmr M).cells) (hsl : sl + len ≤ (zmr M).slots) (hd : decode M.2.1 pc = .ok (.newarray .boolean, 2))
    (k : zAW G M XF QF (pc + 2) lo (.ref n :: st) (n + 1) (zup h n (aZ len (fun _ => 0))) (c + 1) (sl + len)) : zAW G M XF QF pc lo (vi z :: st) n h c sl := by
  intro p e s m args below meth cd F H locs ls hz hw hs hl
  subst hlen
  have hir : iR (len : Int) := ⟨by omega, by omega⟩
  refine va_newaK (atype := .boolean) F.1 F.2.1 (F.2.2.2.2.1 _ ha) rfl hd rfl (by rw [show (0 : Int32) = iZ 0 from rfl, iZ_lt hir zR0]; omega) (by rw [iZ_clamp hir]; exact Int.toNat_natCast len) (by show len * _ ≤ _; simp only [newarray.typeOf, componentBytes]; omega) hc hsl hz fun H1 cA e1 z1 o1 hAr hNm => ?_
  have hcA : cA = zgT G 2 := by
    have h9 := (F.2.2.2.2.2.1.2.1.2 2 _ rfl).2
    exact Option.some.inj (hNm.symm.trans h9)
  subst hcA
  rw [← hz] at o1
  refine k p e s m args below meth cd F H1 locs ls (by omega) (hw.push hz ?_ o1) (zS_push hs (by omega) o1) hl
  exact e1
theorem zr_newB {z : Int} {len : Nat} (hlen : z = (len : Int)) (hn : len < 60000000) (ha : Cond.arrayClass .byte ∈ TG) (hc : c + 1 ≤ (zmr M).cells) (hsl : sl + len ≤ (zmr M).slots) (hd : decode M.2.1 pc = .ok (.newarray .byte, 2))
    (k : zAW G M XF QF (pc + 2) lo (.ref n :: st) (n + 1) (zup h n (aB len (fun _ => 0))) (c + 1) (sl + len)) : zAW G M XF QF pc lo (vi z :: st) n h c sl := by
  intro p e s m args below meth cd F H locs ls hz hw hs hl
  subst hlen
  have hir : iR (len : Int) := ⟨by omega, by omega⟩
  refine va_newaK (atype := .byte) F.1 F.2.1 (F.2.2.2.2.1 _ ha) rfl hd rfl (by rw [show (0 : Int32) = iZ 0 from rfl, iZ_lt hir zR0]; omega) (by rw [iZ_clamp hir]; exact Int.toNat_natCast len) (by show len * _ ≤ _; simp only [newarray.typeOf, componentBytes]; omega) hc hsl hz fun H1 cA e1 z1 o1 hAr hNm => ?_
  have hcA : cA = zgT G 3 := by
    have h9 := (F.2.2.2.2.2.1.2.1.2 3 _ rfl).2
    exact Option.some.inj (hNm.symm.trans h9)
  subst hcA
  rw [← hz] at o1
  refine k p e s m args below meth cd F H1 locs ls (by omega) (hw.push hz ?_ o1) (zS_push hs (by omega) o1) hl
  exact e1
theorem zr_mna {idx : Nat} {z1 z2 : Int} (hz1 : z1 = 4) (hz2 : z2 = 8) (hcl : Cond.classLink M.1.cls idx "[[J" ∈ TG) (ha : Cond.arrayClass .long ∈ TG) (hc : c + 5 ≤ (zmr M).cells) (hsl : sl + 36 ≤ (zmr M).slots) (hd : decode M.2.1 pc = .ok (.multianewarray idx 2, 4))
    (k : zAW G M XF QF (pc + 4) lo (.ref n :: st) (n + 5) (zup (zup (zup (zup (zup h n (aR 4 (fun i => if i < 4 then some (n + 1 + i) else none))) (n + 1) (aJ 8 (fun _ => 0))) (n + 2) (aJ 8 (fun _ => 0))) (n + 3) (aJ 8 (fun _ => 0))) (n + 4) (aJ 8 (fun _ => 0))) (c + 5) (sl + 36)) : zAW G M XF QF pc lo (vi z2 :: vi z1 :: st) n h c sl := by
  intro p e s m args below meth cd F H locs ls hz hw hs hl
  subst hz1; subst hz2
  intro T hT Xs
  obtain ⟨vm₁, cA, comp, -, fA, fC, hO, -, X', step⟩ := Xs.multianewarray2F (ty := .long) F.1 F.2.2.2.1 (F.2.2.2.2.1 _ hcl) (F.2.2.2.2.2.1.1) (F.2.2.2.2.1 _ ha) (g := F0 m pc ls (.int (iZ 8) :: .int (iZ 4) :: st.map (zv (zgb G)))) rfl (by rw [F.2.1]; exact hd) rfl (by decide) (by decide) (by decide) (by decide) (by decide) (by decide) (by decide) hc hsl
  have hcomp : comp = zgT G 1 := Option.some.inj (fC.symm.trans (F.2.2.2.2.2.1.2.1.2 1 _ rfl).2)
  have hcA : cA = zgT G 4 := Option.some.inj (fA.symm.trans (F.2.2.2.2.2.1.2.1.2 4 _ rfl).2)
  subst hcomp
  subst hcA
  have e4 : (iZ 4).toNatClampNeg = 4 := by decide
  have e8 : (iZ 8).toNatClampNeg = 8 := by decide
  rw [e4, e8] at X' step
  generalize hF : Jvm.Free.Multi.fill (T.setVm vm₁) (zgT G 4) (zgT G 1) 4 8 (defaultValue .long) 4 = U at X' step
  have hTh : (T.setVm vm₁).heap = H := hT
  obtain ⟨f1, f2, -, -⟩ := Jvm.Free.Multi.fill_facts (T.setVm vm₁) (zgT G 4) (zgT G 1) 4 8 (defaultValue .long) 4
  rw [hF, hTh] at f1 f2
  have hold : ∀ x : Nat, x < H.size → U.heap[x]? = H[x]? := fun x hx => by
    have := Jvm.Free.Multi.fill_old (T.setVm vm₁) (zgT G 4) (zgT G 1) 4 8 (defaultValue .long) (a := x) (by rw [hTh]; exact hx) 4
    rw [hF, hTh] at this
    exact this
  have hrow : ∀ j : Nat, j < 4 → U.heap[H.size + 1 + j]? = some (Jvm.Free.Multi.innerC (zgT G 1) 8 (defaultValue .long)) := fun j hj => by
    have := Jvm.Free.Multi.fill_inner (T.setVm vm₁) (zgT G 4) (zgT G 1) 4 8 (defaultValue .long) 4 j hj
    rw [hF, hTh] at this
    exact this
  have hin : Jvm.Free.Multi.innerC (zgT G 1) 8 (defaultValue .long) = vp_cell (zgT G 1) (8, .inr (.inl (fJ (fun _ => 0)))) := by
    show ({ cls := zgT G 1, slots := Array.replicate 8 (defaultValue .long), vm := .none } : Cell) = _
    rw [vp_cell_l, arrV_new]
    rfl
  rw [vr_outer, hz] at f2
  rw [hin, hz] at hrow
  have hw1 : zW G (zup (zup (zup (zup (zup h n (aR 4 (fun i => if i < 4 then some (n + 1 + i) else none))) (n + 1) (aJ 8 (fun _ => 0))) (n + 2) (aJ 8 (fun _ => 0))) (n + 3) (aJ 8 (fun _ => 0))) (n + 4) (aJ 8 (fun _ => 0))) U.heap := by
    intro k e he
    unfold zup at he
    by_cases k4 : k = n + 4
    · rw [if_pos k4] at he; cases he; subst k4; exact hrow 3 (by decide)
    rw [if_neg k4] at he
    by_cases k3 : k = n + 3
    · rw [if_pos k3] at he; cases he; subst k3; exact hrow 2 (by decide)
    rw [if_neg k3] at he
    by_cases k2 : k = n + 2
    · rw [if_pos k2] at he; cases he; subst k2; exact hrow 1 (by decide)
    rw [if_neg k2] at he
    by_cases k1 : k = n + 1
    · rw [if_pos k1] at he; cases he; subst k1; exact hrow 0 (by decide)
    rw [if_neg k1] at he
    by_cases k0 : k = n
    · rw [if_pos k0] at he; cases he; rw [k0]
      show U.heap[zgb G + n]? = some (vp_cell (zgT G 4) (4, .inr (.inr (.inr (.inr (fun j => Option.map (fun a => zgb G + a) (if j < 4 then some (n + 1 + j) else none)))))))
      rw [f2, vp_cell_q]
      congr 2
      funext j
      by_cases hj : j < 4
      · rw [if_pos hj, if_pos hj]
        show Value.ref (zgb G + n + 1 + j) = Value.ref (zgb G + (n + 1 + j))
        rw [show zgb G + (n + 1 + j) = zgb G + n + 1 + j from by rw [← Nat.add_assoc, ← Nat.add_assoc]]
      · rw [if_neg hj, if_neg hj]
        rfl
    rw [if_neg k0] at he
    exact (hw k e he).kept (hold _ (hw k e he).lt)
  obtain ⟨t, a1, b1⟩ := k p e s m args below meth cd F U.heap locs ls (by rw [f1, hz]; omega) hw1 (zS_push hs (by rw [f1]; omega) hold) hl U rfl X'
  refine ⟨t, step t ?_, b1⟩
  rw [hT, hz]
  exact a1
/-! calls -/
def zHd (y : MethodName) (k : Nat) : Prop := y.cls ≠ "java/lang/invoke/MethodHandle" ∧ y.cls ≠ "java/lang/invoke/VarHandle" ∧ (parseMethodDescriptor y.desc).map (fun d => d.parameters.length) = some k
/-- the words of a call: the callee's code, its class; names; the room -/
def zCB (M M' : zM) (k : Nat) : Prop := Cond.code M'.1 M'.2.1 (zmL M') (zmt M') ∈ TG ∧ Cond.initialized M'.1.cls ∈ TG ∧ zHd M'.1 k ∧ (zmr M').frames + 1 ≤ (zmr M).frames ∧ 8 + (zmL M' + 11) + (zmr M').locals ≤ (zmr M).locals
def zCV (M : zM) (idx : Nat) (M' : zM) (k : Nat) : Prop := zCB M M' k ∧ Cond.methodLink M.1.cls idx M'.1 ∈ TG ∧ Cond.instanceMethod M'.1 ∈ TG ∧ Cond.selects M'.1.cls M'.1 M'.1 ∈ TG
def zCS (M : zM) (idx : Nat) (M' : zM) (k : Nat) : Prop := zCB M M' k ∧ Cond.methodLink M.1.cls idx M'.1 ∈ TG ∧ Cond.static M'.1 ∈ TG
def zCI (M : zM) (idx : Nat) (M' : zM) (k : Nat) : Prop := zCB M M' k ∧ Cond.methodLink M.1.cls idx M'.1 ∈ TG ∧ Cond.instanceMethod M'.1 ∈ TG ∧ M'.1.name = "<init>" ∧ zmt M' = none
def zCN (M : zM) (idx : Nat) (M' : zM) (k : Nat) : Prop := zCB M M' k ∧ Cond.methodLinkNest M.1.cls idx M'.1 "RoadOffice" ∈ zNests ∧ Cond.static M'.1 ∈ TG
/-- behind a call that ran -/
theorem zcall {M' : zM} {a : Array Value} {p : Program} {e : Env} {s : State} {m : MethodId} {args : Array Value} {below : List Frame} {meth : Method} {cd : Code} {H : Heap} {locs : List Loc} {ls : Array Slot} {Sk : List Value}
    (F : zFX G M XF p s m args meth cd) (hs : va_S (zAr G) s.heap H locs) (hl : zL (zgb G) ls (zmL M) lo)
    (run : va_Run p (zgl G) e (zmr M) s m args below meth cd H locs c sl (zmr M').cells (zmr M').slots (F0 m pc ls Sk) (st.map (zv (zgb G))) (zQc G (fun r n' h' => zAW G M XF QF (pc + 3) lo (r.toList ++ st) n' h' (c + (zmr M').cells) (sl + (zmr M').slots)) a) (zAr G)) :
    W p (zgl G) e (zmr M) s m args below meth cd H locs c sl (QF below args s) (F0 m pc ls Sk) := by
  intro T hT X
  obtain ⟨v, st₀, t, T', L, h0, X', hL, e1, e2, ⟨r, n', h', q1, q2, q3, q4, q5⟩, go⟩ := run T hT X
  have hv : v = r.map (zv (zgb G)) := by cases q1; rfl
  subst hv
  have hS' : va_S (zAr G) s.heap T'.heap (locs ++ L) := by
    refine ⟨?_, fun q h1 h2 => ?_, fun q hq => ?_⟩
    · rw [e1]; exact Nat.le_trans hs.1 (by rw [← h0]; exact q5.1)
    · rw [e1, q5.2 q (by rw [h0]; exact Nat.lt_of_lt_of_le h1 hs.1) h2, h0]; exact hs.2.1 q h1 h2
    · rcases List.mem_append.mp hq with h1 | h1
      · exact hs.2.2 q h1
      · exact hL q h1
  have K := q4 p e s m args below meth cd F T'.heap (locs ++ L) ls (by rw [e1]; exact q2) (by rw [e1]; exact q3) hS' hl
  obtain ⟨u, a1, b1⟩ := K T' rfl X'
  refine ⟨u, go u ?_, b1⟩
  have hst : (r.toList ++ st).map (zv (zgb G)) = (r.map (zv (zgb G))).toList ++ st.map (zv (zgb G)) := by cases r <;> simp
  rw [hst] at a1
  exact a1
theorem zPre {p : Program} {s : State} {m : MethodId} {args : Array Value} {meth : Method} {cd : Code} {H : Heap} {locs : List Loc} {As : List Value} (F : zFX G M XF p s m args meth cd) (hz : H.size = zgb G + n) (hw : zW G h H) (hs : va_S (zAr G) s.heap H locs) : ∀ U : State, U.heap = H → s.WarmedH U.vm → zPc G As n h (As.map (zv (zgb G))).toArray U :=
  fun U hU hW => ⟨rfl, by rw [hU]; exact hz, by rw [hU]; exact hw, F.2.2.2.2.2.1.moved hW hs hU⟩
theorem zCB.of {M' : zM} {kk : Nat} {p : Program} {s : State} {m : MethodId} {args : Array Value} {meth : Method} {cd : Code} {idx : Nat} (F : zFX G M XF p s m args meth cd) (hC : zCB M M' kk) (hml : Cond.methodLink M.1.cls idx M'.1 ∈ TG) : CallB (zmr M) s args M.1.cls idx M'.1 M'.2.1 (zmL M') (zmt M') (Cond.code M'.1 M'.2.1 (zmL M') (zmt M') :: TG) (zmr M') (zmr M').cells (zmr M').slots kk := by
  obtain ⟨c1, c2, c3, c4, c5⟩ := hC
  exact callB_of kk F.2.2.2.2.1 (TG_in c1) rfl rfl rfl (F.2.2.2.2.1 _ c2) (F.2.2.2.2.1 _ hml) c3 ⟨c4, c5⟩
theorem zroom {S : List Value} {b : Nat} {m : MethodId} {q : Nat} {ls : Array Slot} {r : List Value} (h : (S.map fun v => v.category).sum ≤ 8) : 2 * (F0 m q ls r).monitorRoom + ((S.map (zv b)).map fun v => v.category).sum ≤ 8 := by
  refine lv_room ?_
  rw [List.map_map]
  have : (fun v => v.category) ∘ zv b = fun v => v.category := funext (fun v => zv_cat b v)
  rw [this]
  exact h
theorem zr_callV {M' : zM} {As : List Value} {a ci kk idx : Nat} {fs : List Value} (hC : zCV M idx M' kk) (hk : As.length = kk) (hh : h a = some (.inr (ci, fs))) (hci : ∃ r, vwCl[ci]? = some r ∧ r.1 = M'.1.cls) (hst : (st.map fun v => v.category).sum ≤ 8) (hf : c + (zmr M').cells ≤ (zmr M).cells ∧ sl + (zmr M').slots ≤ (zmr M).slots) (hd : decode M.2.1 pc = .ok (.invokevirtual idx, 3))
    (k : zMP G M' (.ref a :: As) n h (fun r n' h' => zAW G M XF QF (pc + 3) lo (r.toList ++ st) n' h' (c + (zmr M').cells) (sl + (zmr M').slots))) : zAW G M XF QF pc lo (As.reverse ++ .ref a :: st) n h c sl := by
  intro p e s m args below meth cd F H locs ls hz hw hs hl
  obtain ⟨hB, h1, h2, h3⟩ := hC
  obtain ⟨r, hr1, hr2⟩ := hci
  have hcell : ∃ cellB : Cell, H[zgb G + a]? = some cellB ∧ cellB.vm.isStatics = false ∧ s.vm.findClass M'.1.cls = some cellB.cls := by
    obtain ⟨r', q1, cell, g1, g2, g3, -⟩ := hw a _ hh
    have hrr : r' = r := Option.some.inj (q1.symm.trans hr1)
    subst hrr
    exact ⟨cell, g1, by rw [g3]; rfl, by rw [g2, ← hr2]; exact (F.2.2.2.2.2.1.2.1.1 ci _ hr1).2.1⟩
  have hpre := zPre (As := .ref a :: As) F hz hw hs
  have run := va_runV (b := zgb G + a) (As := As.map (zv (zgb G))) (rest := st.map (zv (zgb G))) (g := F0 m pc ls ((As.reverse ++ .ref a :: st).map (zv (zgb G)))) (e := e) (meth := meth) (below := below) (cells := c) (slots := sl) (locs := locs) (H := H) ⟨F.1, F.2.1, F.2.2.1, F.2.2.2.1, F.2.2.2.2.1⟩ k ⟨hB.of F h1, F.2.2.2.2.1 _ h2, F.2.2.2.2.1 _ h3⟩ ⟨zPc_blind, hcell, hpre⟩ rfl (by rw [List.length_map]; exact hk) hl.1 (by show (As.reverse ++ .ref a :: st).map (zv (zgb G)) = _; rw [List.map_append, List.map_reverse]; rfl) (zroom hst) hd hf
  exact zcall F hs hl run
theorem zr_callS {M' : zM} {As : List Value} {kk idx : Nat} (hC : zCS M idx M' kk) (hk : As.length = kk) (hst : (st.map fun v => v.category).sum ≤ 8) (hf : c + (zmr M').cells ≤ (zmr M).cells ∧ sl + (zmr M').slots ≤ (zmr M).slots) (hd : decode M.2.1 pc = .ok (.invokestatic idx, 3))
    (k : zMP G M' As n h (fun r n' h' => zAW G M XF QF (pc + 3) lo (r.toList ++ st) n' h' (c + (zmr M').cells) (sl + (zmr M').slots))) : zAW G M XF QF pc lo (As.reverse ++ st) n h c sl := by
  intro p e s m args below meth cd F H locs ls hz hw hs hl
  obtain ⟨hB, h1, h2⟩ := hC
  have run := va_runS (As := As.map (zv (zgb G))) (rest := st.map (zv (zgb G))) (g := F0 m pc ls ((As.reverse ++ st).map (zv (zgb G)))) (e := e) (meth := meth) (below := below) (cells := c) (slots := sl) (locs := locs) (H := H) ⟨F.1, F.2.1, F.2.2.1, F.2.2.2.1, F.2.2.2.2.1⟩ k ⟨hB.of F h1, F.2.2.2.2.1 _ h2⟩ ⟨zPc_blind, zPre F hz hw hs⟩ rfl (by rw [List.length_map]; exact hk) hl.1 (by show (As.reverse ++ st).map (zv (zgb G)) = _; rw [List.map_append, List.map_reverse]) (zroom hst) hd hf
  exact zcall F hs hl run
theorem zr_callN {M' : zM} {As : List Value} {kk idx : Nat} (hC : zCN M idx M' kk) (hk : As.length = kk) (hst : (st.map fun v => v.category).sum ≤ 8) (hf : c + (zmr M').cells ≤ (zmr M).cells ∧ sl + (zmr M').slots ≤ (zmr M).slots) (hd : decode M.2.1 pc = .ok (.invokestatic idx, 3))
    (k : zMP G M' As n h (fun r n' h' => zAW G M XF QF (pc + 3) lo (r.toList ++ st) n' h' (c + (zmr M').cells) (sl + (zmr M').slots))) : zAW G M XF QF pc lo (As.reverse ++ st) n h c sl := by
  intro p e s m args below meth cd F H locs ls hz hw hs hl
  obtain ⟨⟨c1, c2, c3, c4, c5⟩, h1, h2⟩ := hC
  have cn : va_CN (zmr M) s args M.1.cls idx M'.1 "RoadOffice" M'.2.1 (zmL M') (zmt M') (Cond.code M'.1 M'.2.1 (zmL M') (zmt M') :: TG) (zmr M') (zmr M').cells (zmr M').slots kk := va_cnB kk F.2.2.2.2.1 (TG_in c1) rfl rfl rfl (F.2.2.2.2.2.1.2.2.1 _ h1) (F.2.2.2.2.1 _ c2) c3 ⟨c4, c5⟩
  have run := va_runSN (As := As.map (zv (zgb G))) (rest := st.map (zv (zgb G))) (g := F0 m pc ls ((As.reverse ++ st).map (zv (zgb G)))) (e := e) (meth := meth) (below := below) (cells := c) (slots := sl) (locs := locs) (H := H) ⟨F.1, F.2.1, F.2.2.1, F.2.2.2.1, F.2.2.2.2.1⟩ k ⟨cn, F.2.2.2.2.1 _ h2, trivial⟩ ⟨zPc_blind, zPre F hz hw hs⟩ rfl (by rw [List.length_map]; exact hk) hl.1 (by show (As.reverse ++ st).map (zv (zgb G)) = _; rw [List.map_append, List.map_reverse]) (zroom hst) hd hf
  exact zcall F hs hl run
theorem zr_callI {M' : zM} {As : List Value} {a kk idx : Nat} (hC : zCI M idx M' kk) (hk : As.length = kk) (hst : (st.map fun v => v.category).sum ≤ 8) (hf : c + (zmr M').cells ≤ (zmr M).cells ∧ sl + (zmr M').slots ≤ (zmr M).slots) (hd : decode M.2.1 pc = .ok (.invokespecial idx, 3))
    (k : zMP G M' (.ref a :: As) n h (fun r n' h' => zAW G M XF QF (pc + 3) lo (r.toList ++ st) n' h' (c + (zmr M').cells) (sl + (zmr M').slots))) : zAW G M XF QF pc lo (As.reverse ++ .ref a :: st) n h c sl := by
  intro p e s m args below meth cd F H locs ls hz hw hs hl
  obtain ⟨hB, h1, h2, h3, h4⟩ := hC
  have hpre := zPre (As := .ref a :: As) F hz hw hs
  have cb := hB.of F h1
  unfold zMP at k
  rw [h4] at cb k
  have run := va_runI (b := zgb G + a) (As := As.map (zv (zgb G))) (rest := st.map (zv (zgb G))) (g := F0 m pc ls ((As.reverse ++ .ref a :: st).map (zv (zgb G)))) (e := e) (meth := meth) (below := below) (cells := c) (slots := sl) (locs := locs) (H := H) ⟨F.1, F.2.1, F.2.2.1, F.2.2.2.1, F.2.2.2.2.1⟩ k ⟨cb, h3, F.2.2.2.2.1 _ h2⟩ ⟨zPc_blind, hpre⟩ rfl (by rw [List.length_map]; exact hk) hl.1 (by show (As.reverse ++ .ref a :: st).map (zv (zgb G)) = _; rw [List.map_append, List.map_reverse]; rfl) (zroom hst) hd hf
  exact zcall F hs hl run
theorem zr_objInit {a idx : Nat} (hl1 : Cond.methodLink M.1.cls idx Lib.objectInit ∈ TG) (hl2 : Cond.instanceMethod Lib.objectInit ∈ TG) (hl3 : Cond.code Lib.objectInit ⟨#[0xb1]⟩ 1 none ∈ TG) (hfr : 1 ≤ (zmr M).frames) (hlc : (st.map fun v => v.category).sum + 12 ≤ (zmr M).locals) (hd : decode M.2.1 pc = .ok (.invokespecial idx, 3))
    (k : zAW G M XF QF (pc + 3) lo st n h c sl) : zAW G M XF QF pc lo (.ref a :: st) n h c sl := by
  intro p e s m args below meth cd F H locs ls hz hw hs hl
  have hts := F.2.2.2.2.1
  refine W.objInit F.1 F.2.1 F.2.2.2.1 (hts _ hl1) (hts _ hl2) (hts _ hl3) rfl (hl.1.trans F.2.2.1.symm) rfl hd hfr ?_ (k p e s m args below meth cd F H locs ls hz hw hs hl)
  show 2 * 0 + _ + 12 ≤ _
  have e1 : (fun v => v.category) ∘ zv (zgb G) = fun v => v.category := funext (fun v => zv_cat (zgb G) v)
  rw [List.map_map, e1]
  omega
end ZC
section ZD
variable {G : zG} {M M' : zM} {XF : Array Value → State → Code → Prop} {QF : List Frame → Array Value → State → State → Prop} {pc : Nat} {lo : List (Option Value)} {st : List Value} {n : Nat} {h : zH} {c sl : Nat}
theorem zv_call0 {a ci idx : Nat} {fs : List Value} (hC : zCV M idx M' 0) (hh : h a = some (.inr (ci, fs))) (hci : ∃ r, vwCl[ci]? = some r ∧ r.1 = M'.1.cls) (hst : (st.map fun v => v.category).sum ≤ 8) (hf : c + (zmr M').cells ≤ (zmr M).cells ∧ sl + (zmr M').slots ≤ (zmr M).slots) (hd : decode M.2.1 pc = .ok (.invokevirtual idx, 3)) (k : zMP G M' (.ref a :: []) n h (fun r n' h' => zAW G M XF QF (pc + 3) lo (r.toList ++ st) n' h' (c + (zmr M').cells) (sl + (zmr M').slots))) : zAW G M XF QF pc lo (.ref a :: st) n h c sl := zr_callV (As := []) hC rfl hh hci hst hf hd k
theorem zi_call0 {a idx : Nat} (hC : zCI M idx M' 0) (hst : (st.map fun v => v.category).sum ≤ 8) (hf : c + (zmr M').cells ≤ (zmr M).cells ∧ sl + (zmr M').slots ≤ (zmr M).slots) (hd : decode M.2.1 pc = .ok (.invokespecial idx, 3)) (k : zMP G M' (.ref a :: []) n h (fun r n' h' => zAW G M XF QF (pc + 3) lo (r.toList ++ st) n' h' (c + (zmr M').cells) (sl + (zmr M').slots))) : zAW G M XF QF pc lo (.ref a :: st) n h c sl := zr_callI (As := []) hC rfl hst hf hd k
theorem zc_call0 {idx : Nat} (hC : zCS M idx M' 0) (hst : (st.map fun v => v.category).sum ≤ 8) (hf : c + (zmr M').cells ≤ (zmr M).cells ∧ sl + (zmr M').slots ≤ (zmr M).slots) (hd : decode M.2.1 pc = .ok (.invokestatic idx, 3)) (k : zMP G M' [] n h (fun r n' h' => zAW G M XF QF (pc + 3) lo (r.toList ++ st) n' h' (c + (zmr M').cells) (sl + (zmr M').slots))) : zAW G M XF QF pc lo (st) n h c sl := zr_callS (As := []) hC rfl hst hf hd k
theorem zv_call1 {v0 : Value} {a ci idx : Nat} {fs : List Value} (hC : zCV M idx M' 1) (hh : h a = some (.inr (ci, fs))) (hci : ∃ r, vwCl[ci]? = some r ∧ r.1 = M'.1.cls) (hst : (st.map fun v => v.category).sum ≤ 8) (hf : c + (zmr M').cells ≤ (zmr M).cells ∧ sl + (zmr M').slots ≤ (zmr M).slots) (hd : decode M.2.1 pc = .ok (.invokevirtual idx, 3)) (k : zMP G M' (.ref a :: [v0]) n h (fun r n' h' => zAW G M XF QF (pc + 3) lo (r.toList ++ st) n' h' (c + (zmr M').cells) (sl + (zmr M').slots))) : zAW G M XF QF pc lo (v0 :: .ref a :: st) n h c sl := zr_callV (As := [v0]) hC rfl hh hci hst hf hd k
theorem zi_call1 {v0 : Value} {a idx : Nat} (hC : zCI M idx M' 1) (hst : (st.map fun v => v.category).sum ≤ 8) (hf : c + (zmr M').cells ≤ (zmr M).cells ∧ sl + (zmr M').slots ≤ (zmr M).slots) (hd : decode M.2.1 pc = .ok (.invokespecial idx, 3)) (k : zMP G M' (.ref a :: [v0]) n h (fun r n' h' => zAW G M XF QF (pc + 3) lo (r.toList ++ st) n' h' (c + (zmr M').cells) (sl + (zmr M').slots))) : zAW G M XF QF pc lo (v0 :: .ref a :: st) n h c sl := zr_callI (As := [v0]) hC rfl hst hf hd k
theorem zc_call1 {v0 : Value} {idx : Nat} (hC : zCS M idx M' 1) (hst : (st.map fun v => v.category).sum ≤ 8) (hf : c + (zmr M').cells ≤ (zmr M).cells ∧ sl + (zmr M').slots ≤ (zmr M).slots) (hd : decode M.2.1 pc = .ok (.invokestatic idx, 3)) (k : zMP G M' [v0] n h (fun r n' h' => zAW G M XF QF (pc + 3) lo (r.toList ++ st) n' h' (c + (zmr M').cells) (sl + (zmr M').slots))) : zAW G M XF QF pc lo (v0 :: st) n h c sl := zr_callS (As := [v0]) hC rfl hst hf hd k
theorem zv_call2 {v0 v1 : Value} {a ci idx : Nat} {fs : List Value} (hC : zCV M idx M' 2) (hh : h a = some (.inr (ci, fs))) (hci : ∃ r, vwCl[ci]? = some r ∧ r.1 = M'.1.cls) (hst : (st.map fun v => v.category).sum ≤ 8) (hf : c + (zmr M').cells ≤ (zmr M).cells ∧ sl + (zmr M').slots ≤ (zmr M).slots) (hd : decode M.2.1 pc = .ok (.invokevirtual idx, 3)) (k : zMP G M' (.ref a :: [v0, v1]) n h (fun r n' h' => zAW G M XF QF (pc + 3) lo (r.toList ++ st) n' h' (c + (zmr M').cells) (sl + (zmr M').slots))) : zAW G M XF QF pc lo (v1 :: v0 :: .ref a :: st) n h c sl := zr_callV (As := [v0, v1]) hC rfl hh hci hst hf hd k
theorem zi_call2 {v0 v1 : Value} {a idx : Nat} (hC : zCI M idx M' 2) (hst : (st.map fun v => v.category).sum ≤ 8) (hf : c + (zmr M').cells ≤ (zmr M).cells ∧ sl + (zmr M').slots ≤ (zmr M).slots) (hd : decode M.2.1 pc = .ok (.invokespecial idx, 3)) (k : zMP G M' (.ref a :: [v0, v1]) n h (fun r n' h' => zAW G M XF QF (pc + 3) lo (r.toList ++ st) n' h' (c + (zmr M').cells) (sl + (zmr M').slots))) : zAW G M XF QF pc lo (v1 :: v0 :: .ref a :: st) n h c sl := zr_callI (As := [v0, v1]) hC rfl hst hf hd k
theorem zc_call2 {v0 v1 : Value} {idx : Nat} (hC : zCS M idx M' 2) (hst : (st.map fun v => v.category).sum ≤ 8) (hf : c + (zmr M').cells ≤ (zmr M).cells ∧ sl + (zmr M').slots ≤ (zmr M).slots) (hd : decode M.2.1 pc = .ok (.invokestatic idx, 3)) (k : zMP G M' [v0, v1] n h (fun r n' h' => zAW G M XF QF (pc + 3) lo (r.toList ++ st) n' h' (c + (zmr M').cells) (sl + (zmr M').slots))) : zAW G M XF QF pc lo (v1 :: v0 :: st) n h c sl := zr_callS (As := [v0, v1]) hC rfl hst hf hd k
theorem zn_call2 {v0 v1 : Value} {idx : Nat} (hC : zCN M idx M' 2) (hst : (st.map fun v => v.category).sum ≤ 8) (hf : c + (zmr M').cells ≤ (zmr M).cells ∧ sl + (zmr M').slots ≤ (zmr M).slots) (hd : decode M.2.1 pc = .ok (.invokestatic idx, 3)) (k : zMP G M' [v0, v1] n h (fun r n' h' => zAW G M XF QF (pc + 3) lo (r.toList ++ st) n' h' (c + (zmr M').cells) (sl + (zmr M').slots))) : zAW G M XF QF pc lo (v1 :: v0 :: st) n h c sl := zr_callN (As := [v0, v1]) hC rfl hst hf hd k
theorem zv_call3 {v0 v1 v2 : Value} {a ci idx : Nat} {fs : List Value} (hC : zCV M idx M' 3) (hh : h a = some (.inr (ci, fs))) (hci : ∃ r, vwCl[ci]? = some r ∧ r.1 = M'.1.cls) (hst : (st.map fun v => v.category).sum ≤ 8) (hf : c + (zmr M').cells ≤ (zmr M).cells ∧ sl + (zmr M').slots ≤ (zmr M).slots) (hd : decode M.2.1 pc = .ok (.invokevirtual idx, 3)) (k : zMP G M' (.ref a :: [v0, v1, v2]) n h (fun r n' h' => zAW G M XF QF (pc + 3) lo (r.toList ++ st) n' h' (c + (zmr M').cells) (sl + (zmr M').slots))) : zAW G M XF QF pc lo (v2 :: v1 :: v0 :: .ref a :: st) n h c sl := zr_callV (As := [v0, v1, v2]) hC rfl hh hci hst hf hd k
theorem zi_call3 {v0 v1 v2 : Value} {a idx : Nat} (hC : zCI M idx M' 3) (hst : (st.map fun v => v.category).sum ≤ 8) (hf : c + (zmr M').cells ≤ (zmr M).cells ∧ sl + (zmr M').slots ≤ (zmr M).slots) (hd : decode M.2.1 pc = .ok (.invokespecial idx, 3)) (k : zMP G M' (.ref a :: [v0, v1, v2]) n h (fun r n' h' => zAW G M XF QF (pc + 3) lo (r.toList ++ st) n' h' (c + (zmr M').cells) (sl + (zmr M').slots))) : zAW G M XF QF pc lo (v2 :: v1 :: v0 :: .ref a :: st) n h c sl := zr_callI (As := [v0, v1, v2]) hC rfl hst hf hd k
theorem zc_call3 {v0 v1 v2 : Value} {idx : Nat} (hC : zCS M idx M' 3) (hst : (st.map fun v => v.category).sum ≤ 8) (hf : c + (zmr M').cells ≤ (zmr M).cells ∧ sl + (zmr M').slots ≤ (zmr M).slots) (hd : decode M.2.1 pc = .ok (.invokestatic idx, 3)) (k : zMP G M' [v0, v1, v2] n h (fun r n' h' => zAW G M XF QF (pc + 3) lo (r.toList ++ st) n' h' (c + (zmr M').cells) (sl + (zmr M').slots))) : zAW G M XF QF pc lo (v2 :: v1 :: v0 :: st) n h c sl := zr_callS (As := [v0, v1, v2]) hC rfl hst hf hd k
theorem zv_call4 {v0 v1 v2 v3 : Value} {a ci idx : Nat} {fs : List Value} (hC : zCV M idx M' 4) (hh : h a = some (.inr (ci, fs))) (hci : ∃ r, vwCl[ci]? = some r ∧ r.1 = M'.1.cls) (hst : (st.map fun v => v.category).sum ≤ 8) (hf : c + (zmr M').cells ≤ (zmr M).cells ∧ sl + (zmr M').slots ≤ (zmr M).slots) (hd : decode M.2.1 pc = .ok (.invokevirtual idx, 3)) (k : zMP G M' (.ref a :: [v0, v1, v2, v3]) n h (fun r n' h' => zAW G M XF QF (pc + 3) lo (r.toList ++ st) n' h' (c + (zmr M').cells) (sl + (zmr M').slots))) : zAW G M XF QF pc lo (v3 :: v2 :: v1 :: v0 :: .ref a :: st) n h c sl := zr_callV (As := [v0, v1, v2, v3]) hC rfl hh hci hst hf hd k
theorem zi_call4 {v0 v1 v2 v3 : Value} {a idx : Nat} (hC : zCI M idx M' 4) (hst : (st.map fun v => v.category).sum ≤ 8) (hf : c + (zmr M').cells ≤ (zmr M).cells ∧ sl + (zmr M').slots ≤ (zmr M).slots) (hd : decode M.2.1 pc = .ok (.invokespecial idx, 3)) (k : zMP G M' (.ref a :: [v0, v1, v2, v3]) n h (fun r n' h' => zAW G M XF QF (pc + 3) lo (r.toList ++ st) n' h' (c + (zmr M').cells) (sl + (zmr M').slots))) : zAW G M XF QF pc lo (v3 :: v2 :: v1 :: v0 :: .ref a :: st) n h c sl := zr_callI (As := [v0, v1, v2, v3]) hC rfl hst hf hd k
theorem zc_call4 {v0 v1 v2 v3 : Value} {idx : Nat} (hC : zCS M idx M' 4) (hst : (st.map fun v => v.category).sum ≤ 8) (hf : c + (zmr M').cells ≤ (zmr M).cells ∧ sl + (zmr M').slots ≤ (zmr M).slots) (hd : decode M.2.1 pc = .ok (.invokestatic idx, 3)) (k : zMP G M' [v0, v1, v2, v3] n h (fun r n' h' => zAW G M XF QF (pc + 3) lo (r.toList ++ st) n' h' (c + (zmr M').cells) (sl + (zmr M').slots))) : zAW G M XF QF pc lo (v3 :: v2 :: v1 :: v0 :: st) n h c sl := zr_callS (As := [v0, v1, v2, v3]) hC rfl hst hf hd k
theorem zv_call5 {v0 v1 v2 v3 v4 : Value} {a ci idx : Nat} {fs : List Value} (hC : zCV M idx M' 5) (hh : h a = some (.inr (ci, fs))) (hci : ∃ r, vwCl[ci]? = some r ∧ r.1 = M'.1.cls) (hst : (st.map fun v => v.category).sum ≤ 8) (hf : c + (zmr M').cells ≤ (zmr M).cells ∧ sl + (zmr M').slots ≤ (zmr M).slots) (hd : decode M.2.1 pc = .ok (.invokevirtual idx, 3)) (k : zMP G M' (.ref a :: [v0, v1, v2, v3, v4]) n h (fun r n' h' => zAW G M XF QF (pc + 3) lo (r.toList ++ st) n' h' (c + (zmr M').cells) (sl + (zmr M').slots))) : zAW G M XF QF pc lo (v4 :: v3 :: v2 :: v1 :: v0 :: .ref a :: st) n h c sl := zr_callV (As := [v0, v1, v2, v3, v4]) hC rfl hh hci hst hf hd k
theorem zi_call5 {v0 v1 v2 v3 v4 : Value} {a idx : Nat} (hC : zCI M idx M' 5) (hst : (st.map fun v => v.category).sum ≤ 8) (hf : c + (zmr M').cells ≤ (zmr M).cells ∧ sl + (zmr M').slots ≤ (zmr M).slots) (hd : decode M.2.1 pc = .ok (.invokespecial idx, 3)) (k : zMP G M' (.ref a :: [v0, v1, v2, v3, v4]) n h (fun r n' h' => zAW G M XF QF (pc + 3) lo (r.toList ++ st) n' h' (c + (zmr M').cells) (sl + (zmr M').slots))) : zAW G M XF QF pc lo (v4 :: v3 :: v2 :: v1 :: v0 :: .ref a :: st) n h c sl := zr_callI (As := [v0, v1, v2, v3, v4]) hC rfl hst hf hd k
theorem zc_call5 {v0 v1 v2 v3 v4 : Value} {idx : Nat} (hC : zCS M idx M' 5) (hst : (st.map fun v => v.category).sum ≤ 8) (hf : c + (zmr M').cells ≤ (zmr M).cells ∧ sl + (zmr M').slots ≤ (zmr M).slots) (hd : decode M.2.1 pc = .ok (.invokestatic idx, 3)) (k : zMP G M' [v0, v1, v2, v3, v4] n h (fun r n' h' => zAW G M XF QF (pc + 3) lo (r.toList ++ st) n' h' (c + (zmr M').cells) (sl + (zmr M').slots))) : zAW G M XF QF pc lo (v4 :: v3 :: v2 :: v1 :: v0 :: st) n h c sl := zr_callS (As := [v0, v1, v2, v3, v4]) hC rfl hst hf hd k
theorem zv_call6 {v0 v1 v2 v3 v4 v5 : Value} {a ci idx : Nat} {fs : List Value} (hC : zCV M idx M' 6) (hh : h a = some (.inr (ci, fs))) (hci : ∃ r, vwCl[ci]? = some r ∧ r.1 = M'.1.cls) (hst : (st.map fun v => v.category).sum ≤ 8) (hf : c + (zmr M').cells ≤ (zmr M).cells ∧ sl + (zmr M').slots ≤ (zmr M).slots) (hd : decode M.2.1 pc = .ok (.invokevirtual idx, 3)) (k : zMP G M' (.ref a :: [v0, v1, v2, v3, v4, v5]) n h (fun r n' h' => zAW G M XF QF (pc + 3) lo (r.toList ++ st) n' h' (c + (zmr M').cells) (sl + (zmr M').slots))) : zAW G M XF QF pc lo (v5 :: v4 :: v3 :: v2 :: v1 :: v0 :: .ref a :: st) n h c sl := zr_callV (As := [v0, v1, v2, v3, v4, v5]) hC rfl hh hci hst hf hd k
theorem zi_call6 {v0 v1 v2 v3 v4 v5 : Value} {a idx : Nat} (hC : zCI M idx M' 6) (hst : (st.map fun v => v.category).sum ≤ 8) (hf : c + (zmr M').cells ≤ (zmr M).cells ∧ sl + (zmr M').slots ≤ (zmr M).slots) (hd : decode M.2.1 pc = .ok (.invokespecial idx, 3)) (k : zMP G M' (.ref a :: [v0, v1, v2, v3, v4, v5]) n h (fun r n' h' => zAW G M XF QF (pc + 3) lo (r.toList ++ st) n' h' (c + (zmr M').cells) (sl + (zmr M').slots))) : zAW G M XF QF pc lo (v5 :: v4 :: v3 :: v2 :: v1 :: v0 :: .ref a :: st) n h c sl := zr_callI (As := [v0, v1, v2, v3, v4, v5]) hC rfl hst hf hd k
theorem zc_call6 {v0 v1 v2 v3 v4 v5 : Value} {idx : Nat} (hC : zCS M idx M' 6) (hst : (st.map fun v => v.category).sum ≤ 8) (hf : c + (zmr M').cells ≤ (zmr M).cells ∧ sl + (zmr M').slots ≤ (zmr M).slots) (hd : decode M.2.1 pc = .ok (.invokestatic idx, 3)) (k : zMP G M' [v0, v1, v2, v3, v4, v5] n h (fun r n' h' => zAW G M XF QF (pc + 3) lo (r.toList ++ st) n' h' (c + (zmr M').cells) (sl + (zmr M').slots))) : zAW G M XF QF pc lo (v5 :: v4 :: v3 :: v2 :: v1 :: v0 :: st) n h c sl := zr_callS (As := [v0, v1, v2, v3, v4, v5]) hC rfl hst hf hd k
end ZD
section ZQ
variable {G : zG} {M : zM} {XF : Array Value → State → Code → Prop} {QF : List Frame → Array Value → State → State → Prop} {pc : Nat} {lo : List (Option Value)} {st : List Value} {n : Nat} {h : zH} {c sl : Nat}
theorem zr_idivN {a b : Int} (ha : 0 ≤ a ∧ a < 2147483648) (hb : 0 < b ∧ b < 2147483648) (hd : decode M.2.1 pc = .ok (.idiv, 1)) (k : zAW G M XF QF (pc + 1) lo (vi (a / b) :: st) n h c sl) : zAW G M XF QF pc lo (vi b :: vi a :: st) n h c sl :=
  zr_idiv ⟨by omega, by omega⟩ ⟨by omega, by omega⟩ (by omega) hd (by rw [Int.tdiv_eq_ediv_of_nonneg ha.1]; exact k)
theorem zr_iremN {a b : Int} (ha : 0 ≤ a ∧ a < 2147483648) (hb : 0 < b ∧ b < 2147483648) (hd : decode M.2.1 pc = .ok (.irem, 1)) (k : zAW G M XF QF (pc + 1) lo (vi (a % b) :: st) n h c sl) : zAW G M XF QF pc lo (vi b :: vi a :: st) n h c sl :=
  zr_irem ⟨by omega, by omega⟩ ⟨by omega, by omega⟩ (by omega) hd (by rw [Int.tmod_eq_emod_of_nonneg ha.1]; exact k)
theorem zr_ldivN {a b : Int} (ha : 0 ≤ a ∧ a < 9223372036854775808) (hb : 0 < b ∧ b < 9223372036854775808) (hd : decode M.2.1 pc = .ok (.ldiv, 1)) (k : zAW G M XF QF (pc + 1) lo (vl (a / b) :: st) n h c sl) : zAW G M XF QF pc lo (vl b :: vl a :: st) n h c sl :=
  zr_ldiv ⟨by omega, by omega⟩ ⟨by omega, by omega⟩ (by omega) hd (by rw [Int.tdiv_eq_ediv_of_nonneg ha.1]; exact k)
theorem zr_lremN {a b : Int} (ha : 0 ≤ a ∧ a < 9223372036854775808) (hb : 0 < b ∧ b < 9223372036854775808) (hd : decode M.2.1 pc = .ok (.lrem, 1)) (k : zAW G M XF QF (pc + 1) lo (vl (a % b) :: st) n h c sl) : zAW G M XF QF pc lo (vl b :: vl a :: st) n h c sl :=
  zr_lrem ⟨by omega, by omega⟩ ⟨by omega, by omega⟩ (by omega) hd (by rw [Int.tmod_eq_emod_of_nonneg ha.1]; exact k)
theorem zr_eqlS {a b y : Int} (hx : a = b) (k : zAW G M XF QF pc lo (vl y :: vl b :: st) n h c sl) : zAW G M XF QF pc lo (vl y :: vl a :: st) n h c sl := by rw [hx]; exact k
end ZQ
section ZE
variable {G : zG} {M : zM} {XF : Array Value → State → Code → Prop} {Post : Option Value → Nat → zH → Prop} {pc : Nat} {lo : List (Option Value)} {st : List Value} {n : Nat} {h : zH} {c sl : Nat}
/-! a method's end -/
theorem zr_ireturn {x : Int32} (hr : zmt M = some .int) (hc : c ≤ (zmr M).cells) (hsl : sl ≤ (zmr M).slots) (hd : decode M.2.1 pc = .ok (.ireturn, 1)) (hp : Post (some (.int x)) n h) : zAW G M XF (zF G M Post) pc lo [.int x] n h c sl := by
  intro p e s m args below meth cd F H locs ls hz hw hs hl
  refine W.widen hc hsl ?_
  exact W.iret F.1 F.2.1 (F.2.2.2.2.2.2.2.1.trans hr) (fun t ht hW => ⟨some (.int x), n, h, rfl, by rw [ht]; exact hz, by rw [ht]; exact hw, hp, hs.F ht⟩) (fun q hq => hs.2.2 q hq) hd F.2.2.2.2.2.2.1
theorem zr_zreturn {z : Int} (hr : zmt M = some .boolean) (hz01 : z = 0 ∨ z = 1) (hc : c ≤ (zmr M).cells) (hsl : sl ≤ (zmr M).slots) (hd : decode M.2.1 pc = .ok (.ireturn, 1)) (hp : Post (some (vi z)) n h) : zAW G M XF (zF G M Post) pc lo [vi z] n h c sl := by
  intro p e s m args below meth cd F H locs ls hz hw hs hl
  refine W.widen hc hsl ?_
  exact W.zret F.1 F.2.1 (F.2.2.2.2.2.2.2.1.trans hr) (by rcases hz01 with rfl | rfl <;> rfl) (fun t ht hW => ⟨some (vi z), n, h, rfl, by rw [ht]; exact hz, by rw [ht]; exact hw, hp, hs.F ht⟩) (fun q hq => hs.2.2 q hq) hd F.2.2.2.2.2.2.1
theorem zr_lreturn {x : Int64} (hr : zmt M = some .long) (hc : c ≤ (zmr M).cells) (hsl : sl ≤ (zmr M).slots) (hd : decode M.2.1 pc = .ok (.lreturn, 1)) (hp : Post (some (.long x)) n h) : zAW G M XF (zF G M Post) pc lo [.long x] n h c sl := by
  intro p e s m args below meth cd F H locs ls hz hw hs hl
  refine W.widen hc hsl ?_
  exact W.lret F.1 F.2.1 (F.2.2.2.2.2.2.2.1.trans hr) (fun t ht hW => ⟨some (.long x), n, h, rfl, by rw [ht]; exact hz, by rw [ht]; exact hw, hp, hs.F ht⟩) (fun q hq => hs.2.2 q hq) hd F.2.2.2.2.2.2.1
theorem zr_vreturn (hr : zmt M = none) (hc : c ≤ (zmr M).cells) (hsl : sl ≤ (zmr M).slots) (hd : decode M.2.1 pc = .ok (.return_, 1)) (hp : Post none n h) : zAW G M XF (zF G M Post) pc lo [] n h c sl := by
  intro p e s m args below meth cd F H locs ls hz hw hs hl
  refine W.widen hc hsl ?_
  exact W.vret F.1 F.2.1 (F.2.2.2.2.2.2.2.1.trans hr) (fun t ht hW => ⟨none, n, h, rfl, by rw [ht]; exact hz, by rw [ht]; exact hw, hp, hs.F ht⟩) (fun q hq => hs.2.2 q hq) hd F.2.2.2.2.2.2.1
end ZE
