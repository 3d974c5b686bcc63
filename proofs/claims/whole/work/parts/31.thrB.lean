def xA : List Cond := (Bundle.ownAtomsX RX7 121 xN 13 xB xNames).filter vx_no
theorem xA_in : ∀ w ∈ xA.filter goodWord, w ∈ lw_tbl := by decide +kernel
theorem xA_bad : ∀ w ∈ xA.filter (fun w => !goodWord w), w ∈ zNests := by decide +kernel
theorem xA_ot : ∀ w ∈ Cond.classLink RX7 117 xN :: Cond.initialized xN :: xA, vx_ot w = true := by decide +kernel
theorem xK1 : Cond.classLink RX7 117 xN ∈ TG := TG_of (mt3 (i := 29) rfl) rfl
theorem xK2 : Cond.initialized xN ∈ TG := TG_of (mt1 (i := 14) rfl) rfl
/-- what a thrown exception leaves behind -/
def zXC (G : zG) (PX : zH → Prop) : String → State → State → Prop := fun E st t => E = xN ∧ (∃ (n : Nat) (h : zH), t.heap.size = zgb G + n ∧ zW G h t.heap ∧ PX h) ∧ va_F (zAr G) st t
/-- method M returns with Post, or throws with PX -/
def zMX (G : zG) (M : zM) (args : List Value) (n : Nat) (h : zH) (Post : Option Value → Nat → zH → Prop) (PX : zH → Prop) : Prop :=
  vx_Met (zgl G) M.1 (Cond.code M.1 M.2.1 (zmL M) (zmt M) :: TG) (zmr M) (zPc G args n h) (zQc G Post) (zXC G PX) (zmr M).cells (zmr M).slots (zAr G)
def zFx (G : zG) (M : zM) (Post : Option Value → Nat → zH → Prop) (PX : zH → Prop) : List Frame → Array Value → State → State → Prop := fun below args s => vx_MQ below (zQc G Post) (zXC G PX) args s (zmr M).cells (zmr M).slots (zAr G)
def zXT : Array Value → State → Code → Prop := fun _ _ cd => ∀ x ∈ cd.exceptionTable.toList, False
theorem zMX_of {G : zG} {M : zM} {args : List Value} {n : Nat} {h : zH} {Post : Option Value → Nat → zH → Prop} {PX : zH → Prop} (hy : plainName M.1.cls = true) (lo : List (Option Value)) (hn : (zent args).length ≤ zmL M) (hlo : zent args ++ List.replicate (zmL M - (zent args).length) none = lo)
    (k : zAW G M zXT (zFx G M Post PX) 0 lo [] n h 0 0) : zMX G M args n h Post PX := by
  refine vx_ofW (cc := M.2.1) (maxL := zmL M) (ret := zmt M) hy rfl ?_
  intro p e s m a below meth c s₁ B hml hex hv
  obtain ⟨rfl, hsz, hw, hok⟩ := hv
  have hts := atoms_spec (ws := Cond.code M.1 M.2.1 (zmL M) (zmt M) :: TG) B.pre
  rw [lg_entry_eq]
  exact k p e s m _ below meth c ⟨B.exec, B.bytes, hml, findClass_of_methodNamed B.named, fun w hw => hts w (List.mem_cons_of_mem _ hw), hok, B.notSynchronized, B.returns, (name_of_methodNamed B.named B.method).1, by omega, hex⟩ s.heap [] _ hsz hw va_S.rf (zL_entry (zgb G) hn hlo)
section ZX
variable {G : zG} {M : zM} {XF : Array Value → State → Code → Prop} {Post : Option Value → Nat → zH → Prop} {PX : zH → Prop} {pc : Nat} {lo : List (Option Value)} {st : List Value} {n : Nat} {h : zH} {c sl : Nat}
theorem zx_ret (k : zAW G M XF (zF G M Post) pc lo st n h c sl) : zAW G M XF (zFx G M Post PX) pc lo st n h c sl := fun p e s m args below meth cd F H locs ls hz hw hs hl => vx_ret (k p e s m args below meth cd F H locs ls hz hw hs hl)
theorem xOwn {args : Array Value} {s : State} (h1 : ∀ w ∈ (Bundle.ownAtomsX RX7 121 xN 13 xB xNames).filter vx_no, w.before args s = true) (hu : (Cond.isRef (.static Bundle.tN "UNASSIGNED_STACK" Bundle.steD)).before args s = true) (hn : (Cond.isRef (.static Bundle.tN "SUPPRESSED_SENTINEL" Bundle.listD)).before args s = true) (hul : (Cond.laysStatic Bundle.tN "UNASSIGNED_STACK" Bundle.steD).before args s = true) (hnl : (Cond.laysStatic Bundle.tN "SUPPRESSED_SENTINEL" Bundle.listD).before args s = true) : ∀ w ∈ Bundle.ownAtomsX RX7 121 xN 13 xB xNames, w.before args s = true := vx_own h1 hu hn hul hnl
set_option maxHeartbeats 4000000 in
theorem zx_throw {is : Nat} {text : String} (hG : (zgl G).stackTraces = false) (hcls : M.1.cls = RX7) (hst : ("RoadOffice", is, text) ∈ zStrs)
    (d0 : decode M.2.1 pc = .ok (.new 117, 3)) (d3 : decode M.2.1 (pc + 3) = .ok (.dup, 1)) (d4 : decode M.2.1 (pc + 4) = .ok (.ldc is, 2)) (d6 : decode M.2.1 (pc + 6) = .ok (.invokespecial 121, 3)) (d9 : decode M.2.1 (pc + 9) = .ok (.athrow, 1))
    (hfr : 5 < (zmr M).frames) (hlc : (st.map fun v => v.category).sum + 82 ≤ (zmr M).locals) (hc : c + 1 ≤ (zmr M).cells) (hsl : sl + 6 ≤ (zmr M).slots) (hp : PX h) : zAW G M zXT (zFx G M Post PX) pc lo st n h c sl := by
  intro p e s m args below meth cd F H locs ls hz hw hs hl
  obtain ⟨f1, f2, f3, f4, f5, f6, f7, f8, f9, f10, f11⟩ := F
  obtain ⟨sa, hstr⟩ := f6.2.2.2.2.2 _ hst
  have hstr : vk_R RX7 is text sa s := hstr
  rw [hcls] at f4
  intro T hT X
  have htr : e.platform.stackTraces = false := (show e.platform.stackTraces = (zgl G).stackTraces by rw [X.admits.platform]).trans hG
  have Y := vx_rebase X (R' := { frames := (zmr M).frames, locals := (zmr M).locals, cells := 1, slots := 6 }) (Nat.le_refl _) (Nat.le_refl _) hc hsl
  obtain ⟨s', hA⟩ : ∃ z, z = (T.setVm s.vm).setFrames (.invoking m args :: below) := ⟨_, rfl⟩
  rw [← hA] at Y
  have hvm : s'.vm = s.vm := by rw [hA]; rfl
  have hhp : s'.heap = H := by rw [hA]; exact hT
  have hW0 : s.WarmedH s'.vm := by rw [hvm]; exact State.WarmedH.refl s
  have hat : ∀ w ∈ xA, w.before args s = true := fun w hw2 => by
    by_cases q : goodWord w = true
    · exact f5 w (TG_of (xA_in w (List.mem_filter.mpr ⟨hw2, q⟩)) q)
    · have hz2 := xA_bad w (List.mem_filter.mpr ⟨hw2, by simp only [Bool.not_eq_true] at q; rw [q]; rfl⟩)
      exact va_Nw.use (zNest_tab hz2) (f6.2.2.1 w hz2)
  have mv : ∀ w, w ∈ Cond.classLink RX7 117 xN :: Cond.initialized xN :: xA → w.before args s = true → w.before args s' = true := fun w hw2 hb => vx_ot_at hW0 hvm.symm (xA_ot w hw2) hb
  have hk' := mv _ List.mem_cons_self (f5 _ xK1)
  have hini' := mv _ (List.mem_cons_of_mem _ List.mem_cons_self) (f5 _ xK2)
  have hU' : vx_Zq Bundle.tN "UNASSIGNED_STACK" Bundle.steD (zAr G) s' s'.heap := by rw [hhp]; exact vx_Zq.moved hW0.alike (f6.2.2.2.1.kept hs.2.1)
  have hN' : vx_Zq Bundle.tN "SUPPRESSED_SENTINEL" Bundle.listD (zAr G) s' s'.heap := by rw [hhp]; exact vx_Zq.moved hW0.alike (f6.2.2.2.2.1.kept hs.2.1)
  have ho := xOwn (args := args) (s := s') (fun w hw2 => mv w (List.mem_cons_of_mem _ (List.mem_cons_of_mem _ hw2)) (hat w hw2)) (vx_isRefq hU'.1) (vx_isRefq hN'.1) hU'.2.word hN'.2.word
  have hown' : s'.vm.findClass RX7 = some m.cls := by rw [hvm]; exact f4
  have hins : (Cond.instantiable xN 6).before args s' = true := ho _ (by simp [Bundle.ownAtomsX])
  obtain ⟨vm₁, cX, kX, hfX, hkX, -, -, X₁, st1⟩ := Y.newCold f1 (own := RX7) (C := xN) (index := 117) (n := 6) hown' hk' hins hini' (g := F0 m pc ls (st.map (zv (zgb G)))) rfl (by rw [f2]; exact d0) (Nat.le_refl _) (Nat.le_refl _)
  generalize hT1 : (T.setVm vm₁).pushCell { cls := cX, slots := kX.instanceTypes.map defaultValue, vm := .none } = T1 at X₁ st1
  have hcellA : T1.heap[T.heap.size]? = some (freshCell cX kX) := by rw [← hT1]; exact State.heap_pushCell_size _ _
  have hcat : (Value.ref T.heap.size).category = 1 := rfl
  have d3' : decode cd.code (pc + 3) = .ok (.dup, 1) := by rw [f2]; exact d3
  have d4' : decode cd.code (pc + 4) = .ok (.ldc is, 2) := by rw [f2]; exact d4
  have hstr' : vk_R RX7 is text sa s' := vk_R.warm hW0 hstr
  have hsum : ((st.map (zv (zgb G))).map fun v => v.category).sum = (st.map fun v => v.category).sum := by
    rw [List.map_map]
    have : (fun v => v.category) ∘ zv (zgb G) = fun v => v.category := funext (fun v => zv_cat (zgb G) v)
    rw [this]
  obtain ⟨U, hsteps, hrun, hend, hW, hsame, ce, hce, hcv, hcf⟩ := zx_ctor X₁ f1 htr (own := RX7) (cls := xN) (names := xNames) (ic := 121) xB_0 xB_1 xB_2 xB_5 hown' (by decide) (by decide) ho (fun x hx => nomatch hx) hfX hkX hcellA (by rw [hhp, hT]; exact Nat.le_refl _) (msg := .ref sa) rfl
    (g := { method := m, pc := pc + 6, locals := ls, stack := .ref sa :: .ref T.heap.size :: .ref T.heap.size :: st.map (zv (zgb G)), locked := none }) rfl (hl.1.trans f3.symm) rfl rfl (rest := st.map (zv (zgb G))) rfl
    (by rw [f2]; exact d6) (by rw [f2]; exact d9) (fun x hx => absurd (f11 x hx) id) (by show 2 + 3 < _; omega) (by
      show 2 * 0 + (((Value.ref T.heap.size :: st.map (zv (zgb G))).map fun v => v.category).sum) + (13 * (2 + 1) + 42) ≤ _
      rw [List.map_cons, List.sum_cons, hcat, hsum]
      show _ ≤ (zmr M).locals
      omega) f7
  obtain ⟨e1, e2⟩ := vx_frame hsame
  rw [hhp] at e1 e2
  have hWs : s.WarmedH U.vm := State.WarmedH.trans hW0 hW
  have hcl : s.vm.findClass xN = some ce.cls := by rw [← hvm]; exact hcf
  have hall : s.sameButNew ({ U with vm := s.vm } : State) locs (zmr M).cells (zmr M).slots := by
    subst hA
    obtain ⟨q1, q2⟩ := hsame
    rw [State.setFrames_setFrames] at q1
    have h2 : (T.setVm s.vm).sameButNew ({ U with vm := s.vm } : State) [] (0 + 1) (0 + 6) := ⟨q1, q2⟩
    have h3 := X.same.trans h2
    rw [List.append_nil] at h3
    exact h3.mono hc hsl
  have hkeep : ∀ q : Nat, q < H.size → U.heap[q]? = H[q]? := fun q hq => e2 q hq (fun z hz2 => nomatch hz2)
  have hX : zXC G PX xN s U := by
    refine ⟨rfl, ⟨U.heap.size - zgb G, h, by omega, fun k x hx => (hw k x hx).kept (hkeep _ (hw k x hx).lt), hp⟩, ?_⟩
    exact (zS_push hs e1 hkeep).F rfl
  refine ⟨U, ?_, .threw T.heap.size, hrun, hend, Or.inr ⟨T.heap.size, rfl, xN, ce, locs, hX, hce, hcv, hcl, hWs, hall, hs.2.2⟩⟩
  refine st1 _ ?_
  show Steps p.tables e below (T1.setTop { method := m, pc := pc + 3, locals := ls, stack := .ref T.heap.size :: st.map (zv (zgb G)), locked := none }) _
  jvm_step X₁.here [X₁.here.top, f1, d3', Value.category]
  exact X₁.ldcString f1 (own := RX7) (text := text) (index := is) (a := sa) hown' hstr'.1 hstr'.2 (g := { method := m, pc := pc + 4, locals := ls, stack := .ref T.heap.size :: .ref T.heap.size :: st.map (zv (zgb G)), locked := none }) rfl d4' _ hsteps
end ZX
