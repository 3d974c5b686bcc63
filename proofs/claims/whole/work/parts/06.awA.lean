/-! The tables' words that stay good over a call -/
def TG : List Cond := lw_tbl.filter goodWord
theorem TG_of {w : Cond} (h : w ∈ lw_tbl) (g : goodWord w = true) : w ∈ TG := List.mem_filter.mpr ⟨h, g⟩
theorem TG_mem {w : Cond} (h : w ∈ TG) : w ∈ lw_tbl := (List.mem_filter.mp h).1
theorem TG_good {w : Cond} (h : w ∈ TG) : goodWord w = true := (List.mem_filter.mp h).2
theorem TG_in {w : Cond} (h : w ∈ TG) : GoodIn TG (w :: TG) := fun x hx => by
  have hx : x ∈ TG := by
    rcases List.mem_cons.mp hx with e | e
    · rw [e]; exact h
    · exact e
  exact ⟨hx, good_of_word (TG_good hx)⟩
/-! the world: cells by their places, the first at the base -/
abbrev zH : Type := Nat → Option va_E
def zup (h : zH) (a : Nat) (e : va_E) : zH := fun k => if k = a then some e else h k
theorem zup_s {h : zH} {a : Nat} {e : va_E} : zup h a e a = some e := if_pos rfl
theorem zup_n {h : zH} {a b : Nat} {e : va_E} (hb : b ≠ a) : zup h a e b = h b := if_neg hb
theorem zup_g {h : zH} {a b : Nat} {e x : va_E} (hb : b ≠ a) (hx : h b = some x) : zup h a e b = some x := (zup_n hb).trans hx
theorem zup_zup {h : zH} {a : Nat} {e f : va_E} : zup (zup h a e) a f = zup h a f := by
  funext k
  unfold zup
  by_cases hk : k = a
  · rw [if_pos hk, if_pos hk]
  · rw [if_neg hk, if_neg hk, if_neg hk]
theorem zup_comm {h : zH} {a b : Nat} {e f : va_E} (hab : a ≠ b) : zup (zup h a e) b f = zup (zup h b f) a e := by
  funext k
  unfold zup
  by_cases hk : k = a
  · rw [if_pos hk, if_neg (fun q => hab (hk.symm.trans q)), if_pos hk]
  · rw [if_neg hk]
    by_cases hk2 : k = b
    · rw [if_pos hk2, if_neg hk]
    · rw [if_neg hk2, if_neg hk]
theorem zup_self {h : zH} {a : Nat} {e : va_E} (he : h a = some e) : zup h a e = h := by
  funext k
  unfold zup
  by_cases hk : k = a
  · rw [if_pos hk, hk, he]
  · rw [if_neg hk]
abbrev zG : Type := Launch × Nat × va_G × (Nat → ClassId)
abbrev zM : Type := MethodName × ByteArray × Nat × Option FieldType × Room
abbrev zgl (G : zG) : Launch := G.1
abbrev zgb (G : zG) : Nat := G.2.1
abbrev zgD (G : zG) : va_G := G.2.2.1
abbrev zgT (G : zG) : Nat → ClassId := G.2.2.2
abbrev zmr (M : zM) : Room := M.2.2.2.2
abbrev zmL (M : zM) : Nat := M.2.2.1
abbrev zmt (M : zM) : Option FieldType := M.2.2.2.1
def zv (b : Nat) (v : Value) : Value := match v with
  | .ref a => .ref (b + a)
  | .retAddr a => .ref a
  | v => v
def zarr (b : Nat) (x : vp_A) : vp_A := (x.1, match x.2 with
  | .inr (.inr (.inr (.inr f))) => .inr (.inr (.inr (.inr (fun j => (f j).map (fun a => b + a)))))
  | y => y)
def ze (b : Nat) (cT : Nat → ClassId) (e : va_E) : va_E := match e with
  | .inl x => .inl (cT x.1, zarr b x.2)
  | .inr o => .inr (o.1, o.2.map (zv b))
theorem zv_cat (b : Nat) (v : Value) : (zv b v).category = v.category := by cases v <;> rfl
def zW (G : zG) (h : zH) (H : Heap) : Prop := ∀ (k : Nat) (e : va_E), h k = some e → va_at (zgD G) vwCl (zgb G + k, ze (zgb G) (zgT G) e) H
def zAr (G : zG) : Nat → Prop := fun q => zgb G ≤ q
def ztys (cT : Nat → ClassId) : List (ClassId × FieldType) := [(cT 0, .int), (cT 1, .long), (cT 2, .boolean), (cT 3, .byte), (cT 4, .array .long)]
def zNests : List Cond := [.methodLinkNest "RoadOffice$Roads" 29 yX7_isBelow "RoadOffice", .methodLinkNest "RoadOffice$Tape" 19 yX7_isBelow "RoadOffice", .castable "java/util/NoSuchElementException" "java/util/NoSuchElementException", .declares ⟨"java/lang/RuntimeException", "<init>", "(Ljava/lang/String;)V"⟩, .declares ⟨"java/lang/Exception", "<init>", "(Ljava/lang/String;)V"⟩, .declares ⟨"java/lang/Throwable", "<init>", "(Ljava/lang/String;)V"⟩]
def zStrs : List (String × Nat × String) := [("RoadOffice", 119, "no such group, day or time"), ("RoadOffice", 124, "the group is not there"), ("RoadOffice", 138, "no such road, time or part"), ("RoadOffice", 144, "the year is not told"), ("RoadOffice", 153, "there is no trial"), ("RoadOffice", 161, "no such crossing or time"), ("RoadOffice", 166, "the road has no flow")]
def va_AOA (t : FieldType) (U : State) : Prop := (Cond.arrayOver (.array t)).before #[] U = true
def zOK (G : zG) (U : State) : Prop := va_AOA .long U ∧ va_K (zgD G) vwCl (ztys (zgT G)) U ∧ (∀ w ∈ zNests, va_Nw w U) ∧ vx_Zq Bundle.tN "UNASSIGNED_STACK" Bundle.steD (zAr G) U U.heap ∧ vx_Zq Bundle.tN "SUPPRESSED_SENTINEL" Bundle.listD (zAr G) U U.heap ∧ ∀ q ∈ zStrs, ∃ sa : Nat, vk_R q.1 q.2.1 q.2.2 sa U
theorem zNest_warm {s U : State} (hW : s.WarmedH U.vm) (h : ∀ w ∈ zNests, va_Nw w s) : ∀ w ∈ zNests, va_Nw w U := fun w hw => by
  have h1 := h w hw
  simp only [zNests, List.mem_cons, List.not_mem_nil, or_false] at hw
  rcases hw with rfl | rfl | rfl | rfl | rfl | rfl
  · exact va_Nw.warmM hW h1
  · exact va_Nw.warmM hW h1
  · have hal := hW.alike
    unfold va_Nw at h1 ⊢
    simp only [Cond.before, Cond.holds, Cond.value, hal.findClass, hal.assignable] at h1 ⊢
    exact h1
  · exact va_Nw.warmD hW h1
  · exact va_Nw.warmD hW h1
  · exact va_Nw.warmD hW h1
theorem zNest_tab {w : Cond} (hw : w ∈ zNests) : w.onTables = true := by
  simp only [zNests, List.mem_cons, List.not_mem_nil, or_false] at hw
  rcases hw with rfl | rfl | rfl | rfl | rfl | rfl <;> rfl
theorem zOK.moved {G : zG} {s U : State} {H : Heap} {locs : List Loc} (h : zOK G s) (hW : s.WarmedH U.vm) (hS : va_S (zAr G) s.heap H locs) (hH : U.heap = H) : zOK G U := by
  obtain ⟨h0, h1, h2, h3, h4, h5⟩ := h
  refine ⟨Jvm.Stand.arrayOver_alikeB hW.alike h0, va_K.moved hW.alike h1, zNest_warm hW h2, ?_, ?_, fun q hq => ?_⟩
  · rw [hH]; exact (vx_Zq.moved hW.alike h3).kept (fun a ha hn => hS.2.1 a ha hn)
  · rw [hH]; exact (vx_Zq.moved hW.alike h4).kept (fun a ha hn => hS.2.1 a ha hn)
  · obtain ⟨sa, h6⟩ := h5 q hq
    exact ⟨sa, vk_R.warm hW h6⟩
theorem zOK.calling {G : zG} {U : State} (h : zOK G U) (g : JFrame) (mk : MethodId) (a : Array Value) : zOK G (U.calling g mk a) := by
  obtain ⟨h0, h1, h2, h3, h4, h5⟩ := h
  refine ⟨Jvm.Stand.arrayOver_alikeB (s := U) (U := U.calling g mk a) (Vm.Alike.refl U.vm) h0, va_K.moved (u := U) (U := U.calling g mk a) (Vm.Alike.refl U.vm) h1, fun w hw => va_Nw.same (zNest_tab hw) (rfl : U.vm = (U.calling g mk a).vm) (h2 w hw), vx_Zq.moved (u := U) (U := U.calling g mk a) (Vm.Alike.refl U.vm) h3, vx_Zq.moved (u := U) (U := U.calling g mk a) (Vm.Alike.refl U.vm) h4, fun q hq => ?_⟩
  obtain ⟨sa, h6⟩ := h5 q hq
  exact ⟨sa, vk_R.same (rfl : (U.calling g mk a).vm = U.vm) h6⟩
/-- the locals -/
def zL (b : Nat) (ls : Array Slot) (nL : Nat) (lo : List (Option Value)) : Prop := ls.size = nL ∧ lv_wf ls ∧ ∀ (i : Nat) (v : Value), lo[i]? = some (some v) → ls[i]? = some (.val (zv b v))
/-- what a method's body stands on -/
def zFX (G : zG) (M : zM) (XF : Array Value → State → Code → Prop) (p : Program) (s : State) (m : MethodId) (args : Array Value) (meth : Method) (cd : Code) : Prop :=
  p.tables.exec = Jvm.exec ∧ cd.code = M.2.1 ∧ cd.maxLocals = zmL M ∧ s.vm.findClass M.1.cls = some m.cls ∧ (∀ w ∈ TG, w.before args s = true) ∧ zOK G s ∧ meth.locks = false ∧ meth.sig.returnType = zmt M ∧ meth.name = M.1.name ∧ zgb G ≤ s.heap.size ∧ XF args s cd
/-- at pc, with the locals lo, the stack st, n cells that hold h, c cells and sl slots made: the method comes to its end -/
def zAW (G : zG) (M : zM) (XF : Array Value → State → Code → Prop) (QF : List Frame → Array Value → State → State → Prop) (pc : Nat) (lo : List (Option Value)) (st : List Value) (n : Nat) (h : zH) (c sl : Nat) : Prop :=
  ∀ (p : Program) (e : Env) (s : State) (m : MethodId) (args : Array Value) (below : List Frame) (meth : Method) (cd : Code), zFX G M XF p s m args meth cd →
    ∀ (H : Heap) (locs : List Loc) (ls : Array Slot), H.size = zgb G + n → zW G h H → va_S (zAr G) s.heap H locs → zL (zgb G) ls (zmL M) lo →
      W p (zgl G) e (zmr M) s m args below meth cd H locs c sl (QF below args s) (F0 m pc ls (st.map (zv (zgb G))))
def zQc (G : zG) (Post : Option Value → Nat → zH → Prop) : Array Value → State → Outcome → State → Prop := fun _ st o t => ∃ (r : Option Value) (n : Nat) (h : zH), o = .returned (r.map (zv (zgb G))) ∧ t.heap.size = zgb G + n ∧ zW G h t.heap ∧ Post r n h ∧ va_F (zAr G) st t
def zPc (G : zG) (args : List Value) (n : Nat) (h : zH) : Array Value → State → Prop := fun a U => a = (args.map (zv (zgb G))).toArray ∧ U.heap.size = zgb G + n ∧ zW G h U.heap ∧ zOK G U
/-- method M, called with args where n cells hold h, returns, with Post -/
def zMP (G : zG) (M : zM) (args : List Value) (n : Nat) (h : zH) (Post : Option Value → Nat → zH → Prop) : Prop :=
  Met (zgl G) M.1 (Cond.code M.1 M.2.1 (zmL M) (zmt M) :: TG) (zmr M) (zPc G args n h) (zQc G Post) (zmr M).cells (zmr M).slots (zAr G)
def zF (G : zG) (M : zM) (Post : Option Value → Nat → zH → Prop) : List Frame → Array Value → State → State → Prop := fun below args s => MQ below (zQc G Post) args s (zmr M).cells (zmr M).slots (zAr G)
def zTT : Array Value → State → Code → Prop := fun _ _ _ => True
theorem zPc_blind {G : zG} {args : List Value} {n : Nat} {h : zH} : FrameBlind (zPc G args n h) := fun a _ g mk q => ⟨q.1, q.2.1, q.2.2.1, q.2.2.2.calling g mk a⟩
/-- the locals at the entry -/
def zent : List Value → List (Option Value)
  | [] => []
  | v :: vs => if v.category = 2 then some v :: none :: zent vs else some v :: zent vs
theorem zent_mem (b : Nat) : ∀ (vs : List Value) (k i : Nat) (v : Value), (zent vs)[i]? = some (some v) → (k + i, zv b v) ∈ lv_args k (vs.map (zv b))
  | [], k, i, v, h => by simp [zent] at h
  | x :: xs, k, i, v, h => by
    unfold zent at h
    show (k + i, zv b v) ∈ (k, zv b x) :: lv_args (if (zv b x).category = 2 then k + 2 else k + 1) (xs.map (zv b))
    rw [zv_cat]
    by_cases hc : x.category = 2
    · rw [if_pos hc] at h
      rw [if_pos hc]
      match i, h with
      | 0, h => cases h; exact List.mem_cons_self
      | 1, h => cases h
      | j + 2, h => 
        have := zent_mem b xs (k + 2) j v h
        rw [show k + (j + 2) = k + 2 + j by omega]
        exact List.mem_cons_of_mem _ this
    · rw [if_neg hc] at h
      rw [if_neg hc]
      match i, h with
      | 0, h => cases h; exact List.mem_cons_self
      | j + 1, h => 
        have := zent_mem b xs (k + 1) j v h
        rw [show k + (j + 1) = k + 1 + j by omega]
        exact List.mem_cons_of_mem _ this
theorem zent_len (b : Nat) : ∀ vs : List Value, (lg_sl (vs.map (zv b))).length = (zent vs).length
  | [] => rfl
  | x :: xs => by
    have ih := zent_len b xs
    unfold zent
    show (lg_sl (zv b x :: xs.map (zv b))).length = _
    rw [show lg_sl (zv b x :: xs.map (zv b)) = (if (zv b x).category = 2 then [Slot.val (zv b x), Slot.second] else [Slot.val (zv b x)]) ++ lg_sl (xs.map (zv b)) from by simp [lg_sl]]
    rw [zv_cat]
    by_cases hc : x.category = 2
    · rw [if_pos hc, if_pos hc]; simp [ih]
    · rw [if_neg hc, if_neg hc]; simp [ih]
theorem zL_entry (b : Nat) {vs : List Value} {nL : Nat} {lo : List (Option Value)} (h : (zent vs).length ≤ nL) (hlo : zent vs ++ List.replicate (nL - (zent vs).length) none = lo) : zL b ((lg_sl (vs.map (zv b)) ++ List.replicate (nL - (lg_sl (vs.map (zv b))).length) Slot.unset).toArray) nL lo := by
  have h1 := lv_entry (vs.map (zv b)) (n := nL) (by rw [zent_len]; exact h)
  refine ⟨h1.1, h1.2.1, fun i v hi => ?_⟩
  subst hlo
  have h2 : (zent vs)[i]? = some (some v) := by
    by_cases hl : i < (zent vs).length
    · rwa [List.getElem?_append_left hl] at hi
    · rw [List.getElem?_append_right (by omega)] at hi
      have := List.mem_of_getElem? hi
      have := List.eq_of_mem_replicate this
      cases this
  have h3 := zent_mem b vs 0 i v h2
  rw [Nat.zero_add] at h3
  exact h1.2.2 _ h3
/-- a contract out of a walk -/
theorem zMP_of {G : zG} {M : zM} {args : List Value} {n : Nat} {h : zH} {Post : Option Value → Nat → zH → Prop} (hy : plainName M.1.cls = true) (lo : List (Option Value)) (hn : (zent args).length ≤ zmL M) (hlo : zent args ++ List.replicate (zmL M - (zent args).length) none = lo)
    (k : zAW G M zTT (zF G M Post) 0 lo [] n h 0 0) : zMP G M args n h Post := by
  refine Met.ofW (cc := M.2.1) (maxL := zmL M) (ret := zmt M) hy rfl ?_
  intro p e s m a below meth c s₁ B hml hv
  obtain ⟨rfl, hsz, hw, hok⟩ := hv
  have hts := atoms_spec (ws := Cond.code M.1 M.2.1 (zmL M) (zmt M) :: TG) B.pre
  rw [lg_entry_eq]
  exact k p e s m _ below meth c ⟨B.exec, B.bytes, hml, findClass_of_methodNamed B.named, fun w hw => hts w (List.mem_cons_of_mem _ hw), hok, B.notSynchronized, B.returns, (name_of_methodNamed B.named B.method).1, by omega, trivial⟩ s.heap [] _ hsz hw va_S.rf (zL_entry (zgb G) hn hlo)
theorem zMP.mono {G : zG} {M : zM} {args : List Value} {n : Nat} {h : zH} {P Q : Option Value → Nat → zH → Prop} (hM : zMP G M args n h P) (hPQ : ∀ r n h, P r n h → Q r n h) : zMP G M args n h Q := by
  unfold zMP Met at *
  intro p e ha hc hk s m a below hf happ hP ht
  obtain ⟨k, o, a1, a2, a3, ⟨r, n', h', h1, h2, h3, h4, h5⟩, h6⟩ := hM p e ha hc hk s m a below hf happ hP ht
  exact ⟨k, o, a1, a2, a3, ⟨r, n', h', h1, h2, h3, hPQ _ _ _ h4, h5⟩, h6⟩
section ZR
variable {G : zG} {M : zM} {XF : Array Value → State → Code → Prop} {QF : List Frame → Array Value → State → State → Prop} {pc : Nat} {lo : List (Option Value)} {st : List Value} {n : Nat} {h : zH} {c sl : Nat}
theorem zr_iconst {z : Int} (hd : decode M.2.1 pc = .ok (.iconst z, 1))
    (k : zAW G M XF QF (pc + 1) lo (vi z :: st) n h c sl) : zAW G M XF QF pc lo (st) n h c sl := by
  intro p e s m args below meth cd F H locs ls hz hw hs hl
  exact lv_iconst F.1 F.2.1 hd rfl (k p e s m args below meth cd F H locs ls hz hw hs hl)
theorem zr_bipush {z : Int} (hv : (Int8.ofInt z).toInt32 = iZ z) (hd : decode M.2.1 pc = .ok (.bipush z, 2))
    (k : zAW G M XF QF (pc + 2) lo (vi z :: st) n h c sl) : zAW G M XF QF pc lo (st) n h c sl := by
  intro p e s m args below meth cd F H locs ls hz hw hs hl
  exact lv_bipush F.1 F.2.1 hd hv (k p e s m args below meth cd F H locs ls hz hw hs hl)
theorem zr_sipush {z : Int} (hv : (Int16.ofInt z).toInt32 = iZ z) (hd : decode M.2.1 pc = .ok (.sipush z, 3))
    (k : zAW G M XF QF (pc + 3) lo (vi z :: st) n h c sl) : zAW G M XF QF pc lo (st) n h c sl := by
  intro p e s m args below meth cd F H locs ls hz hw hs hl
  exact lv_sipush F.1 F.2.1 hd hv (k p e s m args below meth cd F H locs ls hz hw hs hl)
theorem zr_lconst {f : Fin 2} {z : Int} (hv : Int64.ofNat (f : Nat) = lZ z) (hd : decode M.2.1 pc = .ok (.lconst f, 1))
    (k : zAW G M XF QF (pc + 1) lo (vl z :: st) n h c sl) : zAW G M XF QF pc lo (st) n h c sl := by
  intro p e s m args below meth cd F H locs ls hz hw hs hl
  exact lv_lconst F.1 F.2.1 hd hv (k p e s m args below meth cd F H locs ls hz hw hs hl)
theorem zr_ldc {i : Nat} {v : Int32} {z : Int} (hc : Cond.constant M.1.cls i v ∈ TG) (hv : v = iZ z) (hd : decode M.2.1 pc = .ok (.ldc i, 2))
    (k : zAW G M XF QF (pc + 2) lo (vi z :: st) n h c sl) : zAW G M XF QF pc lo (st) n h c sl := by
  intro p e s m args below meth cd F H locs ls hz hw hs hl
  subst hv
  exact lv_ldc F.1 F.2.1 F.2.2.2.1 (F.2.2.2.2.1 _ hc) hd (k p e s m args below meth cd F H locs ls hz hw hs hl)
theorem zr_ldc2 {i : Nat} {v : Int64} {z : Int} (hc : Cond.constantLong M.1.cls i v ∈ TG) (hv : v = lZ z) (hd : decode M.2.1 pc = .ok (.ldc2_w i, 3))
    (k : zAW G M XF QF (pc + 3) lo (vl z :: st) n h c sl) : zAW G M XF QF pc lo (st) n h c sl := by
  intro p e s m args below meth cd F H locs ls hz hw hs hl
  subst hv
  exact lv_ldc2 F.1 F.2.1 F.2.2.2.1 (F.2.2.2.2.1 _ hc) hd (k p e s m args below meth cd F H locs ls hz hw hs hl)
theorem zr_iload_n {f : Fin 4} {i : Nat} {x : Int32} (hi : (f : Nat) = i) (hx : lo[i]? = some (some (.int x))) (hd : decode M.2.1 pc = .ok (.iload_n f, 1))
    (k : zAW G M XF QF (pc + 1) lo (.int x :: st) n h c sl) : zAW G M XF QF pc lo (st) n h c sl := by
  intro p e s m args below meth cd F H locs ls hz hw hs hl
  exact lv_iload_n F.1 F.2.1 hd hi (hl.2.2 _ _ hx) (k p e s m args below meth cd F H locs ls hz hw hs hl)
theorem zr_iload {i : Nat} {x : Int32} (hx : lo[i]? = some (some (.int x))) (hd : decode M.2.1 pc = .ok (.iload i, 2))
    (k : zAW G M XF QF (pc + 2) lo (.int x :: st) n h c sl) : zAW G M XF QF pc lo (st) n h c sl := by
  intro p e s m args below meth cd F H locs ls hz hw hs hl
  exact lv_iload F.1 F.2.1 hd (hl.2.2 _ _ hx) (k p e s m args below meth cd F H locs ls hz hw hs hl)
theorem zr_lload_n {f : Fin 4} {i : Nat} {x : Int64} (hi : (f : Nat) = i) (hx : lo[i]? = some (some (.long x))) (hd : decode M.2.1 pc = .ok (.lload_n f, 1))
    (k : zAW G M XF QF (pc + 1) lo (.long x :: st) n h c sl) : zAW G M XF QF pc lo (st) n h c sl := by
  intro p e s m args below meth cd F H locs ls hz hw hs hl
  exact lv_lload_n F.1 F.2.1 hd hi (hl.2.2 _ _ hx) (k p e s m args below meth cd F H locs ls hz hw hs hl)
theorem zr_lload {i : Nat} {x : Int64} (hx : lo[i]? = some (some (.long x))) (hd : decode M.2.1 pc = .ok (.lload i, 2))
    (k : zAW G M XF QF (pc + 2) lo (.long x :: st) n h c sl) : zAW G M XF QF pc lo (st) n h c sl := by
  intro p e s m args below meth cd F H locs ls hz hw hs hl
  exact lv_lload F.1 F.2.1 hd (hl.2.2 _ _ hx) (k p e s m args below meth cd F H locs ls hz hw hs hl)
theorem zr_aload_n {f : Fin 4} {i : Nat} {x : Nat} (hi : (f : Nat) = i) (hx : lo[i]? = some (some (.ref x))) (hd : decode M.2.1 pc = .ok (.aload_n f, 1))
    (k : zAW G M XF QF (pc + 1) lo (.ref x :: st) n h c sl) : zAW G M XF QF pc lo (st) n h c sl := by
  intro p e s m args below meth cd F H locs ls hz hw hs hl
  exact lv_aload_n F.1 F.2.1 hd hi (hl.2.2 _ _ hx) (k p e s m args below meth cd F H locs ls hz hw hs hl)
theorem zr_aload {i : Nat} {x : Nat} (hx : lo[i]? = some (some (.ref x))) (hd : decode M.2.1 pc = .ok (.aload i, 2))
    (k : zAW G M XF QF (pc + 2) lo (.ref x :: st) n h c sl) : zAW G M XF QF pc lo (st) n h c sl := by
  intro p e s m args below meth cd F H locs ls hz hw hs hl
  exact lv_aload F.1 F.2.1 hd (hl.2.2 _ _ hx) (k p e s m args below meth cd F H locs ls hz hw hs hl)
theorem zL.has {b : Nat} {ls : Array Slot} {nL : Nat} {lo : List (Option Value)} (h : zL b ls nL lo) : lv_has ls nL ((List.range lo.length).filterMap (fun i => match lo[i]? with | some (some v) => some (i, zv b v) | _ => none)) := by
  refine ⟨h.1, h.2.1, fun q hq => ?_⟩
  obtain ⟨i, -, hi⟩ := List.mem_filterMap.mp hq
  split at hi
  · rename_i v hv
    cases hi
    exact h.2.2 _ _ hv
  · cases hi
theorem zL_mem {b : Nat} {lo : List (Option Value)} {i : Nat} {v : Value} (h : lo[i]? = some (some v)) : (i, zv b v) ∈ (List.range lo.length).filterMap (fun i => match lo[i]? with | some (some v) => some (i, zv b v) | _ => none) := by
  refine List.mem_filterMap.mpr ⟨i, List.mem_range.mpr ?_, ?_⟩
  · exact (List.getElem?_eq_some_iff.mp h).1
  · simp only [h]
/-- not the first half of a long -/
def zn (x : Option Value) : Prop := ∀ v, x = some v → v.category = 1
theorem zn_0 : zn none := fun _ h => nomatch h
theorem zn_i {x : Int32} : zn (some (.int x)) := fun _ h => by cases h; rfl
theorem zn_r {x : Nat} : zn (some (.ref x)) := fun _ h => by cases h; rfl
theorem zL_st1 {b : Nat} {ls : Array Slot} {nL : Nat} {lo lo' : List (Option Value)} {i : Nat} {v : Value} {L : List (Nat × Value)} (hL : L = (List.range lo.length).filterMap (fun i => match lo[i]? with | some (some v) => some (i, zv b v) | _ => none)) (h : lv_has ls nL ((i, zv b v) :: L.filter (fun q => !(q.1 == i) && !(q.1 + 1 == i && q.2.category == 2))))
    (hlo : ∀ (j : Nat) (x : Value), lo'[j]? = some (some x) → (j = i ∧ x = v) ∨ (j ≠ i ∧ lo[j]? = some (some x) ∧ (j + 1 = i → x.category = 1))) : zL b ls nL lo' := by
  refine ⟨h.1, h.2.1, fun j x hj => ?_⟩
  rcases hlo j x hj with ⟨rfl, rfl⟩ | ⟨h1, h2, h3⟩
  · exact h.2.2 _ List.mem_cons_self
  · refine h.2.2 (j, zv b x) (List.mem_cons_of_mem _ (List.mem_filter.mpr ⟨by rw [hL]; exact zL_mem h2, ?_⟩))
    simp only [zv_cat, Bool.and_eq_true, Bool.not_eq_true', beq_eq_false_iff_ne, ne_eq, Bool.and_eq_false_imp, beq_iff_eq]
    exact ⟨h1, fun q => by rw [h3 q]; decide⟩
theorem zL_st2 {b : Nat} {ls : Array Slot} {nL : Nat} {lo lo' : List (Option Value)} {i : Nat} {v : Value} {L : List (Nat × Value)} (hL : L = (List.range lo.length).filterMap (fun i => match lo[i]? with | some (some v) => some (i, zv b v) | _ => none)) (h : lv_has ls nL ((i, zv b v) :: L.filter (fun q => !(q.1 == i) && (!(q.1 == i + 1) && !(q.1 + 1 == i && q.2.category == 2)))))
    (hlo : ∀ (j : Nat) (x : Value), lo'[j]? = some (some x) → (j = i ∧ x = v) ∨ (j ≠ i ∧ j ≠ i + 1 ∧ lo[j]? = some (some x) ∧ (j + 1 = i → x.category = 1))) : zL b ls nL lo' := by
  refine ⟨h.1, h.2.1, fun j x hj => ?_⟩
  rcases hlo j x hj with ⟨rfl, rfl⟩ | ⟨h1, h1b, h2, h3⟩
  · exact h.2.2 _ List.mem_cons_self
  · refine h.2.2 (j, zv b x) (List.mem_cons_of_mem _ (List.mem_filter.mpr ⟨by rw [hL]; exact zL_mem h2, ?_⟩))
    simp only [zv_cat, Bool.and_eq_true, Bool.not_eq_true', beq_eq_false_iff_ne, ne_eq, Bool.and_eq_false_imp, beq_iff_eq]
    exact ⟨h1, h1b, fun q => by rw [h3 q]; decide⟩
/-- the locals with a value of one slot stored, of two -/
theorem zlo1 {lo : List (Option Value)} {i : Nat} {v : Value} (hp : ∀ x, lo[i - 1]? = some (some x) → 0 < i → x.category = 1) : ∀ (j : Nat) (x : Value), (lo.set i (some v))[j]? = some (some x) → (j = i ∧ x = v) ∨ (j ≠ i ∧ lo[j]? = some (some x) ∧ (j + 1 = i → x.category = 1)) := by
  intro j x hj
  rw [List.getElem?_set] at hj
  by_cases e : i = j
  · rw [if_pos e] at hj
    split at hj
    · cases hj; exact Or.inl ⟨e.symm, rfl⟩
    · cases hj
  · rw [if_neg e] at hj
    exact Or.inr ⟨fun q => e q.symm, hj, fun q => hp x (by rw [← q]; exact hj) (by omega)⟩
theorem zlo2 {lo : List (Option Value)} {i : Nat} {v : Value} (hp : ∀ x, lo[i - 1]? = some (some x) → 0 < i → x.category = 1) : ∀ (j : Nat) (x : Value), ((lo.set i (some v)).set (i + 1) none)[j]? = some (some x) → (j = i ∧ x = v) ∨ (j ≠ i ∧ j ≠ i + 1 ∧ lo[j]? = some (some x) ∧ (j + 1 = i → x.category = 1)) := by
  intro j x hj
  rw [List.getElem?_set] at hj
  by_cases e : i + 1 = j
  · rw [if_pos e] at hj
    split at hj <;> cases hj
  · rw [if_neg e, List.getElem?_set] at hj
    by_cases e2 : i = j
    · rw [if_pos e2] at hj
      split at hj
      · cases hj; exact Or.inl ⟨e2.symm, rfl⟩
      · cases hj
    · rw [if_neg e2] at hj
      exact Or.inr ⟨fun q => e2 q.symm, fun q => e q.symm, hj, fun q => hp x (by rw [← q]; exact hj) (by omega)⟩
theorem zg_istore_n {f : Fin 4} {i : Nat} {x : Int32} (hf : (f : Nat) = i) (hp : ∀ x, lo[i - 1]? = some (some x) → 0 < i → x.category = 1) (hi : i < zmL M) (hd : decode M.2.1 pc = .ok (.istore_n f, 1))
    (k : zAW G M XF QF (pc + 1) (lo.set i (some (.int x))) (st) n h c sl) : zAW G M XF QF pc lo (.int x :: st) n h c sl := by
  intro p e s m args below meth cd F H locs ls hz hw hs hl
  refine lv_istore_n F.1 F.2.1 hd hf hl.has hi rfl (fun ls2 hl2 => ?_)
  exact k p e s m args below meth cd F H locs ls2 hz hw hs (zL_st1 (v := .int x) rfl hl2 (zlo1 hp))
theorem zg_istore {i : Nat} {x : Int32} (hp : ∀ x, lo[i - 1]? = some (some x) → 0 < i → x.category = 1) (hi : i < zmL M) (hd : decode M.2.1 pc = .ok (.istore i, 2))
    (k : zAW G M XF QF (pc + 2) (lo.set i (some (.int x))) (st) n h c sl) : zAW G M XF QF pc lo (.int x :: st) n h c sl := by
  intro p e s m args below meth cd F H locs ls hz hw hs hl
  refine lv_istore F.1 F.2.1 hd hl.has hi rfl (fun ls2 hl2 => ?_)
  exact k p e s m args below meth cd F H locs ls2 hz hw hs (zL_st1 (v := .int x) rfl hl2 (zlo1 hp))
theorem zg_astore_n {f : Fin 4} {i : Nat} {x : Nat} (hf : (f : Nat) = i) (hp : ∀ x, lo[i - 1]? = some (some x) → 0 < i → x.category = 1) (hi : i < zmL M) (hd : decode M.2.1 pc = .ok (.astore_n f, 1))
    (k : zAW G M XF QF (pc + 1) (lo.set i (some (.ref x))) (st) n h c sl) : zAW G M XF QF pc lo (.ref x :: st) n h c sl := by
  intro p e s m args below meth cd F H locs ls hz hw hs hl
  refine lv_astore_n F.1 F.2.1 hd hf hl.has hi rfl (fun ls2 hl2 => ?_)
  exact k p e s m args below meth cd F H locs ls2 hz hw hs (zL_st1 (v := .ref x) rfl hl2 (zlo1 hp))
theorem zg_astore {i : Nat} {x : Nat} (hp : ∀ x, lo[i - 1]? = some (some x) → 0 < i → x.category = 1) (hi : i < zmL M) (hd : decode M.2.1 pc = .ok (.astore i, 2))
    (k : zAW G M XF QF (pc + 2) (lo.set i (some (.ref x))) (st) n h c sl) : zAW G M XF QF pc lo (.ref x :: st) n h c sl := by
  intro p e s m args below meth cd F H locs ls hz hw hs hl
  refine lv_astore F.1 F.2.1 hd hl.has hi rfl (fun ls2 hl2 => ?_)
  exact k p e s m args below meth cd F H locs ls2 hz hw hs (zL_st1 (v := .ref x) rfl hl2 (zlo1 hp))
theorem zg_lstore_n {f : Fin 4} {i : Nat} {x : Int64} (hf : (f : Nat) = i) (hp : ∀ x, lo[i - 1]? = some (some x) → 0 < i → x.category = 1) (hi : i + 1 < zmL M) (hd : decode M.2.1 pc = .ok (.lstore_n f, 1))
    (k : zAW G M XF QF (pc + 1) ((lo.set i (some (.long x))).set (i + 1) none) (st) n h c sl) : zAW G M XF QF pc lo (.long x :: st) n h c sl := by
  intro p e s m args below meth cd F H locs ls hz hw hs hl
  refine lv_lstore_n F.1 F.2.1 hd hf hl.has hi rfl (fun ls2 hl2 => ?_)
  exact k p e s m args below meth cd F H locs ls2 hz hw hs (zL_st2 (v := .long x) rfl hl2 (zlo2 hp))
theorem zg_lstore {i : Nat} {x : Int64} (hp : ∀ x, lo[i - 1]? = some (some x) → 0 < i → x.category = 1) (hi : i + 1 < zmL M) (hd : decode M.2.1 pc = .ok (.lstore i, 2))
    (k : zAW G M XF QF (pc + 2) ((lo.set i (some (.long x))).set (i + 1) none) (st) n h c sl) : zAW G M XF QF pc lo (.long x :: st) n h c sl := by
  intro p e s m args below meth cd F H locs ls hz hw hs hl
  refine lv_lstore F.1 F.2.1 hd hl.has hi rfl (fun ls2 hl2 => ?_)
  exact k p e s m args below meth cd F H locs ls2 hz hw hs (zL_st2 (v := .long x) rfl hl2 (zlo2 hp))
theorem zg_iinc {i : Nat} {d z : Int} (hx : lo[i]? = some (some (vi z))) (hp : ∀ x, lo[i - 1]? = some (some x) → 0 < i → x.category = 1) (hi : i < zmL M) (hd : decode M.2.1 pc = .ok (.iinc i d, 3))
    (k : zAW G M XF QF (pc + 3) (lo.set i (some (vi (z + d)))) st n h c sl) : zAW G M XF QF pc lo st n h c sl := by
  intro p e s m args below meth cd F H locs ls hz hw hs hl
  obtain ⟨j, hj⟩ := List.getElem?_of_mem (zL_mem (b := zgb G) hx)
  refine lv_iinc (v := iZ (z + d)) F.1 F.2.1 hd hl.has (k := j) (x := iZ z) hj (by rw [← iZ_add]; rfl) hi rfl (fun ls2 hl2 => ?_)
  exact k p e s m args below meth cd F H locs ls2 hz hw hs (zL_st1 (v := vi (z + d)) rfl hl2 (zlo1 hp))
theorem zs_istore_n_0 {x0 : Option Value} {r : List (Option Value)} {y : Int32} (hi : 0 < zmL M) (hd : decode M.2.1 pc = .ok (.istore_n 0, 1)) (k : zAW G M XF QF (pc + 1) (some (.int y) :: r) st n h c sl) : zAW G M XF QF pc (x0 :: r) (.int y :: st) n h c sl := zg_istore_n (i := 0) rfl (fun _ _ q => absurd q (Nat.lt_irrefl 0)) hi hd k
theorem zs_istore_0 {x0 : Option Value} {r : List (Option Value)} {y : Int32} (hi : 0 < zmL M) (hd : decode M.2.1 pc = .ok (.istore 0, 2)) (k : zAW G M XF QF (pc + 2) (some (.int y) :: r) st n h c sl) : zAW G M XF QF pc (x0 :: r) (.int y :: st) n h c sl := zg_istore (i := 0) (fun _ _ q => absurd q (Nat.lt_irrefl 0)) hi hd k
theorem zs_astore_n_0 {x0 : Option Value} {r : List (Option Value)} {y : Nat} (hi : 0 < zmL M) (hd : decode M.2.1 pc = .ok (.astore_n 0, 1)) (k : zAW G M XF QF (pc + 1) (some (.ref y) :: r) st n h c sl) : zAW G M XF QF pc (x0 :: r) (.ref y :: st) n h c sl := zg_astore_n (i := 0) rfl (fun _ _ q => absurd q (Nat.lt_irrefl 0)) hi hd k
theorem zs_astore_0 {x0 : Option Value} {r : List (Option Value)} {y : Nat} (hi : 0 < zmL M) (hd : decode M.2.1 pc = .ok (.astore 0, 2)) (k : zAW G M XF QF (pc + 2) (some (.ref y) :: r) st n h c sl) : zAW G M XF QF pc (x0 :: r) (.ref y :: st) n h c sl := zg_astore (i := 0) (fun _ _ q => absurd q (Nat.lt_irrefl 0)) hi hd k
theorem zs_iinc_0 {u0 : Option Value} {r : List (Option Value)} {z d : Int} (hi : 0 < zmL M) (hd : decode M.2.1 pc = .ok (.iinc 0 d, 3)) (k : zAW G M XF QF (pc + 3) (some (vi (z + d)) :: r) st n h c sl) : zAW G M XF QF pc (some (vi z) :: r) st n h c sl := zg_iinc (i := 0) rfl (fun _ _ q => absurd q (Nat.lt_irrefl 0)) hi hd k
theorem zs_lstore_n_0 {x0 x1 : Option Value} {r : List (Option Value)} {y : Int64} (hi : 0 + 1 < zmL M) (hd : decode M.2.1 pc = .ok (.lstore_n 0, 1)) (k : zAW G M XF QF (pc + 1) (some (.long y) :: none :: r) st n h c sl) : zAW G M XF QF pc (x0 :: x1 :: r) (.long y :: st) n h c sl := zg_lstore_n (i := 0) rfl (fun _ _ q => absurd q (Nat.lt_irrefl 0)) hi hd k
theorem zs_lstore_0 {x0 x1 : Option Value} {r : List (Option Value)} {y : Int64} (hi : 0 + 1 < zmL M) (hd : decode M.2.1 pc = .ok (.lstore 0, 2)) (k : zAW G M XF QF (pc + 2) (some (.long y) :: none :: r) st n h c sl) : zAW G M XF QF pc (x0 :: x1 :: r) (.long y :: st) n h c sl := zg_lstore (i := 0) (fun _ _ q => absurd q (Nat.lt_irrefl 0)) hi hd k
theorem zs_istore_n_1 {x0 x1 : Option Value} {r : List (Option Value)} {y : Int32} (hn : zn x0) (hi : 1 < zmL M) (hd : decode M.2.1 pc = .ok (.istore_n 1, 1)) (k : zAW G M XF QF (pc + 1) (x0 :: some (.int y) :: r) st n h c sl) : zAW G M XF QF pc (x0 :: x1 :: r) (.int y :: st) n h c sl := zg_istore_n (i := 1) rfl (fun y hy _ => hn y (Option.some.inj hy)) hi hd k
theorem zs_istore_1 {x0 x1 : Option Value} {r : List (Option Value)} {y : Int32} (hn : zn x0) (hi : 1 < zmL M) (hd : decode M.2.1 pc = .ok (.istore 1, 2)) (k : zAW G M XF QF (pc + 2) (x0 :: some (.int y) :: r) st n h c sl) : zAW G M XF QF pc (x0 :: x1 :: r) (.int y :: st) n h c sl := zg_istore (i := 1) (fun y hy _ => hn y (Option.some.inj hy)) hi hd k
theorem zs_astore_n_1 {x0 x1 : Option Value} {r : List (Option Value)} {y : Nat} (hn : zn x0) (hi : 1 < zmL M) (hd : decode M.2.1 pc = .ok (.astore_n 1, 1)) (k : zAW G M XF QF (pc + 1) (x0 :: some (.ref y) :: r) st n h c sl) : zAW G M XF QF pc (x0 :: x1 :: r) (.ref y :: st) n h c sl := zg_astore_n (i := 1) rfl (fun y hy _ => hn y (Option.some.inj hy)) hi hd k
theorem zs_astore_1 {x0 x1 : Option Value} {r : List (Option Value)} {y : Nat} (hn : zn x0) (hi : 1 < zmL M) (hd : decode M.2.1 pc = .ok (.astore 1, 2)) (k : zAW G M XF QF (pc + 2) (x0 :: some (.ref y) :: r) st n h c sl) : zAW G M XF QF pc (x0 :: x1 :: r) (.ref y :: st) n h c sl := zg_astore (i := 1) (fun y hy _ => hn y (Option.some.inj hy)) hi hd k
theorem zs_iinc_1 {x0 : Option Value} {r : List (Option Value)} {z d : Int} (hn : zn x0) (hi : 1 < zmL M) (hd : decode M.2.1 pc = .ok (.iinc 1 d, 3)) (k : zAW G M XF QF (pc + 3) (x0 :: some (vi (z + d)) :: r) st n h c sl) : zAW G M XF QF pc (x0 :: some (vi z) :: r) st n h c sl := zg_iinc (i := 1) rfl (fun y hy _ => hn y (Option.some.inj hy)) hi hd k
theorem zs_lstore_n_1 {x0 x1 x2 : Option Value} {r : List (Option Value)} {y : Int64} (hn : zn x0) (hi : 1 + 1 < zmL M) (hd : decode M.2.1 pc = .ok (.lstore_n 1, 1)) (k : zAW G M XF QF (pc + 1) (x0 :: some (.long y) :: none :: r) st n h c sl) : zAW G M XF QF pc (x0 :: x1 :: x2 :: r) (.long y :: st) n h c sl := zg_lstore_n (i := 1) rfl (fun y hy _ => hn y (Option.some.inj hy)) hi hd k
theorem zs_lstore_1 {x0 x1 x2 : Option Value} {r : List (Option Value)} {y : Int64} (hn : zn x0) (hi : 1 + 1 < zmL M) (hd : decode M.2.1 pc = .ok (.lstore 1, 2)) (k : zAW G M XF QF (pc + 2) (x0 :: some (.long y) :: none :: r) st n h c sl) : zAW G M XF QF pc (x0 :: x1 :: x2 :: r) (.long y :: st) n h c sl := zg_lstore (i := 1) (fun y hy _ => hn y (Option.some.inj hy)) hi hd k
theorem zs_istore_n_2 {x0 x1 x2 : Option Value} {r : List (Option Value)} {y : Int32} (hn : zn x1) (hi : 2 < zmL M) (hd : decode M.2.1 pc = .ok (.istore_n 2, 1)) (k : zAW G M XF QF (pc + 1) (x0 :: x1 :: some (.int y) :: r) st n h c sl) : zAW G M XF QF pc (x0 :: x1 :: x2 :: r) (.int y :: st) n h c sl := zg_istore_n (i := 2) rfl (fun y hy _ => hn y (Option.some.inj hy)) hi hd k
theorem zs_istore_2 {x0 x1 x2 : Option Value} {r : List (Option Value)} {y : Int32} (hn : zn x1) (hi : 2 < zmL M) (hd : decode M.2.1 pc = .ok (.istore 2, 2)) (k : zAW G M XF QF (pc + 2) (x0 :: x1 :: some (.int y) :: r) st n h c sl) : zAW G M XF QF pc (x0 :: x1 :: x2 :: r) (.int y :: st) n h c sl := zg_istore (i := 2) (fun y hy _ => hn y (Option.some.inj hy)) hi hd k
theorem zs_astore_n_2 {x0 x1 x2 : Option Value} {r : List (Option Value)} {y : Nat} (hn : zn x1) (hi : 2 < zmL M) (hd : decode M.2.1 pc = .ok (.astore_n 2, 1)) (k : zAW G M XF QF (pc + 1) (x0 :: x1 :: some (.ref y) :: r) st n h c sl) : zAW G M XF QF pc (x0 :: x1 :: x2 :: r) (.ref y :: st) n h c sl := zg_astore_n (i := 2) rfl (fun y hy _ => hn y (Option.some.inj hy)) hi hd k
theorem zs_astore_2 {x0 x1 x2 : Option Value} {r : List (Option Value)} {y : Nat} (hn : zn x1) (hi : 2 < zmL M) (hd : decode M.2.1 pc = .ok (.astore 2, 2)) (k : zAW G M XF QF (pc + 2) (x0 :: x1 :: some (.ref y) :: r) st n h c sl) : zAW G M XF QF pc (x0 :: x1 :: x2 :: r) (.ref y :: st) n h c sl := zg_astore (i := 2) (fun y hy _ => hn y (Option.some.inj hy)) hi hd k
theorem zs_iinc_2 {x0 x1 : Option Value} {r : List (Option Value)} {z d : Int} (hn : zn x1) (hi : 2 < zmL M) (hd : decode M.2.1 pc = .ok (.iinc 2 d, 3)) (k : zAW G M XF QF (pc + 3) (x0 :: x1 :: some (vi (z + d)) :: r) st n h c sl) : zAW G M XF QF pc (x0 :: x1 :: some (vi z) :: r) st n h c sl := zg_iinc (i := 2) rfl (fun y hy _ => hn y (Option.some.inj hy)) hi hd k
theorem zs_lstore_n_2 {x0 x1 x2 x3 : Option Value} {r : List (Option Value)} {y : Int64} (hn : zn x1) (hi : 2 + 1 < zmL M) (hd : decode M.2.1 pc = .ok (.lstore_n 2, 1)) (k : zAW G M XF QF (pc + 1) (x0 :: x1 :: some (.long y) :: none :: r) st n h c sl) : zAW G M XF QF pc (x0 :: x1 :: x2 :: x3 :: r) (.long y :: st) n h c sl := zg_lstore_n (i := 2) rfl (fun y hy _ => hn y (Option.some.inj hy)) hi hd k
theorem zs_lstore_2 {x0 x1 x2 x3 : Option Value} {r : List (Option Value)} {y : Int64} (hn : zn x1) (hi : 2 + 1 < zmL M) (hd : decode M.2.1 pc = .ok (.lstore 2, 2)) (k : zAW G M XF QF (pc + 2) (x0 :: x1 :: some (.long y) :: none :: r) st n h c sl) : zAW G M XF QF pc (x0 :: x1 :: x2 :: x3 :: r) (.long y :: st) n h c sl := zg_lstore (i := 2) (fun y hy _ => hn y (Option.some.inj hy)) hi hd k
theorem zs_istore_n_3 {x0 x1 x2 x3 : Option Value} {r : List (Option Value)} {y : Int32} (hn : zn x2) (hi : 3 < zmL M) (hd : decode M.2.1 pc = .ok (.istore_n 3, 1)) (k : zAW G M XF QF (pc + 1) (x0 :: x1 :: x2 :: some (.int y) :: r) st n h c sl) : zAW G M XF QF pc (x0 :: x1 :: x2 :: x3 :: r) (.int y :: st) n h c sl := zg_istore_n (i := 3) rfl (fun y hy _ => hn y (Option.some.inj hy)) hi hd k
theorem zs_istore_3 {x0 x1 x2 x3 : Option Value} {r : List (Option Value)} {y : Int32} (hn : zn x2) (hi : 3 < zmL M) (hd : decode M.2.1 pc = .ok (.istore 3, 2)) (k : zAW G M XF QF (pc + 2) (x0 :: x1 :: x2 :: some (.int y) :: r) st n h c sl) : zAW G M XF QF pc (x0 :: x1 :: x2 :: x3 :: r) (.int y :: st) n h c sl := zg_istore (i := 3) (fun y hy _ => hn y (Option.some.inj hy)) hi hd k
theorem zs_astore_n_3 {x0 x1 x2 x3 : Option Value} {r : List (Option Value)} {y : Nat} (hn : zn x2) (hi : 3 < zmL M) (hd : decode M.2.1 pc = .ok (.astore_n 3, 1)) (k : zAW G M XF QF (pc + 1) (x0 :: x1 :: x2 :: some (.ref y) :: r) st n h c sl) : zAW G M XF QF pc (x0 :: x1 :: x2 :: x3 :: r) (.ref y :: st) n h c sl := zg_astore_n (i := 3) rfl (fun y hy _ => hn y (Option.some.inj hy)) hi hd k
theorem zs_astore_3 {x0 x1 x2 x3 : Option Value} {r : List (Option Value)} {y : Nat} (hn : zn x2) (hi : 3 < zmL M) (hd : decode M.2.1 pc = .ok (.astore 3, 2)) (k : zAW G M XF QF (pc + 2) (x0 :: x1 :: x2 :: some (.ref y) :: r) st n h c sl) : zAW G M XF QF pc (x0 :: x1 :: x2 :: x3 :: r) (.ref y :: st) n h c sl := zg_astore (i := 3) (fun y hy _ => hn y (Option.some.inj hy)) hi hd k
theorem zs_iinc_3 {x0 x1 x2 : Option Value} {r : List (Option Value)} {z d : Int} (hn : zn x2) (hi : 3 < zmL M) (hd : decode M.2.1 pc = .ok (.iinc 3 d, 3)) (k : zAW G M XF QF (pc + 3) (x0 :: x1 :: x2 :: some (vi (z + d)) :: r) st n h c sl) : zAW G M XF QF pc (x0 :: x1 :: x2 :: some (vi z) :: r) st n h c sl := zg_iinc (i := 3) rfl (fun y hy _ => hn y (Option.some.inj hy)) hi hd k
theorem zs_lstore_n_3 {x0 x1 x2 x3 x4 : Option Value} {r : List (Option Value)} {y : Int64} (hn : zn x2) (hi : 3 + 1 < zmL M) (hd : decode M.2.1 pc = .ok (.lstore_n 3, 1)) (k : zAW G M XF QF (pc + 1) (x0 :: x1 :: x2 :: some (.long y) :: none :: r) st n h c sl) : zAW G M XF QF pc (x0 :: x1 :: x2 :: x3 :: x4 :: r) (.long y :: st) n h c sl := zg_lstore_n (i := 3) rfl (fun y hy _ => hn y (Option.some.inj hy)) hi hd k
theorem zs_lstore_3 {x0 x1 x2 x3 x4 : Option Value} {r : List (Option Value)} {y : Int64} (hn : zn x2) (hi : 3 + 1 < zmL M) (hd : decode M.2.1 pc = .ok (.lstore 3, 2)) (k : zAW G M XF QF (pc + 2) (x0 :: x1 :: x2 :: some (.long y) :: none :: r) st n h c sl) : zAW G M XF QF pc (x0 :: x1 :: x2 :: x3 :: x4 :: r) (.long y :: st) n h c sl := zg_lstore (i := 3) (fun y hy _ => hn y (Option.some.inj hy)) hi hd k
theorem zs_istore_4 {x0 x1 x2 x3 x4 : Option Value} {r : List (Option Value)} {y : Int32} (hn : zn x3) (hi : 4 < zmL M) (hd : decode M.2.1 pc = .ok (.istore 4, 2)) (k : zAW G M XF QF (pc + 2) (x0 :: x1 :: x2 :: x3 :: some (.int y) :: r) st n h c sl) : zAW G M XF QF pc (x0 :: x1 :: x2 :: x3 :: x4 :: r) (.int y :: st) n h c sl := zg_istore (i := 4) (fun y hy _ => hn y (Option.some.inj hy)) hi hd k
theorem zs_astore_4 {x0 x1 x2 x3 x4 : Option Value} {r : List (Option Value)} {y : Nat} (hn : zn x3) (hi : 4 < zmL M) (hd : decode M.2.1 pc = .ok (.astore 4, 2)) (k : zAW G M XF QF (pc + 2) (x0 :: x1 :: x2 :: x3 :: some (.ref y) :: r) st n h c sl) : zAW G M XF QF pc (x0 :: x1 :: x2 :: x3 :: x4 :: r) (.ref y :: st) n h c sl := zg_astore (i := 4) (fun y hy _ => hn y (Option.some.inj hy)) hi hd k
theorem zs_iinc_4 {x0 x1 x2 x3 : Option Value} {r : List (Option Value)} {z d : Int} (hn : zn x3) (hi : 4 < zmL M) (hd : decode M.2.1 pc = .ok (.iinc 4 d, 3)) (k : zAW G M XF QF (pc + 3) (x0 :: x1 :: x2 :: x3 :: some (vi (z + d)) :: r) st n h c sl) : zAW G M XF QF pc (x0 :: x1 :: x2 :: x3 :: some (vi z) :: r) st n h c sl := zg_iinc (i := 4) rfl (fun y hy _ => hn y (Option.some.inj hy)) hi hd k
theorem zs_lstore_4 {x0 x1 x2 x3 x4 x5 : Option Value} {r : List (Option Value)} {y : Int64} (hn : zn x3) (hi : 4 + 1 < zmL M) (hd : decode M.2.1 pc = .ok (.lstore 4, 2)) (k : zAW G M XF QF (pc + 2) (x0 :: x1 :: x2 :: x3 :: some (.long y) :: none :: r) st n h c sl) : zAW G M XF QF pc (x0 :: x1 :: x2 :: x3 :: x4 :: x5 :: r) (.long y :: st) n h c sl := zg_lstore (i := 4) (fun y hy _ => hn y (Option.some.inj hy)) hi hd k
theorem zs_istore_5 {x0 x1 x2 x3 x4 x5 : Option Value} {r : List (Option Value)} {y : Int32} (hn : zn x4) (hi : 5 < zmL M) (hd : decode M.2.1 pc = .ok (.istore 5, 2)) (k : zAW G M XF QF (pc + 2) (x0 :: x1 :: x2 :: x3 :: x4 :: some (.int y) :: r) st n h c sl) : zAW G M XF QF pc (x0 :: x1 :: x2 :: x3 :: x4 :: x5 :: r) (.int y :: st) n h c sl := zg_istore (i := 5) (fun y hy _ => hn y (Option.some.inj hy)) hi hd k
theorem zs_astore_5 {x0 x1 x2 x3 x4 x5 : Option Value} {r : List (Option Value)} {y : Nat} (hn : zn x4) (hi : 5 < zmL M) (hd : decode M.2.1 pc = .ok (.astore 5, 2)) (k : zAW G M XF QF (pc + 2) (x0 :: x1 :: x2 :: x3 :: x4 :: some (.ref y) :: r) st n h c sl) : zAW G M XF QF pc (x0 :: x1 :: x2 :: x3 :: x4 :: x5 :: r) (.ref y :: st) n h c sl := zg_astore (i := 5) (fun y hy _ => hn y (Option.some.inj hy)) hi hd k
theorem zs_iinc_5 {x0 x1 x2 x3 x4 : Option Value} {r : List (Option Value)} {z d : Int} (hn : zn x4) (hi : 5 < zmL M) (hd : decode M.2.1 pc = .ok (.iinc 5 d, 3)) (k : zAW G M XF QF (pc + 3) (x0 :: x1 :: x2 :: x3 :: x4 :: some (vi (z + d)) :: r) st n h c sl) : zAW G M XF QF pc (x0 :: x1 :: x2 :: x3 :: x4 :: some (vi z) :: r) st n h c sl := zg_iinc (i := 5) rfl (fun y hy _ => hn y (Option.some.inj hy)) hi hd k
theorem zs_lstore_5 {x0 x1 x2 x3 x4 x5 x6 : Option Value} {r : List (Option Value)} {y : Int64} (hn : zn x4) (hi : 5 + 1 < zmL M) (hd : decode M.2.1 pc = .ok (.lstore 5, 2)) (k : zAW G M XF QF (pc + 2) (x0 :: x1 :: x2 :: x3 :: x4 :: some (.long y) :: none :: r) st n h c sl) : zAW G M XF QF pc (x0 :: x1 :: x2 :: x3 :: x4 :: x5 :: x6 :: r) (.long y :: st) n h c sl := zg_lstore (i := 5) (fun y hy _ => hn y (Option.some.inj hy)) hi hd k
theorem zs_istore_6 {x0 x1 x2 x3 x4 x5 x6 : Option Value} {r : List (Option Value)} {y : Int32} (hn : zn x5) (hi : 6 < zmL M) (hd : decode M.2.1 pc = .ok (.istore 6, 2)) (k : zAW G M XF QF (pc + 2) (x0 :: x1 :: x2 :: x3 :: x4 :: x5 :: some (.int y) :: r) st n h c sl) : zAW G M XF QF pc (x0 :: x1 :: x2 :: x3 :: x4 :: x5 :: x6 :: r) (.int y :: st) n h c sl := zg_istore (i := 6) (fun y hy _ => hn y (Option.some.inj hy)) hi hd k
theorem zs_astore_6 {x0 x1 x2 x3 x4 x5 x6 : Option Value} {r : List (Option Value)} {y : Nat} (hn : zn x5) (hi : 6 < zmL M) (hd : decode M.2.1 pc = .ok (.astore 6, 2)) (k : zAW G M XF QF (pc + 2) (x0 :: x1 :: x2 :: x3 :: x4 :: x5 :: some (.ref y) :: r) st n h c sl) : zAW G M XF QF pc (x0 :: x1 :: x2 :: x3 :: x4 :: x5 :: x6 :: r) (.ref y :: st) n h c sl := zg_astore (i := 6) (fun y hy _ => hn y (Option.some.inj hy)) hi hd k
theorem zs_iinc_6 {x0 x1 x2 x3 x4 x5 : Option Value} {r : List (Option Value)} {z d : Int} (hn : zn x5) (hi : 6 < zmL M) (hd : decode M.2.1 pc = .ok (.iinc 6 d, 3)) (k : zAW G M XF QF (pc + 3) (x0 :: x1 :: x2 :: x3 :: x4 :: x5 :: some (vi (z + d)) :: r) st n h c sl) : zAW G M XF QF pc (x0 :: x1 :: x2 :: x3 :: x4 :: x5 :: some (vi z) :: r) st n h c sl := zg_iinc (i := 6) rfl (fun y hy _ => hn y (Option.some.inj hy)) hi hd k
theorem zs_lstore_6 {x0 x1 x2 x3 x4 x5 x6 x7 : Option Value} {r : List (Option Value)} {y : Int64} (hn : zn x5) (hi : 6 + 1 < zmL M) (hd : decode M.2.1 pc = .ok (.lstore 6, 2)) (k : zAW G M XF QF (pc + 2) (x0 :: x1 :: x2 :: x3 :: x4 :: x5 :: some (.long y) :: none :: r) st n h c sl) : zAW G M XF QF pc (x0 :: x1 :: x2 :: x3 :: x4 :: x5 :: x6 :: x7 :: r) (.long y :: st) n h c sl := zg_lstore (i := 6) (fun y hy _ => hn y (Option.some.inj hy)) hi hd k
theorem zs_istore_7 {x0 x1 x2 x3 x4 x5 x6 x7 : Option Value} {r : List (Option Value)} {y : Int32} (hn : zn x6) (hi : 7 < zmL M) (hd : decode M.2.1 pc = .ok (.istore 7, 2)) (k : zAW G M XF QF (pc + 2) (x0 :: x1 :: x2 :: x3 :: x4 :: x5 :: x6 :: some (.int y) :: r) st n h c sl) : zAW G M XF QF pc (x0 :: x1 :: x2 :: x3 :: x4 :: x5 :: x6 :: x7 :: r) (.int y :: st) n h c sl := zg_istore (i := 7) (fun y hy _ => hn y (Option.some.inj hy)) hi hd k
theorem zs_astore_7 {x0 x1 x2 x3 x4 x5 x6 x7 : Option Value} {r : List (Option Value)} {y : Nat} (hn : zn x6) (hi : 7 < zmL M) (hd : decode M.2.1 pc = .ok (.astore 7, 2)) (k : zAW G M XF QF (pc + 2) (x0 :: x1 :: x2 :: x3 :: x4 :: x5 :: x6 :: some (.ref y) :: r) st n h c sl) : zAW G M XF QF pc (x0 :: x1 :: x2 :: x3 :: x4 :: x5 :: x6 :: x7 :: r) (.ref y :: st) n h c sl := zg_astore (i := 7) (fun y hy _ => hn y (Option.some.inj hy)) hi hd k
theorem zs_iinc_7 {x0 x1 x2 x3 x4 x5 x6 : Option Value} {r : List (Option Value)} {z d : Int} (hn : zn x6) (hi : 7 < zmL M) (hd : decode M.2.1 pc = .ok (.iinc 7 d, 3)) (k : zAW G M XF QF (pc + 3) (x0 :: x1 :: x2 :: x3 :: x4 :: x5 :: x6 :: some (vi (z + d)) :: r) st n h c sl) : zAW G M XF QF pc (x0 :: x1 :: x2 :: x3 :: x4 :: x5 :: x6 :: some (vi z) :: r) st n h c sl := zg_iinc (i := 7) rfl (fun y hy _ => hn y (Option.some.inj hy)) hi hd k
theorem zs_lstore_7 {x0 x1 x2 x3 x4 x5 x6 x7 x8 : Option Value} {r : List (Option Value)} {y : Int64} (hn : zn x6) (hi : 7 + 1 < zmL M) (hd : decode M.2.1 pc = .ok (.lstore 7, 2)) (k : zAW G M XF QF (pc + 2) (x0 :: x1 :: x2 :: x3 :: x4 :: x5 :: x6 :: some (.long y) :: none :: r) st n h c sl) : zAW G M XF QF pc (x0 :: x1 :: x2 :: x3 :: x4 :: x5 :: x6 :: x7 :: x8 :: r) (.long y :: st) n h c sl := zg_lstore (i := 7) (fun y hy _ => hn y (Option.some.inj hy)) hi hd k
theorem zs_istore_8 {x0 x1 x2 x3 x4 x5 x6 x7 x8 : Option Value} {r : List (Option Value)} {y : Int32} (hn : zn x7) (hi : 8 < zmL M) (hd : decode M.2.1 pc = .ok (.istore 8, 2)) (k : zAW G M XF QF (pc + 2) (x0 :: x1 :: x2 :: x3 :: x4 :: x5 :: x6 :: x7 :: some (.int y) :: r) st n h c sl) : zAW G M XF QF pc (x0 :: x1 :: x2 :: x3 :: x4 :: x5 :: x6 :: x7 :: x8 :: r) (.int y :: st) n h c sl := zg_istore (i := 8) (fun y hy _ => hn y (Option.some.inj hy)) hi hd k
theorem zs_astore_8 {x0 x1 x2 x3 x4 x5 x6 x7 x8 : Option Value} {r : List (Option Value)} {y : Nat} (hn : zn x7) (hi : 8 < zmL M) (hd : decode M.2.1 pc = .ok (.astore 8, 2)) (k : zAW G M XF QF (pc + 2) (x0 :: x1 :: x2 :: x3 :: x4 :: x5 :: x6 :: x7 :: some (.ref y) :: r) st n h c sl) : zAW G M XF QF pc (x0 :: x1 :: x2 :: x3 :: x4 :: x5 :: x6 :: x7 :: x8 :: r) (.ref y :: st) n h c sl := zg_astore (i := 8) (fun y hy _ => hn y (Option.some.inj hy)) hi hd k
theorem zs_iinc_8 {x0 x1 x2 x3 x4 x5 x6 x7 : Option Value} {r : List (Option Value)} {z d : Int} (hn : zn x7) (hi : 8 < zmL M) (hd : decode M.2.1 pc = .ok (.iinc 8 d, 3)) (k : zAW G M XF QF (pc + 3) (x0 :: x1 :: x2 :: x3 :: x4 :: x5 :: x6 :: x7 :: some (vi (z + d)) :: r) st n h c sl) : zAW G M XF QF pc (x0 :: x1 :: x2 :: x3 :: x4 :: x5 :: x6 :: x7 :: some (vi z) :: r) st n h c sl := zg_iinc (i := 8) rfl (fun y hy _ => hn y (Option.some.inj hy)) hi hd k
theorem zs_lstore_8 {x0 x1 x2 x3 x4 x5 x6 x7 x8 x9 : Option Value} {r : List (Option Value)} {y : Int64} (hn : zn x7) (hi : 8 + 1 < zmL M) (hd : decode M.2.1 pc = .ok (.lstore 8, 2)) (k : zAW G M XF QF (pc + 2) (x0 :: x1 :: x2 :: x3 :: x4 :: x5 :: x6 :: x7 :: some (.long y) :: none :: r) st n h c sl) : zAW G M XF QF pc (x0 :: x1 :: x2 :: x3 :: x4 :: x5 :: x6 :: x7 :: x8 :: x9 :: r) (.long y :: st) n h c sl := zg_lstore (i := 8) (fun y hy _ => hn y (Option.some.inj hy)) hi hd k
theorem zs_istore_9 {x0 x1 x2 x3 x4 x5 x6 x7 x8 x9 : Option Value} {r : List (Option Value)} {y : Int32} (hn : zn x8) (hi : 9 < zmL M) (hd : decode M.2.1 pc = .ok (.istore 9, 2)) (k : zAW G M XF QF (pc + 2) (x0 :: x1 :: x2 :: x3 :: x4 :: x5 :: x6 :: x7 :: x8 :: some (.int y) :: r) st n h c sl) : zAW G M XF QF pc (x0 :: x1 :: x2 :: x3 :: x4 :: x5 :: x6 :: x7 :: x8 :: x9 :: r) (.int y :: st) n h c sl := zg_istore (i := 9) (fun y hy _ => hn y (Option.some.inj hy)) hi hd k
theorem zs_astore_9 {x0 x1 x2 x3 x4 x5 x6 x7 x8 x9 : Option Value} {r : List (Option Value)} {y : Nat} (hn : zn x8) (hi : 9 < zmL M) (hd : decode M.2.1 pc = .ok (.astore 9, 2)) (k : zAW G M XF QF (pc + 2) (x0 :: x1 :: x2 :: x3 :: x4 :: x5 :: x6 :: x7 :: x8 :: some (.ref y) :: r) st n h c sl) : zAW G M XF QF pc (x0 :: x1 :: x2 :: x3 :: x4 :: x5 :: x6 :: x7 :: x8 :: x9 :: r) (.ref y :: st) n h c sl := zg_astore (i := 9) (fun y hy _ => hn y (Option.some.inj hy)) hi hd k
theorem zs_iinc_9 {x0 x1 x2 x3 x4 x5 x6 x7 x8 : Option Value} {r : List (Option Value)} {z d : Int} (hn : zn x8) (hi : 9 < zmL M) (hd : decode M.2.1 pc = .ok (.iinc 9 d, 3)) (k : zAW G M XF QF (pc + 3) (x0 :: x1 :: x2 :: x3 :: x4 :: x5 :: x6 :: x7 :: x8 :: some (vi (z + d)) :: r) st n h c sl) : zAW G M XF QF pc (x0 :: x1 :: x2 :: x3 :: x4 :: x5 :: x6 :: x7 :: x8 :: some (vi z) :: r) st n h c sl := zg_iinc (i := 9) rfl (fun y hy _ => hn y (Option.some.inj hy)) hi hd k
theorem zs_lstore_9 {x0 x1 x2 x3 x4 x5 x6 x7 x8 x9 x10 : Option Value} {r : List (Option Value)} {y : Int64} (hn : zn x8) (hi : 9 + 1 < zmL M) (hd : decode M.2.1 pc = .ok (.lstore 9, 2)) (k : zAW G M XF QF (pc + 2) (x0 :: x1 :: x2 :: x3 :: x4 :: x5 :: x6 :: x7 :: x8 :: some (.long y) :: none :: r) st n h c sl) : zAW G M XF QF pc (x0 :: x1 :: x2 :: x3 :: x4 :: x5 :: x6 :: x7 :: x8 :: x9 :: x10 :: r) (.long y :: st) n h c sl := zg_lstore (i := 9) (fun y hy _ => hn y (Option.some.inj hy)) hi hd k
theorem zs_istore_10 {x0 x1 x2 x3 x4 x5 x6 x7 x8 x9 x10 : Option Value} {r : List (Option Value)} {y : Int32} (hn : zn x9) (hi : 10 < zmL M) (hd : decode M.2.1 pc = .ok (.istore 10, 2)) (k : zAW G M XF QF (pc + 2) (x0 :: x1 :: x2 :: x3 :: x4 :: x5 :: x6 :: x7 :: x8 :: x9 :: some (.int y) :: r) st n h c sl) : zAW G M XF QF pc (x0 :: x1 :: x2 :: x3 :: x4 :: x5 :: x6 :: x7 :: x8 :: x9 :: x10 :: r) (.int y :: st) n h c sl := zg_istore (i := 10) (fun y hy _ => hn y (Option.some.inj hy)) hi hd k
theorem zs_astore_10 {x0 x1 x2 x3 x4 x5 x6 x7 x8 x9 x10 : Option Value} {r : List (Option Value)} {y : Nat} (hn : zn x9) (hi : 10 < zmL M) (hd : decode M.2.1 pc = .ok (.astore 10, 2)) (k : zAW G M XF QF (pc + 2) (x0 :: x1 :: x2 :: x3 :: x4 :: x5 :: x6 :: x7 :: x8 :: x9 :: some (.ref y) :: r) st n h c sl) : zAW G M XF QF pc (x0 :: x1 :: x2 :: x3 :: x4 :: x5 :: x6 :: x7 :: x8 :: x9 :: x10 :: r) (.ref y :: st) n h c sl := zg_astore (i := 10) (fun y hy _ => hn y (Option.some.inj hy)) hi hd k
theorem zs_iinc_10 {x0 x1 x2 x3 x4 x5 x6 x7 x8 x9 : Option Value} {r : List (Option Value)} {z d : Int} (hn : zn x9) (hi : 10 < zmL M) (hd : decode M.2.1 pc = .ok (.iinc 10 d, 3)) (k : zAW G M XF QF (pc + 3) (x0 :: x1 :: x2 :: x3 :: x4 :: x5 :: x6 :: x7 :: x8 :: x9 :: some (vi (z + d)) :: r) st n h c sl) : zAW G M XF QF pc (x0 :: x1 :: x2 :: x3 :: x4 :: x5 :: x6 :: x7 :: x8 :: x9 :: some (vi z) :: r) st n h c sl := zg_iinc (i := 10) rfl (fun y hy _ => hn y (Option.some.inj hy)) hi hd k
theorem zs_lstore_10 {x0 x1 x2 x3 x4 x5 x6 x7 x8 x9 x10 x11 : Option Value} {r : List (Option Value)} {y : Int64} (hn : zn x9) (hi : 10 + 1 < zmL M) (hd : decode M.2.1 pc = .ok (.lstore 10, 2)) (k : zAW G M XF QF (pc + 2) (x0 :: x1 :: x2 :: x3 :: x4 :: x5 :: x6 :: x7 :: x8 :: x9 :: some (.long y) :: none :: r) st n h c sl) : zAW G M XF QF pc (x0 :: x1 :: x2 :: x3 :: x4 :: x5 :: x6 :: x7 :: x8 :: x9 :: x10 :: x11 :: r) (.long y :: st) n h c sl := zg_lstore (i := 10) (fun y hy _ => hn y (Option.some.inj hy)) hi hd k
theorem zs_istore_11 {x0 x1 x2 x3 x4 x5 x6 x7 x8 x9 x10 x11 : Option Value} {r : List (Option Value)} {y : Int32} (hn : zn x10) (hi : 11 < zmL M) (hd : decode M.2.1 pc = .ok (.istore 11, 2)) (k : zAW G M XF QF (pc + 2) (x0 :: x1 :: x2 :: x3 :: x4 :: x5 :: x6 :: x7 :: x8 :: x9 :: x10 :: some (.int y) :: r) st n h c sl) : zAW G M XF QF pc (x0 :: x1 :: x2 :: x3 :: x4 :: x5 :: x6 :: x7 :: x8 :: x9 :: x10 :: x11 :: r) (.int y :: st) n h c sl := zg_istore (i := 11) (fun y hy _ => hn y (Option.some.inj hy)) hi hd k
theorem zs_astore_11 {x0 x1 x2 x3 x4 x5 x6 x7 x8 x9 x10 x11 : Option Value} {r : List (Option Value)} {y : Nat} (hn : zn x10) (hi : 11 < zmL M) (hd : decode M.2.1 pc = .ok (.astore 11, 2)) (k : zAW G M XF QF (pc + 2) (x0 :: x1 :: x2 :: x3 :: x4 :: x5 :: x6 :: x7 :: x8 :: x9 :: x10 :: some (.ref y) :: r) st n h c sl) : zAW G M XF QF pc (x0 :: x1 :: x2 :: x3 :: x4 :: x5 :: x6 :: x7 :: x8 :: x9 :: x10 :: x11 :: r) (.ref y :: st) n h c sl := zg_astore (i := 11) (fun y hy _ => hn y (Option.some.inj hy)) hi hd k
theorem zs_iinc_11 {x0 x1 x2 x3 x4 x5 x6 x7 x8 x9 x10 : Option Value} {r : List (Option Value)} {z d : Int} (hn : zn x10) (hi : 11 < zmL M) (hd : decode M.2.1 pc = .ok (.iinc 11 d, 3)) (k : zAW G M XF QF (pc + 3) (x0 :: x1 :: x2 :: x3 :: x4 :: x5 :: x6 :: x7 :: x8 :: x9 :: x10 :: some (vi (z + d)) :: r) st n h c sl) : zAW G M XF QF pc (x0 :: x1 :: x2 :: x3 :: x4 :: x5 :: x6 :: x7 :: x8 :: x9 :: x10 :: some (vi z) :: r) st n h c sl := zg_iinc (i := 11) rfl (fun y hy _ => hn y (Option.some.inj hy)) hi hd k
theorem zs_lstore_11 {x0 x1 x2 x3 x4 x5 x6 x7 x8 x9 x10 x11 x12 : Option Value} {r : List (Option Value)} {y : Int64} (hn : zn x10) (hi : 11 + 1 < zmL M) (hd : decode M.2.1 pc = .ok (.lstore 11, 2)) (k : zAW G M XF QF (pc + 2) (x0 :: x1 :: x2 :: x3 :: x4 :: x5 :: x6 :: x7 :: x8 :: x9 :: x10 :: some (.long y) :: none :: r) st n h c sl) : zAW G M XF QF pc (x0 :: x1 :: x2 :: x3 :: x4 :: x5 :: x6 :: x7 :: x8 :: x9 :: x10 :: x11 :: x12 :: r) (.long y :: st) n h c sl := zg_lstore (i := 11) (fun y hy _ => hn y (Option.some.inj hy)) hi hd k
theorem zs_istore_12 {x0 x1 x2 x3 x4 x5 x6 x7 x8 x9 x10 x11 x12 : Option Value} {r : List (Option Value)} {y : Int32} (hn : zn x11) (hi : 12 < zmL M) (hd : decode M.2.1 pc = .ok (.istore 12, 2)) (k : zAW G M XF QF (pc + 2) (x0 :: x1 :: x2 :: x3 :: x4 :: x5 :: x6 :: x7 :: x8 :: x9 :: x10 :: x11 :: some (.int y) :: r) st n h c sl) : zAW G M XF QF pc (x0 :: x1 :: x2 :: x3 :: x4 :: x5 :: x6 :: x7 :: x8 :: x9 :: x10 :: x11 :: x12 :: r) (.int y :: st) n h c sl := zg_istore (i := 12) (fun y hy _ => hn y (Option.some.inj hy)) hi hd k
theorem zs_astore_12 {x0 x1 x2 x3 x4 x5 x6 x7 x8 x9 x10 x11 x12 : Option Value} {r : List (Option Value)} {y : Nat} (hn : zn x11) (hi : 12 < zmL M) (hd : decode M.2.1 pc = .ok (.astore 12, 2)) (k : zAW G M XF QF (pc + 2) (x0 :: x1 :: x2 :: x3 :: x4 :: x5 :: x6 :: x7 :: x8 :: x9 :: x10 :: x11 :: some (.ref y) :: r) st n h c sl) : zAW G M XF QF pc (x0 :: x1 :: x2 :: x3 :: x4 :: x5 :: x6 :: x7 :: x8 :: x9 :: x10 :: x11 :: x12 :: r) (.ref y :: st) n h c sl := zg_astore (i := 12) (fun y hy _ => hn y (Option.some.inj hy)) hi hd k
theorem zs_iinc_12 {x0 x1 x2 x3 x4 x5 x6 x7 x8 x9 x10 x11 : Option Value} {r : List (Option Value)} {z d : Int} (hn : zn x11) (hi : 12 < zmL M) (hd : decode M.2.1 pc = .ok (.iinc 12 d, 3)) (k : zAW G M XF QF (pc + 3) (x0 :: x1 :: x2 :: x3 :: x4 :: x5 :: x6 :: x7 :: x8 :: x9 :: x10 :: x11 :: some (vi (z + d)) :: r) st n h c sl) : zAW G M XF QF pc (x0 :: x1 :: x2 :: x3 :: x4 :: x5 :: x6 :: x7 :: x8 :: x9 :: x10 :: x11 :: some (vi z) :: r) st n h c sl := zg_iinc (i := 12) rfl (fun y hy _ => hn y (Option.some.inj hy)) hi hd k
theorem zs_lstore_12 {x0 x1 x2 x3 x4 x5 x6 x7 x8 x9 x10 x11 x12 x13 : Option Value} {r : List (Option Value)} {y : Int64} (hn : zn x11) (hi : 12 + 1 < zmL M) (hd : decode M.2.1 pc = .ok (.lstore 12, 2)) (k : zAW G M XF QF (pc + 2) (x0 :: x1 :: x2 :: x3 :: x4 :: x5 :: x6 :: x7 :: x8 :: x9 :: x10 :: x11 :: some (.long y) :: none :: r) st n h c sl) : zAW G M XF QF pc (x0 :: x1 :: x2 :: x3 :: x4 :: x5 :: x6 :: x7 :: x8 :: x9 :: x10 :: x11 :: x12 :: x13 :: r) (.long y :: st) n h c sl := zg_lstore (i := 12) (fun y hy _ => hn y (Option.some.inj hy)) hi hd k
theorem zs_istore_13 {x0 x1 x2 x3 x4 x5 x6 x7 x8 x9 x10 x11 x12 x13 : Option Value} {r : List (Option Value)} {y : Int32} (hn : zn x12) (hi : 13 < zmL M) (hd : decode M.2.1 pc = .ok (.istore 13, 2)) (k : zAW G M XF QF (pc + 2) (x0 :: x1 :: x2 :: x3 :: x4 :: x5 :: x6 :: x7 :: x8 :: x9 :: x10 :: x11 :: x12 :: some (.int y) :: r) st n h c sl) : zAW G M XF QF pc (x0 :: x1 :: x2 :: x3 :: x4 :: x5 :: x6 :: x7 :: x8 :: x9 :: x10 :: x11 :: x12 :: x13 :: r) (.int y :: st) n h c sl := zg_istore (i := 13) (fun y hy _ => hn y (Option.some.inj hy)) hi hd k
theorem zs_astore_13 {x0 x1 x2 x3 x4 x5 x6 x7 x8 x9 x10 x11 x12 x13 : Option Value} {r : List (Option Value)} {y : Nat} (hn : zn x12) (hi : 13 < zmL M) (hd : decode M.2.1 pc = .ok (.astore 13, 2)) (k : zAW G M XF QF (pc + 2) (x0 :: x1 :: x2 :: x3 :: x4 :: x5 :: x6 :: x7 :: x8 :: x9 :: x10 :: x11 :: x12 :: some (.ref y) :: r) st n h c sl) : zAW G M XF QF pc (x0 :: x1 :: x2 :: x3 :: x4 :: x5 :: x6 :: x7 :: x8 :: x9 :: x10 :: x11 :: x12 :: x13 :: r) (.ref y :: st) n h c sl := zg_astore (i := 13) (fun y hy _ => hn y (Option.some.inj hy)) hi hd k
theorem zs_iinc_13 {x0 x1 x2 x3 x4 x5 x6 x7 x8 x9 x10 x11 x12 : Option Value} {r : List (Option Value)} {z d : Int} (hn : zn x12) (hi : 13 < zmL M) (hd : decode M.2.1 pc = .ok (.iinc 13 d, 3)) (k : zAW G M XF QF (pc + 3) (x0 :: x1 :: x2 :: x3 :: x4 :: x5 :: x6 :: x7 :: x8 :: x9 :: x10 :: x11 :: x12 :: some (vi (z + d)) :: r) st n h c sl) : zAW G M XF QF pc (x0 :: x1 :: x2 :: x3 :: x4 :: x5 :: x6 :: x7 :: x8 :: x9 :: x10 :: x11 :: x12 :: some (vi z) :: r) st n h c sl := zg_iinc (i := 13) rfl (fun y hy _ => hn y (Option.some.inj hy)) hi hd k
theorem zs_lstore_13 {x0 x1 x2 x3 x4 x5 x6 x7 x8 x9 x10 x11 x12 x13 x14 : Option Value} {r : List (Option Value)} {y : Int64} (hn : zn x12) (hi : 13 + 1 < zmL M) (hd : decode M.2.1 pc = .ok (.lstore 13, 2)) (k : zAW G M XF QF (pc + 2) (x0 :: x1 :: x2 :: x3 :: x4 :: x5 :: x6 :: x7 :: x8 :: x9 :: x10 :: x11 :: x12 :: some (.long y) :: none :: r) st n h c sl) : zAW G M XF QF pc (x0 :: x1 :: x2 :: x3 :: x4 :: x5 :: x6 :: x7 :: x8 :: x9 :: x10 :: x11 :: x12 :: x13 :: x14 :: r) (.long y :: st) n h c sl := zg_lstore (i := 13) (fun y hy _ => hn y (Option.some.inj hy)) hi hd k
theorem zs_istore_14 {x0 x1 x2 x3 x4 x5 x6 x7 x8 x9 x10 x11 x12 x13 x14 : Option Value} {r : List (Option Value)} {y : Int32} (hn : zn x13) (hi : 14 < zmL M) (hd : decode M.2.1 pc = .ok (.istore 14, 2)) (k : zAW G M XF QF (pc + 2) (x0 :: x1 :: x2 :: x3 :: x4 :: x5 :: x6 :: x7 :: x8 :: x9 :: x10 :: x11 :: x12 :: x13 :: some (.int y) :: r) st n h c sl) : zAW G M XF QF pc (x0 :: x1 :: x2 :: x3 :: x4 :: x5 :: x6 :: x7 :: x8 :: x9 :: x10 :: x11 :: x12 :: x13 :: x14 :: r) (.int y :: st) n h c sl := zg_istore (i := 14) (fun y hy _ => hn y (Option.some.inj hy)) hi hd k
theorem zs_astore_14 {x0 x1 x2 x3 x4 x5 x6 x7 x8 x9 x10 x11 x12 x13 x14 : Option Value} {r : List (Option Value)} {y : Nat} (hn : zn x13) (hi : 14 < zmL M) (hd : decode M.2.1 pc = .ok (.astore 14, 2)) (k : zAW G M XF QF (pc + 2) (x0 :: x1 :: x2 :: x3 :: x4 :: x5 :: x6 :: x7 :: x8 :: x9 :: x10 :: x11 :: x12 :: x13 :: some (.ref y) :: r) st n h c sl) : zAW G M XF QF pc (x0 :: x1 :: x2 :: x3 :: x4 :: x5 :: x6 :: x7 :: x8 :: x9 :: x10 :: x11 :: x12 :: x13 :: x14 :: r) (.ref y :: st) n h c sl := zg_astore (i := 14) (fun y hy _ => hn y (Option.some.inj hy)) hi hd k
theorem zs_iinc_14 {x0 x1 x2 x3 x4 x5 x6 x7 x8 x9 x10 x11 x12 x13 : Option Value} {r : List (Option Value)} {z d : Int} (hn : zn x13) (hi : 14 < zmL M) (hd : decode M.2.1 pc = .ok (.iinc 14 d, 3)) (k : zAW G M XF QF (pc + 3) (x0 :: x1 :: x2 :: x3 :: x4 :: x5 :: x6 :: x7 :: x8 :: x9 :: x10 :: x11 :: x12 :: x13 :: some (vi (z + d)) :: r) st n h c sl) : zAW G M XF QF pc (x0 :: x1 :: x2 :: x3 :: x4 :: x5 :: x6 :: x7 :: x8 :: x9 :: x10 :: x11 :: x12 :: x13 :: some (vi z) :: r) st n h c sl := zg_iinc (i := 14) rfl (fun y hy _ => hn y (Option.some.inj hy)) hi hd k
theorem zs_lstore_14 {x0 x1 x2 x3 x4 x5 x6 x7 x8 x9 x10 x11 x12 x13 x14 x15 : Option Value} {r : List (Option Value)} {y : Int64} (hn : zn x13) (hi : 14 + 1 < zmL M) (hd : decode M.2.1 pc = .ok (.lstore 14, 2)) (k : zAW G M XF QF (pc + 2) (x0 :: x1 :: x2 :: x3 :: x4 :: x5 :: x6 :: x7 :: x8 :: x9 :: x10 :: x11 :: x12 :: x13 :: some (.long y) :: none :: r) st n h c sl) : zAW G M XF QF pc (x0 :: x1 :: x2 :: x3 :: x4 :: x5 :: x6 :: x7 :: x8 :: x9 :: x10 :: x11 :: x12 :: x13 :: x14 :: x15 :: r) (.long y :: st) n h c sl := zg_lstore (i := 14) (fun y hy _ => hn y (Option.some.inj hy)) hi hd k
theorem zs_istore_15 {x0 x1 x2 x3 x4 x5 x6 x7 x8 x9 x10 x11 x12 x13 x14 x15 : Option Value} {r : List (Option Value)} {y : Int32} (hn : zn x14) (hi : 15 < zmL M) (hd : decode M.2.1 pc = .ok (.istore 15, 2)) (k : zAW G M XF QF (pc + 2) (x0 :: x1 :: x2 :: x3 :: x4 :: x5 :: x6 :: x7 :: x8 :: x9 :: x10 :: x11 :: x12 :: x13 :: x14 :: some (.int y) :: r) st n h c sl) : zAW G M XF QF pc (x0 :: x1 :: x2 :: x3 :: x4 :: x5 :: x6 :: x7 :: x8 :: x9 :: x10 :: x11 :: x12 :: x13 :: x14 :: x15 :: r) (.int y :: st) n h c sl := zg_istore (i := 15) (fun y hy _ => hn y (Option.some.inj hy)) hi hd k
theorem zs_astore_15 {x0 x1 x2 x3 x4 x5 x6 x7 x8 x9 x10 x11 x12 x13 x14 x15 : Option Value} {r : List (Option Value)} {y : Nat} (hn : zn x14) (hi : 15 < zmL M) (hd : decode M.2.1 pc = .ok (.astore 15, 2)) (k : zAW G M XF QF (pc + 2) (x0 :: x1 :: x2 :: x3 :: x4 :: x5 :: x6 :: x7 :: x8 :: x9 :: x10 :: x11 :: x12 :: x13 :: x14 :: some (.ref y) :: r) st n h c sl) : zAW G M XF QF pc (x0 :: x1 :: x2 :: x3 :: x4 :: x5 :: x6 :: x7 :: x8 :: x9 :: x10 :: x11 :: x12 :: x13 :: x14 :: x15 :: r) (.ref y :: st) n h c sl := zg_astore (i := 15) (fun y hy _ => hn y (Option.some.inj hy)) hi hd k
theorem zs_iinc_15 {x0 x1 x2 x3 x4 x5 x6 x7 x8 x9 x10 x11 x12 x13 x14 : Option Value} {r : List (Option Value)} {z d : Int} (hn : zn x14) (hi : 15 < zmL M) (hd : decode M.2.1 pc = .ok (.iinc 15 d, 3)) (k : zAW G M XF QF (pc + 3) (x0 :: x1 :: x2 :: x3 :: x4 :: x5 :: x6 :: x7 :: x8 :: x9 :: x10 :: x11 :: x12 :: x13 :: x14 :: some (vi (z + d)) :: r) st n h c sl) : zAW G M XF QF pc (x0 :: x1 :: x2 :: x3 :: x4 :: x5 :: x6 :: x7 :: x8 :: x9 :: x10 :: x11 :: x12 :: x13 :: x14 :: some (vi z) :: r) st n h c sl := zg_iinc (i := 15) rfl (fun y hy _ => hn y (Option.some.inj hy)) hi hd k
theorem zs_lstore_15 {x0 x1 x2 x3 x4 x5 x6 x7 x8 x9 x10 x11 x12 x13 x14 x15 x16 : Option Value} {r : List (Option Value)} {y : Int64} (hn : zn x14) (hi : 15 + 1 < zmL M) (hd : decode M.2.1 pc = .ok (.lstore 15, 2)) (k : zAW G M XF QF (pc + 2) (x0 :: x1 :: x2 :: x3 :: x4 :: x5 :: x6 :: x7 :: x8 :: x9 :: x10 :: x11 :: x12 :: x13 :: x14 :: some (.long y) :: none :: r) st n h c sl) : zAW G M XF QF pc (x0 :: x1 :: x2 :: x3 :: x4 :: x5 :: x6 :: x7 :: x8 :: x9 :: x10 :: x11 :: x12 :: x13 :: x14 :: x15 :: x16 :: r) (.long y :: st) n h c sl := zg_lstore (i := 15) (fun y hy _ => hn y (Option.some.inj hy)) hi hd k
theorem zs_istore_16 {x0 x1 x2 x3 x4 x5 x6 x7 x8 x9 x10 x11 x12 x13 x14 x15 x16 : Option Value} {r : List (Option Value)} {y : Int32} (hn : zn x15) (hi : 16 < zmL M) (hd : decode M.2.1 pc = .ok (.istore 16, 2)) (k : zAW G M XF QF (pc + 2) (x0 :: x1 :: x2 :: x3 :: x4 :: x5 :: x6 :: x7 :: x8 :: x9 :: x10 :: x11 :: x12 :: x13 :: x14 :: x15 :: some (.int y) :: r) st n h c sl) : zAW G M XF QF pc (x0 :: x1 :: x2 :: x3 :: x4 :: x5 :: x6 :: x7 :: x8 :: x9 :: x10 :: x11 :: x12 :: x13 :: x14 :: x15 :: x16 :: r) (.int y :: st) n h c sl := zg_istore (i := 16) (fun y hy _ => hn y (Option.some.inj hy)) hi hd k
theorem zs_astore_16 {x0 x1 x2 x3 x4 x5 x6 x7 x8 x9 x10 x11 x12 x13 x14 x15 x16 : Option Value} {r : List (Option Value)} {y : Nat} (hn : zn x15) (hi : 16 < zmL M) (hd : decode M.2.1 pc = .ok (.astore 16, 2)) (k : zAW G M XF QF (pc + 2) (x0 :: x1 :: x2 :: x3 :: x4 :: x5 :: x6 :: x7 :: x8 :: x9 :: x10 :: x11 :: x12 :: x13 :: x14 :: x15 :: some (.ref y) :: r) st n h c sl) : zAW G M XF QF pc (x0 :: x1 :: x2 :: x3 :: x4 :: x5 :: x6 :: x7 :: x8 :: x9 :: x10 :: x11 :: x12 :: x13 :: x14 :: x15 :: x16 :: r) (.ref y :: st) n h c sl := zg_astore (i := 16) (fun y hy _ => hn y (Option.some.inj hy)) hi hd k
theorem zs_iinc_16 {x0 x1 x2 x3 x4 x5 x6 x7 x8 x9 x10 x11 x12 x13 x14 x15 : Option Value} {r : List (Option Value)} {z d : Int} (hn : zn x15) (hi : 16 < zmL M) (hd : decode M.2.1 pc = .ok (.iinc 16 d, 3)) (k : zAW G M XF QF (pc + 3) (x0 :: x1 :: x2 :: x3 :: x4 :: x5 :: x6 :: x7 :: x8 :: x9 :: x10 :: x11 :: x12 :: x13 :: x14 :: x15 :: some (vi (z + d)) :: r) st n h c sl) : zAW G M XF QF pc (x0 :: x1 :: x2 :: x3 :: x4 :: x5 :: x6 :: x7 :: x8 :: x9 :: x10 :: x11 :: x12 :: x13 :: x14 :: x15 :: some (vi z) :: r) st n h c sl := zg_iinc (i := 16) rfl (fun y hy _ => hn y (Option.some.inj hy)) hi hd k
theorem zs_lstore_16 {x0 x1 x2 x3 x4 x5 x6 x7 x8 x9 x10 x11 x12 x13 x14 x15 x16 x17 : Option Value} {r : List (Option Value)} {y : Int64} (hn : zn x15) (hi : 16 + 1 < zmL M) (hd : decode M.2.1 pc = .ok (.lstore 16, 2)) (k : zAW G M XF QF (pc + 2) (x0 :: x1 :: x2 :: x3 :: x4 :: x5 :: x6 :: x7 :: x8 :: x9 :: x10 :: x11 :: x12 :: x13 :: x14 :: x15 :: some (.long y) :: none :: r) st n h c sl) : zAW G M XF QF pc (x0 :: x1 :: x2 :: x3 :: x4 :: x5 :: x6 :: x7 :: x8 :: x9 :: x10 :: x11 :: x12 :: x13 :: x14 :: x15 :: x16 :: x17 :: r) (.long y :: st) n h c sl := zg_lstore (i := 16) (fun y hy _ => hn y (Option.some.inj hy)) hi hd k
theorem zs_istore_17 {x0 x1 x2 x3 x4 x5 x6 x7 x8 x9 x10 x11 x12 x13 x14 x15 x16 x17 : Option Value} {r : List (Option Value)} {y : Int32} (hn : zn x16) (hi : 17 < zmL M) (hd : decode M.2.1 pc = .ok (.istore 17, 2)) (k : zAW G M XF QF (pc + 2) (x0 :: x1 :: x2 :: x3 :: x4 :: x5 :: x6 :: x7 :: x8 :: x9 :: x10 :: x11 :: x12 :: x13 :: x14 :: x15 :: x16 :: some (.int y) :: r) st n h c sl) : zAW G M XF QF pc (x0 :: x1 :: x2 :: x3 :: x4 :: x5 :: x6 :: x7 :: x8 :: x9 :: x10 :: x11 :: x12 :: x13 :: x14 :: x15 :: x16 :: x17 :: r) (.int y :: st) n h c sl := zg_istore (i := 17) (fun y hy _ => hn y (Option.some.inj hy)) hi hd k
theorem zs_astore_17 {x0 x1 x2 x3 x4 x5 x6 x7 x8 x9 x10 x11 x12 x13 x14 x15 x16 x17 : Option Value} {r : List (Option Value)} {y : Nat} (hn : zn x16) (hi : 17 < zmL M) (hd : decode M.2.1 pc = .ok (.astore 17, 2)) (k : zAW G M XF QF (pc + 2) (x0 :: x1 :: x2 :: x3 :: x4 :: x5 :: x6 :: x7 :: x8 :: x9 :: x10 :: x11 :: x12 :: x13 :: x14 :: x15 :: x16 :: some (.ref y) :: r) st n h c sl) : zAW G M XF QF pc (x0 :: x1 :: x2 :: x3 :: x4 :: x5 :: x6 :: x7 :: x8 :: x9 :: x10 :: x11 :: x12 :: x13 :: x14 :: x15 :: x16 :: x17 :: r) (.ref y :: st) n h c sl := zg_astore (i := 17) (fun y hy _ => hn y (Option.some.inj hy)) hi hd k
theorem zs_iinc_17 {x0 x1 x2 x3 x4 x5 x6 x7 x8 x9 x10 x11 x12 x13 x14 x15 x16 : Option Value} {r : List (Option Value)} {z d : Int} (hn : zn x16) (hi : 17 < zmL M) (hd : decode M.2.1 pc = .ok (.iinc 17 d, 3)) (k : zAW G M XF QF (pc + 3) (x0 :: x1 :: x2 :: x3 :: x4 :: x5 :: x6 :: x7 :: x8 :: x9 :: x10 :: x11 :: x12 :: x13 :: x14 :: x15 :: x16 :: some (vi (z + d)) :: r) st n h c sl) : zAW G M XF QF pc (x0 :: x1 :: x2 :: x3 :: x4 :: x5 :: x6 :: x7 :: x8 :: x9 :: x10 :: x11 :: x12 :: x13 :: x14 :: x15 :: x16 :: some (vi z) :: r) st n h c sl := zg_iinc (i := 17) rfl (fun y hy _ => hn y (Option.some.inj hy)) hi hd k
theorem zs_lstore_17 {x0 x1 x2 x3 x4 x5 x6 x7 x8 x9 x10 x11 x12 x13 x14 x15 x16 x17 x18 : Option Value} {r : List (Option Value)} {y : Int64} (hn : zn x16) (hi : 17 + 1 < zmL M) (hd : decode M.2.1 pc = .ok (.lstore 17, 2)) (k : zAW G M XF QF (pc + 2) (x0 :: x1 :: x2 :: x3 :: x4 :: x5 :: x6 :: x7 :: x8 :: x9 :: x10 :: x11 :: x12 :: x13 :: x14 :: x15 :: x16 :: some (.long y) :: none :: r) st n h c sl) : zAW G M XF QF pc (x0 :: x1 :: x2 :: x3 :: x4 :: x5 :: x6 :: x7 :: x8 :: x9 :: x10 :: x11 :: x12 :: x13 :: x14 :: x15 :: x16 :: x17 :: x18 :: r) (.long y :: st) n h c sl := zg_lstore (i := 17) (fun y hy _ => hn y (Option.some.inj hy)) hi hd k
theorem zs_istore_18 {x0 x1 x2 x3 x4 x5 x6 x7 x8 x9 x10 x11 x12 x13 x14 x15 x16 x17 x18 : Option Value} {r : List (Option Value)} {y : Int32} (hn : zn x17) (hi : 18 < zmL M) (hd : decode M.2.1 pc = .ok (.istore 18, 2)) (k : zAW G M XF QF (pc + 2) (x0 :: x1 :: x2 :: x3 :: x4 :: x5 :: x6 :: x7 :: x8 :: x9 :: x10 :: x11 :: x12 :: x13 :: x14 :: x15 :: x16 :: x17 :: some (.int y) :: r) st n h c sl) : zAW G M XF QF pc (x0 :: x1 :: x2 :: x3 :: x4 :: x5 :: x6 :: x7 :: x8 :: x9 :: x10 :: x11 :: x12 :: x13 :: x14 :: x15 :: x16 :: x17 :: x18 :: r) (.int y :: st) n h c sl := zg_istore (i := 18) (fun y hy _ => hn y (Option.some.inj hy)) hi hd k
theorem zs_astore_18 {x0 x1 x2 x3 x4 x5 x6 x7 x8 x9 x10 x11 x12 x13 x14 x15 x16 x17 x18 : Option Value} {r : List (Option Value)} {y : Nat} (hn : zn x17) (hi : 18 < zmL M) (hd : decode M.2.1 pc = .ok (.astore 18, 2)) (k : zAW G M XF QF (pc + 2) (x0 :: x1 :: x2 :: x3 :: x4 :: x5 :: x6 :: x7 :: x8 :: x9 :: x10 :: x11 :: x12 :: x13 :: x14 :: x15 :: x16 :: x17 :: some (.ref y) :: r) st n h c sl) : zAW G M XF QF pc (x0 :: x1 :: x2 :: x3 :: x4 :: x5 :: x6 :: x7 :: x8 :: x9 :: x10 :: x11 :: x12 :: x13 :: x14 :: x15 :: x16 :: x17 :: x18 :: r) (.ref y :: st) n h c sl := zg_astore (i := 18) (fun y hy _ => hn y (Option.some.inj hy)) hi hd k
theorem zs_iinc_18 {x0 x1 x2 x3 x4 x5 x6 x7 x8 x9 x10 x11 x12 x13 x14 x15 x16 x17 : Option Value} {r : List (Option Value)} {z d : Int} (hn : zn x17) (hi : 18 < zmL M) (hd : decode M.2.1 pc = .ok (.iinc 18 d, 3)) (k : zAW G M XF QF (pc + 3) (x0 :: x1 :: x2 :: x3 :: x4 :: x5 :: x6 :: x7 :: x8 :: x9 :: x10 :: x11 :: x12 :: x13 :: x14 :: x15 :: x16 :: x17 :: some (vi (z + d)) :: r) st n h c sl) : zAW G M XF QF pc (x0 :: x1 :: x2 :: x3 :: x4 :: x5 :: x6 :: x7 :: x8 :: x9 :: x10 :: x11 :: x12 :: x13 :: x14 :: x15 :: x16 :: x17 :: some (vi z) :: r) st n h c sl := zg_iinc (i := 18) rfl (fun y hy _ => hn y (Option.some.inj hy)) hi hd k
theorem zs_lstore_18 {x0 x1 x2 x3 x4 x5 x6 x7 x8 x9 x10 x11 x12 x13 x14 x15 x16 x17 x18 x19 : Option Value} {r : List (Option Value)} {y : Int64} (hn : zn x17) (hi : 18 + 1 < zmL M) (hd : decode M.2.1 pc = .ok (.lstore 18, 2)) (k : zAW G M XF QF (pc + 2) (x0 :: x1 :: x2 :: x3 :: x4 :: x5 :: x6 :: x7 :: x8 :: x9 :: x10 :: x11 :: x12 :: x13 :: x14 :: x15 :: x16 :: x17 :: some (.long y) :: none :: r) st n h c sl) : zAW G M XF QF pc (x0 :: x1 :: x2 :: x3 :: x4 :: x5 :: x6 :: x7 :: x8 :: x9 :: x10 :: x11 :: x12 :: x13 :: x14 :: x15 :: x16 :: x17 :: x18 :: x19 :: r) (.long y :: st) n h c sl := zg_lstore (i := 18) (fun y hy _ => hn y (Option.some.inj hy)) hi hd k
theorem zs_istore_19 {x0 x1 x2 x3 x4 x5 x6 x7 x8 x9 x10 x11 x12 x13 x14 x15 x16 x17 x18 x19 : Option Value} {r : List (Option Value)} {y : Int32} (hn : zn x18) (hi : 19 < zmL M) (hd : decode M.2.1 pc = .ok (.istore 19, 2)) (k : zAW G M XF QF (pc + 2) (x0 :: x1 :: x2 :: x3 :: x4 :: x5 :: x6 :: x7 :: x8 :: x9 :: x10 :: x11 :: x12 :: x13 :: x14 :: x15 :: x16 :: x17 :: x18 :: some (.int y) :: r) st n h c sl) : zAW G M XF QF pc (x0 :: x1 :: x2 :: x3 :: x4 :: x5 :: x6 :: x7 :: x8 :: x9 :: x10 :: x11 :: x12 :: x13 :: x14 :: x15 :: x16 :: x17 :: x18 :: x19 :: r) (.int y :: st) n h c sl := zg_istore (i := 19) (fun y hy _ => hn y (Option.some.inj hy)) hi hd k
theorem zs_astore_19 {x0 x1 x2 x3 x4 x5 x6 x7 x8 x9 x10 x11 x12 x13 x14 x15 x16 x17 x18 x19 : Option Value} {r : List (Option Value)} {y : Nat} (hn : zn x18) (hi : 19 < zmL M) (hd : decode M.2.1 pc = .ok (.astore 19, 2)) (k : zAW G M XF QF (pc + 2) (x0 :: x1 :: x2 :: x3 :: x4 :: x5 :: x6 :: x7 :: x8 :: x9 :: x10 :: x11 :: x12 :: x13 :: x14 :: x15 :: x16 :: x17 :: x18 :: some (.ref y) :: r) st n h c sl) : zAW G M XF QF pc (x0 :: x1 :: x2 :: x3 :: x4 :: x5 :: x6 :: x7 :: x8 :: x9 :: x10 :: x11 :: x12 :: x13 :: x14 :: x15 :: x16 :: x17 :: x18 :: x19 :: r) (.ref y :: st) n h c sl := zg_astore (i := 19) (fun y hy _ => hn y (Option.some.inj hy)) hi hd k
theorem zs_iinc_19 {x0 x1 x2 x3 x4 x5 x6 x7 x8 x9 x10 x11 x12 x13 x14 x15 x16 x17 x18 : Option Value} {r : List (Option Value)} {z d : Int} (hn : zn x18) (hi : 19 < zmL M) (hd : decode M.2.1 pc = .ok (.iinc 19 d, 3)) (k : zAW G M XF QF (pc + 3) (x0 :: x1 :: x2 :: x3 :: x4 :: x5 :: x6 :: x7 :: x8 :: x9 :: x10 :: x11 :: x12 :: x13 :: x14 :: x15 :: x16 :: x17 :: x18 :: some (vi (z + d)) :: r) st n h c sl) : zAW G M XF QF pc (x0 :: x1 :: x2 :: x3 :: x4 :: x5 :: x6 :: x7 :: x8 :: x9 :: x10 :: x11 :: x12 :: x13 :: x14 :: x15 :: x16 :: x17 :: x18 :: some (vi z) :: r) st n h c sl := zg_iinc (i := 19) rfl (fun y hy _ => hn y (Option.some.inj hy)) hi hd k
theorem zs_lstore_19 {x0 x1 x2 x3 x4 x5 x6 x7 x8 x9 x10 x11 x12 x13 x14 x15 x16 x17 x18 x19 x20 : Option Value} {r : List (Option Value)} {y : Int64} (hn : zn x18) (hi : 19 + 1 < zmL M) (hd : decode M.2.1 pc = .ok (.lstore 19, 2)) (k : zAW G M XF QF (pc + 2) (x0 :: x1 :: x2 :: x3 :: x4 :: x5 :: x6 :: x7 :: x8 :: x9 :: x10 :: x11 :: x12 :: x13 :: x14 :: x15 :: x16 :: x17 :: x18 :: some (.long y) :: none :: r) st n h c sl) : zAW G M XF QF pc (x0 :: x1 :: x2 :: x3 :: x4 :: x5 :: x6 :: x7 :: x8 :: x9 :: x10 :: x11 :: x12 :: x13 :: x14 :: x15 :: x16 :: x17 :: x18 :: x19 :: x20 :: r) (.long y :: st) n h c sl := zg_lstore (i := 19) (fun y hy _ => hn y (Option.some.inj hy)) hi hd k
theorem zs_istore_20 {x0 x1 x2 x3 x4 x5 x6 x7 x8 x9 x10 x11 x12 x13 x14 x15 x16 x17 x18 x19 x20 : Option Value} {r : List (Option Value)} {y : Int32} (hn : zn x19) (hi : 20 < zmL M) (hd : decode M.2.1 pc = .ok (.istore 20, 2)) (k : zAW G M XF QF (pc + 2) (x0 :: x1 :: x2 :: x3 :: x4 :: x5 :: x6 :: x7 :: x8 :: x9 :: x10 :: x11 :: x12 :: x13 :: x14 :: x15 :: x16 :: x17 :: x18 :: x19 :: some (.int y) :: r) st n h c sl) : zAW G M XF QF pc (x0 :: x1 :: x2 :: x3 :: x4 :: x5 :: x6 :: x7 :: x8 :: x9 :: x10 :: x11 :: x12 :: x13 :: x14 :: x15 :: x16 :: x17 :: x18 :: x19 :: x20 :: r) (.int y :: st) n h c sl := zg_istore (i := 20) (fun y hy _ => hn y (Option.some.inj hy)) hi hd k
theorem zs_astore_20 {x0 x1 x2 x3 x4 x5 x6 x7 x8 x9 x10 x11 x12 x13 x14 x15 x16 x17 x18 x19 x20 : Option Value} {r : List (Option Value)} {y : Nat} (hn : zn x19) (hi : 20 < zmL M) (hd : decode M.2.1 pc = .ok (.astore 20, 2)) (k : zAW G M XF QF (pc + 2) (x0 :: x1 :: x2 :: x3 :: x4 :: x5 :: x6 :: x7 :: x8 :: x9 :: x10 :: x11 :: x12 :: x13 :: x14 :: x15 :: x16 :: x17 :: x18 :: x19 :: some (.ref y) :: r) st n h c sl) : zAW G M XF QF pc (x0 :: x1 :: x2 :: x3 :: x4 :: x5 :: x6 :: x7 :: x8 :: x9 :: x10 :: x11 :: x12 :: x13 :: x14 :: x15 :: x16 :: x17 :: x18 :: x19 :: x20 :: r) (.ref y :: st) n h c sl := zg_astore (i := 20) (fun y hy _ => hn y (Option.some.inj hy)) hi hd k
theorem zs_iinc_20 {x0 x1 x2 x3 x4 x5 x6 x7 x8 x9 x10 x11 x12 x13 x14 x15 x16 x17 x18 x19 : Option Value} {r : List (Option Value)} {z d : Int} (hn : zn x19) (hi : 20 < zmL M) (hd : decode M.2.1 pc = .ok (.iinc 20 d, 3)) (k : zAW G M XF QF (pc + 3) (x0 :: x1 :: x2 :: x3 :: x4 :: x5 :: x6 :: x7 :: x8 :: x9 :: x10 :: x11 :: x12 :: x13 :: x14 :: x15 :: x16 :: x17 :: x18 :: x19 :: some (vi (z + d)) :: r) st n h c sl) : zAW G M XF QF pc (x0 :: x1 :: x2 :: x3 :: x4 :: x5 :: x6 :: x7 :: x8 :: x9 :: x10 :: x11 :: x12 :: x13 :: x14 :: x15 :: x16 :: x17 :: x18 :: x19 :: some (vi z) :: r) st n h c sl := zg_iinc (i := 20) rfl (fun y hy _ => hn y (Option.some.inj hy)) hi hd k
theorem zs_lstore_20 {x0 x1 x2 x3 x4 x5 x6 x7 x8 x9 x10 x11 x12 x13 x14 x15 x16 x17 x18 x19 x20 x21 : Option Value} {r : List (Option Value)} {y : Int64} (hn : zn x19) (hi : 20 + 1 < zmL M) (hd : decode M.2.1 pc = .ok (.lstore 20, 2)) (k : zAW G M XF QF (pc + 2) (x0 :: x1 :: x2 :: x3 :: x4 :: x5 :: x6 :: x7 :: x8 :: x9 :: x10 :: x11 :: x12 :: x13 :: x14 :: x15 :: x16 :: x17 :: x18 :: x19 :: some (.long y) :: none :: r) st n h c sl) : zAW G M XF QF pc (x0 :: x1 :: x2 :: x3 :: x4 :: x5 :: x6 :: x7 :: x8 :: x9 :: x10 :: x11 :: x12 :: x13 :: x14 :: x15 :: x16 :: x17 :: x18 :: x19 :: x20 :: x21 :: r) (.long y :: st) n h c sl := zg_lstore (i := 20) (fun y hy _ => hn y (Option.some.inj hy)) hi hd k
theorem zs_istore_21 {x0 x1 x2 x3 x4 x5 x6 x7 x8 x9 x10 x11 x12 x13 x14 x15 x16 x17 x18 x19 x20 x21 : Option Value} {r : List (Option Value)} {y : Int32} (hn : zn x20) (hi : 21 < zmL M) (hd : decode M.2.1 pc = .ok (.istore 21, 2)) (k : zAW G M XF QF (pc + 2) (x0 :: x1 :: x2 :: x3 :: x4 :: x5 :: x6 :: x7 :: x8 :: x9 :: x10 :: x11 :: x12 :: x13 :: x14 :: x15 :: x16 :: x17 :: x18 :: x19 :: x20 :: some (.int y) :: r) st n h c sl) : zAW G M XF QF pc (x0 :: x1 :: x2 :: x3 :: x4 :: x5 :: x6 :: x7 :: x8 :: x9 :: x10 :: x11 :: x12 :: x13 :: x14 :: x15 :: x16 :: x17 :: x18 :: x19 :: x20 :: x21 :: r) (.int y :: st) n h c sl := zg_istore (i := 21) (fun y hy _ => hn y (Option.some.inj hy)) hi hd k
theorem zs_astore_21 {x0 x1 x2 x3 x4 x5 x6 x7 x8 x9 x10 x11 x12 x13 x14 x15 x16 x17 x18 x19 x20 x21 : Option Value} {r : List (Option Value)} {y : Nat} (hn : zn x20) (hi : 21 < zmL M) (hd : decode M.2.1 pc = .ok (.astore 21, 2)) (k : zAW G M XF QF (pc + 2) (x0 :: x1 :: x2 :: x3 :: x4 :: x5 :: x6 :: x7 :: x8 :: x9 :: x10 :: x11 :: x12 :: x13 :: x14 :: x15 :: x16 :: x17 :: x18 :: x19 :: x20 :: some (.ref y) :: r) st n h c sl) : zAW G M XF QF pc (x0 :: x1 :: x2 :: x3 :: x4 :: x5 :: x6 :: x7 :: x8 :: x9 :: x10 :: x11 :: x12 :: x13 :: x14 :: x15 :: x16 :: x17 :: x18 :: x19 :: x20 :: x21 :: r) (.ref y :: st) n h c sl := zg_astore (i := 21) (fun y hy _ => hn y (Option.some.inj hy)) hi hd k
theorem zs_iinc_21 {x0 x1 x2 x3 x4 x5 x6 x7 x8 x9 x10 x11 x12 x13 x14 x15 x16 x17 x18 x19 x20 : Option Value} {r : List (Option Value)} {z d : Int} (hn : zn x20) (hi : 21 < zmL M) (hd : decode M.2.1 pc = .ok (.iinc 21 d, 3)) (k : zAW G M XF QF (pc + 3) (x0 :: x1 :: x2 :: x3 :: x4 :: x5 :: x6 :: x7 :: x8 :: x9 :: x10 :: x11 :: x12 :: x13 :: x14 :: x15 :: x16 :: x17 :: x18 :: x19 :: x20 :: some (vi (z + d)) :: r) st n h c sl) : zAW G M XF QF pc (x0 :: x1 :: x2 :: x3 :: x4 :: x5 :: x6 :: x7 :: x8 :: x9 :: x10 :: x11 :: x12 :: x13 :: x14 :: x15 :: x16 :: x17 :: x18 :: x19 :: x20 :: some (vi z) :: r) st n h c sl := zg_iinc (i := 21) rfl (fun y hy _ => hn y (Option.some.inj hy)) hi hd k
theorem zs_lstore_21 {x0 x1 x2 x3 x4 x5 x6 x7 x8 x9 x10 x11 x12 x13 x14 x15 x16 x17 x18 x19 x20 x21 x22 : Option Value} {r : List (Option Value)} {y : Int64} (hn : zn x20) (hi : 21 + 1 < zmL M) (hd : decode M.2.1 pc = .ok (.lstore 21, 2)) (k : zAW G M XF QF (pc + 2) (x0 :: x1 :: x2 :: x3 :: x4 :: x5 :: x6 :: x7 :: x8 :: x9 :: x10 :: x11 :: x12 :: x13 :: x14 :: x15 :: x16 :: x17 :: x18 :: x19 :: x20 :: some (.long y) :: none :: r) st n h c sl) : zAW G M XF QF pc (x0 :: x1 :: x2 :: x3 :: x4 :: x5 :: x6 :: x7 :: x8 :: x9 :: x10 :: x11 :: x12 :: x13 :: x14 :: x15 :: x16 :: x17 :: x18 :: x19 :: x20 :: x21 :: x22 :: r) (.long y :: st) n h c sl := zg_lstore (i := 21) (fun y hy _ => hn y (Option.some.inj hy)) hi hd k
theorem zs_istore_22 {x0 x1 x2 x3 x4 x5 x6 x7 x8 x9 x10 x11 x12 x13 x14 x15 x16 x17 x18 x19 x20 x21 x22 : Option Value} {r : List (Option Value)} {y : Int32} (hn : zn x21) (hi : 22 < zmL M) (hd : decode M.2.1 pc = .ok (.istore 22, 2)) (k : zAW G M XF QF (pc + 2) (x0 :: x1 :: x2 :: x3 :: x4 :: x5 :: x6 :: x7 :: x8 :: x9 :: x10 :: x11 :: x12 :: x13 :: x14 :: x15 :: x16 :: x17 :: x18 :: x19 :: x20 :: x21 :: some (.int y) :: r) st n h c sl) : zAW G M XF QF pc (x0 :: x1 :: x2 :: x3 :: x4 :: x5 :: x6 :: x7 :: x8 :: x9 :: x10 :: x11 :: x12 :: x13 :: x14 :: x15 :: x16 :: x17 :: x18 :: x19 :: x20 :: x21 :: x22 :: r) (.int y :: st) n h c sl := zg_istore (i := 22) (fun y hy _ => hn y (Option.some.inj hy)) hi hd k
theorem zs_astore_22 {x0 x1 x2 x3 x4 x5 x6 x7 x8 x9 x10 x11 x12 x13 x14 x15 x16 x17 x18 x19 x20 x21 x22 : Option Value} {r : List (Option Value)} {y : Nat} (hn : zn x21) (hi : 22 < zmL M) (hd : decode M.2.1 pc = .ok (.astore 22, 2)) (k : zAW G M XF QF (pc + 2) (x0 :: x1 :: x2 :: x3 :: x4 :: x5 :: x6 :: x7 :: x8 :: x9 :: x10 :: x11 :: x12 :: x13 :: x14 :: x15 :: x16 :: x17 :: x18 :: x19 :: x20 :: x21 :: some (.ref y) :: r) st n h c sl) : zAW G M XF QF pc (x0 :: x1 :: x2 :: x3 :: x4 :: x5 :: x6 :: x7 :: x8 :: x9 :: x10 :: x11 :: x12 :: x13 :: x14 :: x15 :: x16 :: x17 :: x18 :: x19 :: x20 :: x21 :: x22 :: r) (.ref y :: st) n h c sl := zg_astore (i := 22) (fun y hy _ => hn y (Option.some.inj hy)) hi hd k
theorem zs_iinc_22 {x0 x1 x2 x3 x4 x5 x6 x7 x8 x9 x10 x11 x12 x13 x14 x15 x16 x17 x18 x19 x20 x21 : Option Value} {r : List (Option Value)} {z d : Int} (hn : zn x21) (hi : 22 < zmL M) (hd : decode M.2.1 pc = .ok (.iinc 22 d, 3)) (k : zAW G M XF QF (pc + 3) (x0 :: x1 :: x2 :: x3 :: x4 :: x5 :: x6 :: x7 :: x8 :: x9 :: x10 :: x11 :: x12 :: x13 :: x14 :: x15 :: x16 :: x17 :: x18 :: x19 :: x20 :: x21 :: some (vi (z + d)) :: r) st n h c sl) : zAW G M XF QF pc (x0 :: x1 :: x2 :: x3 :: x4 :: x5 :: x6 :: x7 :: x8 :: x9 :: x10 :: x11 :: x12 :: x13 :: x14 :: x15 :: x16 :: x17 :: x18 :: x19 :: x20 :: x21 :: some (vi z) :: r) st n h c sl := zg_iinc (i := 22) rfl (fun y hy _ => hn y (Option.some.inj hy)) hi hd k
theorem zs_lstore_22 {x0 x1 x2 x3 x4 x5 x6 x7 x8 x9 x10 x11 x12 x13 x14 x15 x16 x17 x18 x19 x20 x21 x22 x23 : Option Value} {r : List (Option Value)} {y : Int64} (hn : zn x21) (hi : 22 + 1 < zmL M) (hd : decode M.2.1 pc = .ok (.lstore 22, 2)) (k : zAW G M XF QF (pc + 2) (x0 :: x1 :: x2 :: x3 :: x4 :: x5 :: x6 :: x7 :: x8 :: x9 :: x10 :: x11 :: x12 :: x13 :: x14 :: x15 :: x16 :: x17 :: x18 :: x19 :: x20 :: x21 :: some (.long y) :: none :: r) st n h c sl) : zAW G M XF QF pc (x0 :: x1 :: x2 :: x3 :: x4 :: x5 :: x6 :: x7 :: x8 :: x9 :: x10 :: x11 :: x12 :: x13 :: x14 :: x15 :: x16 :: x17 :: x18 :: x19 :: x20 :: x21 :: x22 :: x23 :: r) (.long y :: st) n h c sl := zg_lstore (i := 22) (fun y hy _ => hn y (Option.some.inj hy)) hi hd k
theorem zs_istore_23 {x0 x1 x2 x3 x4 x5 x6 x7 x8 x9 x10 x11 x12 x13 x14 x15 x16 x17 x18 x19 x20 x21 x22 x23 : Option Value} {r : List (Option Value)} {y : Int32} (hn : zn x22) (hi : 23 < zmL M) (hd : decode M.2.1 pc = .ok (.istore 23, 2)) (k : zAW G M XF QF (pc + 2) (x0 :: x1 :: x2 :: x3 :: x4 :: x5 :: x6 :: x7 :: x8 :: x9 :: x10 :: x11 :: x12 :: x13 :: x14 :: x15 :: x16 :: x17 :: x18 :: x19 :: x20 :: x21 :: x22 :: some (.int y) :: r) st n h c sl) : zAW G M XF QF pc (x0 :: x1 :: x2 :: x3 :: x4 :: x5 :: x6 :: x7 :: x8 :: x9 :: x10 :: x11 :: x12 :: x13 :: x14 :: x15 :: x16 :: x17 :: x18 :: x19 :: x20 :: x21 :: x22 :: x23 :: r) (.int y :: st) n h c sl := zg_istore (i := 23) (fun y hy _ => hn y (Option.some.inj hy)) hi hd k
theorem zs_astore_23 {x0 x1 x2 x3 x4 x5 x6 x7 x8 x9 x10 x11 x12 x13 x14 x15 x16 x17 x18 x19 x20 x21 x22 x23 : Option Value} {r : List (Option Value)} {y : Nat} (hn : zn x22) (hi : 23 < zmL M) (hd : decode M.2.1 pc = .ok (.astore 23, 2)) (k : zAW G M XF QF (pc + 2) (x0 :: x1 :: x2 :: x3 :: x4 :: x5 :: x6 :: x7 :: x8 :: x9 :: x10 :: x11 :: x12 :: x13 :: x14 :: x15 :: x16 :: x17 :: x18 :: x19 :: x20 :: x21 :: x22 :: some (.ref y) :: r) st n h c sl) : zAW G M XF QF pc (x0 :: x1 :: x2 :: x3 :: x4 :: x5 :: x6 :: x7 :: x8 :: x9 :: x10 :: x11 :: x12 :: x13 :: x14 :: x15 :: x16 :: x17 :: x18 :: x19 :: x20 :: x21 :: x22 :: x23 :: r) (.ref y :: st) n h c sl := zg_astore (i := 23) (fun y hy _ => hn y (Option.some.inj hy)) hi hd k
theorem zs_iinc_23 {x0 x1 x2 x3 x4 x5 x6 x7 x8 x9 x10 x11 x12 x13 x14 x15 x16 x17 x18 x19 x20 x21 x22 : Option Value} {r : List (Option Value)} {z d : Int} (hn : zn x22) (hi : 23 < zmL M) (hd : decode M.2.1 pc = .ok (.iinc 23 d, 3)) (k : zAW G M XF QF (pc + 3) (x0 :: x1 :: x2 :: x3 :: x4 :: x5 :: x6 :: x7 :: x8 :: x9 :: x10 :: x11 :: x12 :: x13 :: x14 :: x15 :: x16 :: x17 :: x18 :: x19 :: x20 :: x21 :: x22 :: some (vi (z + d)) :: r) st n h c sl) : zAW G M XF QF pc (x0 :: x1 :: x2 :: x3 :: x4 :: x5 :: x6 :: x7 :: x8 :: x9 :: x10 :: x11 :: x12 :: x13 :: x14 :: x15 :: x16 :: x17 :: x18 :: x19 :: x20 :: x21 :: x22 :: some (vi z) :: r) st n h c sl := zg_iinc (i := 23) rfl (fun y hy _ => hn y (Option.some.inj hy)) hi hd k
theorem zs_lstore_23 {x0 x1 x2 x3 x4 x5 x6 x7 x8 x9 x10 x11 x12 x13 x14 x15 x16 x17 x18 x19 x20 x21 x22 x23 x24 : Option Value} {r : List (Option Value)} {y : Int64} (hn : zn x22) (hi : 23 + 1 < zmL M) (hd : decode M.2.1 pc = .ok (.lstore 23, 2)) (k : zAW G M XF QF (pc + 2) (x0 :: x1 :: x2 :: x3 :: x4 :: x5 :: x6 :: x7 :: x8 :: x9 :: x10 :: x11 :: x12 :: x13 :: x14 :: x15 :: x16 :: x17 :: x18 :: x19 :: x20 :: x21 :: x22 :: some (.long y) :: none :: r) st n h c sl) : zAW G M XF QF pc (x0 :: x1 :: x2 :: x3 :: x4 :: x5 :: x6 :: x7 :: x8 :: x9 :: x10 :: x11 :: x12 :: x13 :: x14 :: x15 :: x16 :: x17 :: x18 :: x19 :: x20 :: x21 :: x22 :: x23 :: x24 :: r) (.long y :: st) n h c sl := zg_lstore (i := 23) (fun y hy _ => hn y (Option.some.inj hy)) hi hd k
theorem zs_istore_24 {x0 x1 x2 x3 x4 x5 x6 x7 x8 x9 x10 x11 x12 x13 x14 x15 x16 x17 x18 x19 x20 x21 x22 x23 x24 : Option Value} {r : List (Option Value)} {y : Int32} (hn : zn x23) (hi : 24 < zmL M) (hd : decode M.2.1 pc = .ok (.istore 24, 2)) (k : zAW G M XF QF (pc + 2) (x0 :: x1 :: x2 :: x3 :: x4 :: x5 :: x6 :: x7 :: x8 :: x9 :: x10 :: x11 :: x12 :: x13 :: x14 :: x15 :: x16 :: x17 :: x18 :: x19 :: x20 :: x21 :: x22 :: x23 :: some (.int y) :: r) st n h c sl) : zAW G M XF QF pc (x0 :: x1 :: x2 :: x3 :: x4 :: x5 :: x6 :: x7 :: x8 :: x9 :: x10 :: x11 :: x12 :: x13 :: x14 :: x15 :: x16 :: x17 :: x18 :: x19 :: x20 :: x21 :: x22 :: x23 :: x24 :: r) (.int y :: st) n h c sl := zg_istore (i := 24) (fun y hy _ => hn y (Option.some.inj hy)) hi hd k
theorem zs_astore_24 {x0 x1 x2 x3 x4 x5 x6 x7 x8 x9 x10 x11 x12 x13 x14 x15 x16 x17 x18 x19 x20 x21 x22 x23 x24 : Option Value} {r : List (Option Value)} {y : Nat} (hn : zn x23) (hi : 24 < zmL M) (hd : decode M.2.1 pc = .ok (.astore 24, 2)) (k : zAW G M XF QF (pc + 2) (x0 :: x1 :: x2 :: x3 :: x4 :: x5 :: x6 :: x7 :: x8 :: x9 :: x10 :: x11 :: x12 :: x13 :: x14 :: x15 :: x16 :: x17 :: x18 :: x19 :: x20 :: x21 :: x22 :: x23 :: some (.ref y) :: r) st n h c sl) : zAW G M XF QF pc (x0 :: x1 :: x2 :: x3 :: x4 :: x5 :: x6 :: x7 :: x8 :: x9 :: x10 :: x11 :: x12 :: x13 :: x14 :: x15 :: x16 :: x17 :: x18 :: x19 :: x20 :: x21 :: x22 :: x23 :: x24 :: r) (.ref y :: st) n h c sl := zg_astore (i := 24) (fun y hy _ => hn y (Option.some.inj hy)) hi hd k
theorem zs_iinc_24 {x0 x1 x2 x3 x4 x5 x6 x7 x8 x9 x10 x11 x12 x13 x14 x15 x16 x17 x18 x19 x20 x21 x22 x23 : Option Value} {r : List (Option Value)} {z d : Int} (hn : zn x23) (hi : 24 < zmL M) (hd : decode M.2.1 pc = .ok (.iinc 24 d, 3)) (k : zAW G M XF QF (pc + 3) (x0 :: x1 :: x2 :: x3 :: x4 :: x5 :: x6 :: x7 :: x8 :: x9 :: x10 :: x11 :: x12 :: x13 :: x14 :: x15 :: x16 :: x17 :: x18 :: x19 :: x20 :: x21 :: x22 :: x23 :: some (vi (z + d)) :: r) st n h c sl) : zAW G M XF QF pc (x0 :: x1 :: x2 :: x3 :: x4 :: x5 :: x6 :: x7 :: x8 :: x9 :: x10 :: x11 :: x12 :: x13 :: x14 :: x15 :: x16 :: x17 :: x18 :: x19 :: x20 :: x21 :: x22 :: x23 :: some (vi z) :: r) st n h c sl := zg_iinc (i := 24) rfl (fun y hy _ => hn y (Option.some.inj hy)) hi hd k
theorem zs_lstore_24 {x0 x1 x2 x3 x4 x5 x6 x7 x8 x9 x10 x11 x12 x13 x14 x15 x16 x17 x18 x19 x20 x21 x22 x23 x24 x25 : Option Value} {r : List (Option Value)} {y : Int64} (hn : zn x23) (hi : 24 + 1 < zmL M) (hd : decode M.2.1 pc = .ok (.lstore 24, 2)) (k : zAW G M XF QF (pc + 2) (x0 :: x1 :: x2 :: x3 :: x4 :: x5 :: x6 :: x7 :: x8 :: x9 :: x10 :: x11 :: x12 :: x13 :: x14 :: x15 :: x16 :: x17 :: x18 :: x19 :: x20 :: x21 :: x22 :: x23 :: some (.long y) :: none :: r) st n h c sl) : zAW G M XF QF pc (x0 :: x1 :: x2 :: x3 :: x4 :: x5 :: x6 :: x7 :: x8 :: x9 :: x10 :: x11 :: x12 :: x13 :: x14 :: x15 :: x16 :: x17 :: x18 :: x19 :: x20 :: x21 :: x22 :: x23 :: x24 :: x25 :: r) (.long y :: st) n h c sl := zg_lstore (i := 24) (fun y hy _ => hn y (Option.some.inj hy)) hi hd k
theorem zs_istore_25 {x0 x1 x2 x3 x4 x5 x6 x7 x8 x9 x10 x11 x12 x13 x14 x15 x16 x17 x18 x19 x20 x21 x22 x23 x24 x25 : Option Value} {r : List (Option Value)} {y : Int32} (hn : zn x24) (hi : 25 < zmL M) (hd : decode M.2.1 pc = .ok (.istore 25, 2)) (k : zAW G M XF QF (pc + 2) (x0 :: x1 :: x2 :: x3 :: x4 :: x5 :: x6 :: x7 :: x8 :: x9 :: x10 :: x11 :: x12 :: x13 :: x14 :: x15 :: x16 :: x17 :: x18 :: x19 :: x20 :: x21 :: x22 :: x23 :: x24 :: some (.int y) :: r) st n h c sl) : zAW G M XF QF pc (x0 :: x1 :: x2 :: x3 :: x4 :: x5 :: x6 :: x7 :: x8 :: x9 :: x10 :: x11 :: x12 :: x13 :: x14 :: x15 :: x16 :: x17 :: x18 :: x19 :: x20 :: x21 :: x22 :: x23 :: x24 :: x25 :: r) (.int y :: st) n h c sl := zg_istore (i := 25) (fun y hy _ => hn y (Option.some.inj hy)) hi hd k
theorem zs_astore_25 {x0 x1 x2 x3 x4 x5 x6 x7 x8 x9 x10 x11 x12 x13 x14 x15 x16 x17 x18 x19 x20 x21 x22 x23 x24 x25 : Option Value} {r : List (Option Value)} {y : Nat} (hn : zn x24) (hi : 25 < zmL M) (hd : decode M.2.1 pc = .ok (.astore 25, 2)) (k : zAW G M XF QF (pc + 2) (x0 :: x1 :: x2 :: x3 :: x4 :: x5 :: x6 :: x7 :: x8 :: x9 :: x10 :: x11 :: x12 :: x13 :: x14 :: x15 :: x16 :: x17 :: x18 :: x19 :: x20 :: x21 :: x22 :: x23 :: x24 :: some (.ref y) :: r) st n h c sl) : zAW G M XF QF pc (x0 :: x1 :: x2 :: x3 :: x4 :: x5 :: x6 :: x7 :: x8 :: x9 :: x10 :: x11 :: x12 :: x13 :: x14 :: x15 :: x16 :: x17 :: x18 :: x19 :: x20 :: x21 :: x22 :: x23 :: x24 :: x25 :: r) (.ref y :: st) n h c sl := zg_astore (i := 25) (fun y hy _ => hn y (Option.some.inj hy)) hi hd k
theorem zs_iinc_25 {x0 x1 x2 x3 x4 x5 x6 x7 x8 x9 x10 x11 x12 x13 x14 x15 x16 x17 x18 x19 x20 x21 x22 x23 x24 : Option Value} {r : List (Option Value)} {z d : Int} (hn : zn x24) (hi : 25 < zmL M) (hd : decode M.2.1 pc = .ok (.iinc 25 d, 3)) (k : zAW G M XF QF (pc + 3) (x0 :: x1 :: x2 :: x3 :: x4 :: x5 :: x6 :: x7 :: x8 :: x9 :: x10 :: x11 :: x12 :: x13 :: x14 :: x15 :: x16 :: x17 :: x18 :: x19 :: x20 :: x21 :: x22 :: x23 :: x24 :: some (vi (z + d)) :: r) st n h c sl) : zAW G M XF QF pc (x0 :: x1 :: x2 :: x3 :: x4 :: x5 :: x6 :: x7 :: x8 :: x9 :: x10 :: x11 :: x12 :: x13 :: x14 :: x15 :: x16 :: x17 :: x18 :: x19 :: x20 :: x21 :: x22 :: x23 :: x24 :: some (vi z) :: r) st n h c sl := zg_iinc (i := 25) rfl (fun y hy _ => hn y (Option.some.inj hy)) hi hd k
theorem zs_lstore_25 {x0 x1 x2 x3 x4 x5 x6 x7 x8 x9 x10 x11 x12 x13 x14 x15 x16 x17 x18 x19 x20 x21 x22 x23 x24 x25 x26 : Option Value} {r : List (Option Value)} {y : Int64} (hn : zn x24) (hi : 25 + 1 < zmL M) (hd : decode M.2.1 pc = .ok (.lstore 25, 2)) (k : zAW G M XF QF (pc + 2) (x0 :: x1 :: x2 :: x3 :: x4 :: x5 :: x6 :: x7 :: x8 :: x9 :: x10 :: x11 :: x12 :: x13 :: x14 :: x15 :: x16 :: x17 :: x18 :: x19 :: x20 :: x21 :: x22 :: x23 :: x24 :: some (.long y) :: none :: r) st n h c sl) : zAW G M XF QF pc (x0 :: x1 :: x2 :: x3 :: x4 :: x5 :: x6 :: x7 :: x8 :: x9 :: x10 :: x11 :: x12 :: x13 :: x14 :: x15 :: x16 :: x17 :: x18 :: x19 :: x20 :: x21 :: x22 :: x23 :: x24 :: x25 :: x26 :: r) (.long y :: st) n h c sl := zg_lstore (i := 25) (fun y hy _ => hn y (Option.some.inj hy)) hi hd k
end ZR
