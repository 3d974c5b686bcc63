/-! the law from its entry -/
theorem kn_of {own : String} {idx ci N : Nat} {fs : List Value} (hn : zNW own idx ci N fs) {s : State} {args : Array Value} (hT : ∀ w ∈ TG, w.before args s = true) : ∃ (cC : ClassId) (iS : Nat → Nat), ∀ q : vw_C, vwCl[ci]? = some q → u_Kn s q.1 q.2.1 q.2.2 cC iS := by
  obtain ⟨C, T, tys, h1, h2, -, -, h5, -⟩ := hn
  obtain ⟨cC, iS, hK⟩ := u_known (n := N) hT h2 (hT _ h5)
  exact ⟨cC, iS, fun q hq => by cases Option.some.inj (h1.symm.trans hq); exact hK⟩
theorem ar_of {ty : FieldType} {s : State} {args : Array Value} (h : (Cond.arrayClass ty).before args s = true) : ∃ cA : ClassId, ArrOfT s cA ty ∧ s.vm.findClass ("[" ++ ty.toString) = some cA := by
  obtain ⟨cA, kA, comp, h1, h2, h3⟩ := Cond.arrayClass_spec h
  exact ⟨cA, fun n z => ⟨fun k h => (by cases h), kA, h2, comp, h3⟩, h1⟩
theorem st_of {own tx : String} {k : Nat} {s : State} {args : Array Value} (h1 : (Cond.stringRef own k tx).before args s = true) (h2 : (Cond.exactly (.string own k) "java/lang/String").before args s = true) : ∃ sa : Nat, vk_R own k tx sa s := by
  obtain ⟨a, c, cA, kA, q1, -⟩ := Cond.exactly_spec (args := args) (first := s) (o := none) (s := s) (idx := []) (t := .string own k) (cls := "java/lang/String") h2
  exact ⟨a, vk_R.of h1 q1⟩
theorem nests_in : ∀ w ∈ zNests, w ∈ lw_tbl := by decide +kernel
theorem ar_4 : ∀ {s : State} {args : Array Value}, (Cond.arrayOver (.array .long)).before args s = true → ∃ cA : ClassId, ArrOfT s cA (.array .long) ∧ s.vm.findClass ("[" ++ (FieldType.array .long).toString) = some cA := fun {s args} h => by
  obtain ⟨comp, c, k, h1, h2, h3, h4, h5⟩ := Jvm.Stand.arrayOver_specB h
  exact ⟨c, fun n z => ⟨fun k h => (by cases h), k, h3, comp, h4⟩, h5⟩
set_option maxHeartbeats 4000000 in
theorem whole_start {p : Program} {e : Env} {s : State} {m : MethodId} {below : List Frame} {meth : Method} {c : Code} (l : Launch) (hlt : l.stackTraces = false) {b L : Nat} {xs : Nat → Int32} (hL : L ≤ 3072) (C0 : lw_At p s m meth c b L xs) : W p l e room_1 s m #[Value.ref b] below meth c s.heap [] 0 0 (lw_Z below #[Value.ref b] s) (entryFrame m ([Value.ref b] : List Value).toArray 8) := by
  obtain ⟨hx, hb, hr, hml, hown, hts, hX, hbl, hlocks, hgv, hnm⟩ := id C0
  have hT : ∀ w ∈ TG, w.before #[Value.ref b] s = true := fun w h => hts w (List.mem_filter.mp h).1
  have hfl := flat_of_before _ hgv
  have hkn : ∀ k : Nat, ∃ (cC : ClassId) (iS : Nat → Nat), ∀ q : vw_C, vwCl[k]? = some q → u_Kn s q.1 q.2.1 q.2.2 cC iS := fun k => by
    match k with
    | 0 => exact kn_of nw_X7_39 hT
    | 1 => exact kn_of nw_X7_23 hT
    | 2 => exact kn_of nw_X7_46 hT
    | 3 => exact kn_of nw_X7_16 hT
    | 4 => exact kn_of nw_X6_19 hT
    | 5 => exact kn_of nw_X7_9 hT
    | 6 => exact kn_of nw_X7_30 hT
    | 7 => exact kn_of nw_L_8 hT
    | 8 => exact kn_of nw_L_30 hT
    | k + 9 =>
      obtain ⟨cC, iS, -⟩ := kn_of nw_X7_39 hT
      exact ⟨cC, iS, fun q hq => by simp [vwCl] at hq⟩
  obtain ⟨a0, A0⟩ := ar_of (hT _ ka_int)
  obtain ⟨a1, A1⟩ := ar_of (hT _ ka_long)
  obtain ⟨a2, A2⟩ := ar_of (hT _ ka_boolean)
  obtain ⟨a3, A3⟩ := ar_of (hT _ ka_byte)
  have hov : (Cond.arrayOver (.array .long)).before #[Value.ref b] s = true := hts _ (by decide +kernel)
  obtain ⟨a4, A4⟩ := ar_4 hov
  obtain ⟨cT, hcT⟩ : ∃ cT : Nat → ClassId, cT 0 = a0 ∧ cT 1 = a1 ∧ cT 2 = a2 ∧ cT 3 = a3 ∧ cT 4 = a4 := ⟨fun k => if k = 0 then a0 else if k = 1 then a1 else if k = 2 then a2 else if k = 3 then a3 else a4, rfl, rfl, rfl, rfl, rfl⟩
  obtain ⟨rfl, rfl, rfl, rfl, rfl⟩ := hcT
  obtain ⟨G, hG⟩ : ∃ G : zG, G = (l, s.heap.size, ((fun k => Classical.choose (hkn k), fun k => Classical.choose (Classical.choose_spec (hkn k))) : va_G), cT) := ⟨_, rfl⟩
  have hnA : ∀ a : Nat, a < s.heap.size → ¬ zAr G a := fun a ha hz => by rw [hG] at hz; exact absurd hz (Nat.not_le.mpr ha)
  have hK : va_K (zgD G) vwCl (ztys (zgT G)) s := by
    rw [hG]
    refine ⟨fun k q hq => Classical.choose_spec (Classical.choose_spec (hkn k)) q hq, fun k q hq => ?_⟩
    match k, hq with
    | 0, hq => cases hq; exact A0
    | 1, hq => cases hq; exact A1
    | 2, hq => cases hq; exact A2
    | 3, hq => cases hq; exact A3
    | 4, hq => cases hq; exact A4
    | k + 5, hq => simp [ztys] at hq
  have hini : (Cond.initialized Bundle.tN).before #[Value.ref b] s = true := hts _ (by decide +kernel)
  have hOK : zOK G s := by
    refine ⟨hov, hK, fun w hw => va_Nw.of (zNest_tab hw) (hts w (nests_in w hw)), vx_Zqof (args := #[Value.ref b]) (hts _ (by decide +kernel)) hini (hfl _ (by decide +kernel)) hnA, vx_Zqof (args := #[Value.ref b]) (hts _ (by decide +kernel)) hini (hfl _ (by decide +kernel)) hnA, fun q hq => ?_⟩
    simp only [zStrs, List.mem_cons, List.not_mem_nil, or_false] at hq
    rcases hq with rfl | rfl | rfl | rfl | rfl | rfl | rfl
    · exact st_of (args := #[Value.ref b]) (hts (.stringRef "RoadOffice" 119 "no such group, day or time") (by decide +kernel)) (hfl (.exactly (.string "RoadOffice" 119) "java/lang/String") (by decide +kernel))
    · exact st_of (args := #[Value.ref b]) (hts (.stringRef "RoadOffice" 124 "the group is not there") (by decide +kernel)) (hfl (.exactly (.string "RoadOffice" 124) "java/lang/String") (by decide +kernel))
    · exact st_of (args := #[Value.ref b]) (hts (.stringRef "RoadOffice" 138 "no such road, time or part") (by decide +kernel)) (hfl (.exactly (.string "RoadOffice" 138) "java/lang/String") (by decide +kernel))
    · exact st_of (args := #[Value.ref b]) (hts (.stringRef "RoadOffice" 144 "the year is not told") (by decide +kernel)) (hfl (.exactly (.string "RoadOffice" 144) "java/lang/String") (by decide +kernel))
    · exact st_of (args := #[Value.ref b]) (hts (.stringRef "RoadOffice" 153 "there is no trial") (by decide +kernel)) (hfl (.exactly (.string "RoadOffice" 153) "java/lang/String") (by decide +kernel))
    · exact st_of (args := #[Value.ref b]) (hts (.stringRef "RoadOffice" 161 "no such crossing or time") (by decide +kernel)) (hfl (.exactly (.string "RoadOffice" 161) "java/lang/String") (by decide +kernel))
    · exact st_of (args := #[Value.ref b]) (hts (.stringRef "RoadOffice" 166 "the road has no flow") (by decide +kernel)) (hfl (.exactly (.string "RoadOffice" 166) "java/lang/String") (by decide +kernel))
  have hgl : (zgl G).stackTraces = false := by rw [hG]; exact hlt
  have hgb : zgb G = s.heap.size := by rw [hG]
  have K := law_from0 (G := G) (b := b) (L := L) (xs := xs) hgl hL p e s m #[Value.ref b] below meth c ⟨hx, hb, hml, hown, hT, hOK, hlocks, hr, hnm, Nat.le_of_eq hgb, ⟨rfl, hX, hbl, hgb⟩⟩ s.heap [] _ (by rw [hgb]; rfl) (fun k e h => by cases h) va_S.rf (zL_entry (zgb G) (vs := [.retAddr b]) (nL := 8) (Nat.le_of_ble_eq_true rfl) rfl)
  rw [lg_entry_eq]
  have hgl2 : zgl G = l := by rw [hG]
  rw [hgl2] at K
  exact K
set_option maxHeartbeats 4000000 in
theorem lw_walk (l : Launch) (hlt : l.stackTraces = false) (b : Addr) (xs : List Int32) : MetFree l x (headSpec (Jvm.Cond.code x code maxLocals ret :: tables_1) room_1) (lw_P b xs) (fun _ _ _ _ _ => True) lw_Q := by
  refine MetFree.of_bodyS (code := code) (maxLocals := maxLocals) (ret := ret) (by decide) ?_ ?_
  · intro args s m h hn
    obtain ⟨meth, c, h1, h2, h3, h4, h5, h6, -, -⟩ := Cond.code_spec hn (atoms_spec (ws := Jvm.Cond.code x code maxLocals ret :: tables_1) h _ List.mem_cons_self)
    exact ⟨meth, c, h1, h2, h3, h4, h5, h6⟩
  · intro p e s m args below meth c s₁ B hml0 hP _
    obtain ⟨rfl, hx, hbd, hgv⟩ := hP
    obtain ⟨scr, harrAt, hlist, hof, hsmall⟩ := hx
    obtain ⟨hcb, hkn, -, -⟩ := State.arrayAt?_spec harrAt
    have hown : s.vm.findClass R_law = some m.cls := findClass_of_methodNamed B.named
    have hts0 : ∀ c ∈ (Jvm.Cond.code x code maxLocals ret :: tables_1), c.before #[Value.ref b] s = true := atoms_spec (ws := Jvm.Cond.code x code maxLocals ret :: tables_1) B.pre
    have hts : ∀ w ∈ lw_tbl, w.before #[Value.ref b] s = true := k2_hts_sels lw_privs (fun w hw => hts0 w (List.mem_cons_of_mem _ hw)) lw_privs_ok
    have hml : c.maxLocals = 8 := B.maxLocals_eq (hts0 _ List.mem_cons_self)
    have X₀ : Stand p l e room_1 s m #[Value.ref b] below meth c s₁ [] 0 0 := Stand.of_body B
    have hh0 : s₁.heap = s.heap := by rw [B.state]; rfl
    have hsz : scr.slots.size = xs.length := by rw [← Array.length_toList, hlist, List.length_map]
    have hval : ∀ j : Nat, j < xs.length → scr.slots[j]? = some (.int (xs.getD j 0)) := fun j hj => by
      rw [← Array.getElem?_toList, hlist]
      simp [hj]
    have hbl : b < s.heap.size := (Array.getElem?_eq_some_iff.mp hcb).1
    have hX : va_X b xs.length (fun j => xs.getD j 0) s s.heap := ⟨scr, hcb, hof, hkn, hsz, hval⟩
    have K : W p l e room_1 s m #[Value.ref b] below meth c s₁.heap [] 0 0 (lw_Z below #[Value.ref b] s) (entryFrame m ([Value.ref b] : List Value).toArray 8) := by
      rw [hh0]
      exact whole_start l hlt hbd ⟨B.exec, B.bytes, B.returns, hml, hown, hts, hX, hbl, B.notSynchronized, hgv, (name_of_methodNamed B.named B.method).1⟩
    obtain ⟨t, a1, o, b1, b2, b3⟩ := K s₁ rfl X₀
    exact ⟨t, o, a1, b1, b2, b3⟩
theorem lw_pre_spec {args : Array Value} {s : State} (h : (Jvm.Cond.and given_1 narrow_1).before args s = true) (hr : rest_1_c.before args s = true) : ∃ (b : Addr) (xs : List Int32), lw_P b xs args s := by
  have hs := flat_of_before _ h
  have hq := flat_of_before _ hr
  have hc : (Cond.count 1).before args s = true := hs _ (by decide +kernel)
  have harr : (Cond.arrayOf (.arg 0) .int).before args s = true := hs _ (by decide +kernel)
  have hle : (Cond.le (.length (.arg 0)) (.int 3072)).before args s = true := hs _ (by decide +kernel)
  have hlen : (Cond.isInt (.length (.arg 0))).before args s = true := hq _ (by decide +kernel)
  have hall : (Cond.all (.arg 0) (.isInt (.elem (.arg 0) (.index 0)))).before args s = true := hq _ (by decide +kernel)
  obtain ⟨b, xs, hb, hx⟩ := State.ints_of_pre rfl harr hlen hall
  have hsm : xs.length < 2 ^ 31 := hx.choose_spec.2.2.2
  have hev : (Term.length (.arg 0)).eval args s none [] s = some (.int xs.length.toInt32) := hx.length_eval hb
  have hv := Cond.le_ints hev (show (Term.int 3072).eval args s none [] s = some (.int 3072) from rfl)
  have hd : xs.length.toInt32 ≤ 3072 := by
    simpa [Cond.before, Cond.holds, hv] using hle
  have hN : xs.length ≤ 3072 := (Int32.ofNat_le_ofNat hsm (by decide)).mp (show Int32.ofNat xs.length ≤ Int32.ofNat 3072 from hd)
  exact ⟨b, xs, Cond.one_arg hc (show args[0]? = some (.ref b) from hb), hx, hN, h⟩
theorem lw_comes (l : Launch) (hlt : l.stackTraces = false) : Comes l x (Jvm.Cond.code x code maxLocals ret :: tables_1) room_1 (fun tb e args s => Calls_1 tb e args s ∧ rest_1 tb e args s ∧ Pre_1 tb e args s)
    (fun _ _ args s o t => lw_Q args s o t) := by
  intro p e ha hc hk s m args below hf hfit hheap happ hpre
  obtain ⟨b, xs, hP⟩ := lw_pre_spec hpre.2.2 hpre.2.1
  obtain ⟨k, o, h1, h2, h3, hQ⟩ := lw_walk l hlt b xs p e ha hc hk s m args below hf ((Spec.applies_iff_loose hf).mp happ).1 hP trivial
  exact ⟨k, o, h1, h2, h3, hQ⟩
theorem lw_frame {s t : State} {o : Outcome} {args : Array Value} (h : Framed s o t [] 601024 7293034) :
    Framed s o t (fieldLocs frame_1_writes args s ++ arrayLocs frame_1_arrays args s ++ staticLocs frame_1_statics s) 601024 7293034 := h
theorem lw_limb (L : Cond) (hL : ∀ (args : Array Value) (s t : State), L.after args s (.returned (some (.int 1))) t = true) :
    ArmFor flags0 classFile x code maxLocals ret World_1 tables_1 room_1 Calls_1 rest_1 Pre_1
      (fun tb e a s o t => postC L tb e a s o t ∧ Framed s o t (fieldLocs frame_1_writes a s ++ arrayLocs frame_1_arrays a s ++ staticLocs frame_1_statics s) 601024 7293034) := by
  intro l hfl _ _ p e ha hc hk s m args below hf hfit hheap happ hpre
  obtain ⟨k, o, h1, h2, h3, rfl, hF⟩ := lw_comes l (by unfold Launch.stackTraces; rw [hfl]; decide +kernel) p e ha hc hk s m args below hf hfit hheap happ hpre
  exact ⟨k, _, h1, h2, h3, hL args s _, lw_frame hF⟩
theorem i_vc : Claimed_1_1 ∧ Claimed_1_2 := ⟨lw_limb limb_1_1 (fun args s t => by simp [limb_1_1, Cond.after, Cond.holds, Cond.value]), lw_limb limb_1_2 (fun args s t => Cond.after_iff.mpr (by
  first | (rw [show limb_1_2 = Cond.eq .result (.int 1) from rfl, Cond.eq_ints (x := 1) (y := 1) rfl rfl]; simp; done) | (simp [limb_1_2, Cond.value, Term.eval]; done)))⟩
