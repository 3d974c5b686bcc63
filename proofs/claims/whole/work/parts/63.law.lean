/-! THE CLAIM OUT OF ONE WALK OF THE LAW'S BODY. Your part is whole_start (and what it stands on); all else here is the same for every law, but numbers. -/
def R_law : String := "RoadOfficeLaw"
def lw_P (b : Addr) (xs : List Int32) (args : Array Value) (s : State) : Prop := args = #[.ref b] ∧ s.IntsAt b xs ∧ xs.length ≤ 3072 ∧ (Jvm.Cond.and given_1 narrow_1).before args s = true
def lw_Q (_ : Array Value) (s : State) (o : Outcome) (t : State) : Prop := o = .returned (some (.int 1)) ∧ Framed s o t [] 601024 7293034
def lw_Z (below : List Frame) (a : Array Value) (s : State) : State → Prop := fun t => ∃ o, t.status = .running ∧ Ended t below o ∧ lw_Q a s o t
/-- the law's own end, with 1 on the stack, nothing written that was there before, its room as the claim has it -/
theorem lw_ret {p : Program} {l : Launch} {e : Env} {s : State} {m : MethodId} {below : List Frame} {meth : Method} {c : Code} {b : Nat} (hx : p.tables.exec = Jvm.exec) (hb : c.code = code) (hr : meth.sig.returnType = ret) (hlocks : meth.locks = false) {pc : Nat} {H : Heap} {ls : Array Slot} (hdg : decode code pc = .ok (.ireturn, 1)) : W p l e room_1 s m #[Value.ref b] below meth c H [] 601024 7293034 (lw_Z below #[Value.ref b] s) (F0 m pc ls [.int 1]) := by
  intro T hT X
  obtain ⟨fs, hret, hrun, hended, hW, hframe⟩ := X.leave (v := some (.int 1)) (hlocks := hlocks) (fun h => by rw [hr] at h; cases h)
  have hmeth' : T.vm.method? m = some meth := X.method'
  refine ⟨T.setFrames fs, ?_, .returned (some (.int 1)), hrun, hended, rfl, ⟨_, rfl⟩, hW, hframe⟩
  jvm_step X.here [X.here.top, hx, hb, hdg, hmeth', hr, ret, narrow_b1]
  (try refine ⟨rfl, ?_⟩); (try refine ⟨rfl, ?_⟩)
  first | (intro acts; rw [hret _ acts rfl rfl rfl]) | rw [hret _ _ rfl rfl rfl]
  exact Steps.refl _
/-- what holds at the law's entry: the machine, the code, the tables' words (any of lw_tbl by 'hts w (by decide +kernel)'), the script of L ints xs at the cell b, what the Statement gives of the start (any of its parts by flat_of_before) -/
def lw_At (p : Program) (s : State) (m : MethodId) (meth : Method) (c : Code) (b L : Nat) (xs : Nat → Int32) : Prop :=
  p.tables.exec = Jvm.exec ∧ c.code = code ∧ meth.sig.returnType = ret ∧ c.maxLocals = 8 ∧ s.vm.findClass R_law = some m.cls ∧ (∀ w ∈ lw_tbl, w.before #[Value.ref b] s = true) ∧ va_X b L xs s s.heap ∧ b < s.heap.size ∧ meth.locks = false ∧ (Jvm.Cond.and given_1 narrow_1).before #[Value.ref b] s = true ∧ meth.name = "law"
/-! rows of the law -/
section ZLR
variable {G : zG} {M : zM} {XF : Array Value → State → Code → Prop} {QF : List Frame → Array Value → State → State → Prop} {pc : Nat} {lo : List (Option Value)} {st : List Value} {n : Nat} {h : zH} {c sl : Nat}
theorem zr_aload_nS {f : Fin 4} {i : Nat} {x : Nat} (hi : (f : Nat) = i) (hx : lo[i]? = some (some (.retAddr x))) (hd : decode M.2.1 pc = .ok (.aload_n f, 1))
    (k : zAW G M XF QF (pc + 1) lo (.retAddr x :: st) n h c sl) : zAW G M XF QF pc lo (st) n h c sl := by
  intro p e s m args below meth cd F H locs ls hz hw hs hl
  exact lv_aload_n F.1 F.2.1 hd hi (hl.2.2 _ _ hx) (k p e s m args below meth cd F H locs ls hz hw hs hl)
theorem zr_same {x : Int32} {off : Int} {tgt : Nat} (ht : (pc : Int) + off = (tgt : Int)) (hd : decode M.2.1 pc = .ok (.if_icmp .eq off, 3)) (k : zAW G M XF QF tgt lo st n h c sl) : zAW G M XF QF pc lo (.int x :: .int x :: st) n h c sl := by
  intro p e s m args below meth cd F H locs ls hz hw hs hl
  exact lv_icmp_eq F.1 F.2.1 hd ht (fun _ => k p e s m args below meth cd F H locs ls hz hw hs hl) (fun q => absurd rfl q)
theorem zr_lsame {v : Int} {off : Int} {tgt : Nat} (ht : ((pc + 1 : Nat) : Int) + off = (tgt : Int)) (hd : decode M.2.1 pc = .ok (.lcmp, 1)) (hd2 : decode M.2.1 (pc + 1) = .ok (.ifCond .eq off, 3)) (k : zAW G M XF QF tgt lo st n h c sl) : zAW G M XF QF pc lo (vl v :: vl v :: st) n h c sl := by
  have e : vl v = vl (lZ v).toInt := congrArg Value.long (Int64.ofInt_toInt (lZ v)).symm
  have hr : lR (lZ v).toInt := ⟨Int64.le_toInt _, by have := Int64.toInt_lt (lZ v); omega⟩
  rw [e]
  exact zr_lcmp_eq hr hr ht hd hd2 (fun _ => k) (fun q => absurd rfl q)
theorem zhf {M' : zM} (h1 : (zmr M').cells = 0) (h2 : (zmr M').slots = 0) (hc : c ≤ 600000) (hs : sl ≤ 7200000) : c + (zmr M').cells ≤ (zmr mL_law).cells ∧ sl + (zmr M').slots ≤ (zmr mL_law).slots := by
  rw [h1, h2]
  show c + 0 ≤ 601024 ∧ sl + 0 ≤ 7293034
  omega
theorem and31 (z : Int) (hz : iR z) : iZ z &&& iZ 31 = iZ (z % 32) := by
  rw [pk_and _ 5 (show (iZ 31).toBitVec.toNat = 2 ^ 5 - 1 by decide), nI_iZ]
  congr 1
  have e2 := bv_toNat (iZ z)
  rw [iZ_toInt hz] at e2
  generalize (iZ z).toBitVec.toNat = y at e2 ⊢
  omega
theorem zr_lawend {b L : Nat} {xs : Nat → Int32} (hd : decode code pc = .ok (.ireturn, 1)) (hc : c ≤ 601024) (hs : sl ≤ 7293034) : zAW G mL_law (zSC b L xs G) lw_Z pc lo [vi 1] n h c sl := by
  intro p e s m args below meth cd F H locs ls hz hw hsS hl
  obtain ⟨rfl, hX, hb, hG⟩ := F.2.2.2.2.2.2.2.2.2.2
  refine va_forget (fun q hq => by have := hsS.2.2 q hq; unfold zAr at this; omega) ?_
  refine W.widen (k := 601024) (n := 7293034) hc hs ?_
  exact lw_ret F.1 F.2.1 F.2.2.2.2.2.2.2.1 F.2.2.2.2.2.2.1 hd
end ZLR
theorem lk_worth_c : Cond.codeWith mL_worth.1 mL_worth.2.1 (zmL mL_worth) (zmt mL_worth) [(0, 12, 15, 13)] ∈ TG := TG_of (mt3 (i := 23) rfl) rfl
theorem lk_worth_l : Cond.methodLink mL_law.1.cls 83 mL_worth.1 ∈ TG := TG_of (mt3 (i := 21) rfl) rfl
theorem lk_worth_s : Cond.static mL_worth.1 ∈ TG := TG_of (mt3 (i := 22) rfl) rfl
theorem lk_worth_h : zHd mL_worth.1 5 := ⟨by decide, by decide, by decide +kernel⟩
theorem lk_year_c : Cond.codeWith mL_year.1 mL_year.2.1 (zmL mL_year) (zmt mL_year) [(0, 11, 14, 13)] ∈ TG := TG_of (mt3 (i := 102) rfl) rfl
theorem lk_year_l : Cond.methodLink mL_law.1.cls 100 mL_year.1 ∈ TG := TG_of (mt3 (i := 100) rfl) rfl
theorem lk_year_s : Cond.static mL_year.1 ∈ TG := TG_of (mt3 (i := 101) rfl) rfl
theorem lk_year_h : zHd mL_year.1 5 := ⟨by decide, by decide, by decide +kernel⟩
theorem lk_trial_c : Cond.codeWith mL_trial.1 mL_trial.2.1 (zmL mL_trial) (zmt mL_trial) [(0, 11, 14, 13)] ∈ TG := TG_of (mt3 (i := 119) rfl) rfl
theorem lk_trial_l : Cond.methodLink mL_law.1.cls 103 mL_trial.1 ∈ TG := TG_of (mt3 (i := 117) rfl) rfl
theorem lk_trial_s : Cond.static mL_trial.1 ∈ TG := TG_of (mt3 (i := 118) rfl) rfl
theorem lk_trial_h : zHd mL_trial.1 5 := ⟨by decide, by decide, by decide +kernel⟩
theorem lk_missing_c : Cond.codeWith mL_missing.1 mL_missing.2.1 (zmL mL_missing) (zmt mL_missing) [(0, 10, 13, 13)] ∈ TG := TG_of (mt3 (i := 131) rfl) rfl
theorem lk_missing_l : Cond.methodLink mL_law.1.cls 110 mL_missing.1 ∈ TG := TG_of (mt3 (i := 129) rfl) rfl
theorem lk_missing_s : Cond.static mL_missing.1 ∈ TG := TG_of (mt3 (i := 130) rfl) rfl
theorem lk_missing_h : zHd mL_missing.1 4 := ⟨by decide, by decide, by decide +kernel⟩
theorem lk_agreed_c : Cond.codeWith mL_agreed.1 mL_agreed.2.1 (zmL mL_agreed) (zmt mL_agreed) [(0, 11, 14, 13)] ∈ TG := TG_of (mt3 (i := 151) rfl) rfl
theorem lk_agreed_l : Cond.methodLink mL_law.1.cls 114 mL_agreed.1 ∈ TG := TG_of (mt3 (i := 149) rfl) rfl
theorem lk_agreed_s : Cond.static mL_agreed.1 ∈ TG := TG_of (mt3 (i := 150) rfl) rfl
theorem lk_agreed_h : zHd mL_agreed.1 5 := ⟨by decide, by decide, by decide +kernel⟩
theorem lk_i : Cond.initialized RL ∈ TG := TG_of (mt1 (i := 0) rfl) rfl
theorem l_thrown {G : zG} {n : Nat} {h : zH} {Post : Option Value → Nat → zH → Prop} {th len en now al pm pd sq up lw : Int} (m38 : h 38 = some (oMod th len en now al pm pd sq up lw)) (k : Post (some (vi th)) n h) : zMP G mX8_thrown [.ref 38] n h Post := by
  refine zMP_of (by decide) [some _] (Nat.le_of_ble_eq_true rfl) rfl ?_
  refine zr_aload_n (pc := 0)  (i := 0) rfl rfl dX8_thrown_0 ?_
  refine zr_get (pc := 1)  fl_X8_91 (by first | assumption | rfl | (repeat (first | assumption | exact zup_s | refine zup_g (by decide) ?_))) rfl dX8_thrown_1 ?_
  refine zr_ireturn (pc := 4)  rfl (by decide) (by decide) dX8_thrown_4 ?_
  exact k
section LAW
variable {G : zG} {n : Nat} {h : zH} {b L c sl : Nat} {xs : Nat → Int32} {i : Int} {x5 x6 x7 : Option Value}
theorem lc_feed (hS : lwS h) (hi : 0 ≤ i ∧ i + 6 ≤ L) (hL : L ≤ 3072) (hc : c ≤ 600000) (hsl : sl ≤ 7200000) (next : ∀ h', lwS h' → zAW G mL_law (zSC b L xs G) lw_Z 1176 [some (.retAddr b), some (.ref 0), some (.ref 38), some (.ref 65), some (vi i), x5, x6, x7] [] n h' c sl) : zAW G mL_law (zSC b L xs G) lw_Z 136 [some (.retAddr b), some (.ref 0), some (.ref 38), some (.ref 65), some (vi i), x5, x6, x7] [] n h c sl := by
  obtain ⟨fs0, o0⟩ := hS.o0
  refine zr_aload_n (pc := 136)  (i := 1) rfl rfl dL_law_136 ?_
  refine zr_aload_nS (pc := 137)  (i := 0) rfl rfl dL_law_137 ?_
  refine zr_iload (pc := 138)  rfl dL_law_138 ?_
  refine zr_iconst (pc := 140)  dL_law_140 ?_
  refine zr_iadd (pc := 141)  dL_law_141 ?_
  refine zr_sld (pc := 142)  ⟨by omega, by omega⟩ (by omega) dL_law_142 ?_
  refine zr_aload_nS (pc := 143)  (i := 0) rfl rfl dL_law_143 ?_
  refine zr_iload (pc := 144)  rfl dL_law_144 ?_
  refine zr_iconst (pc := 146)  dL_law_146 ?_
  refine zr_iadd (pc := 147)  dL_law_147 ?_
  refine zr_sld (pc := 148)  ⟨by omega, by omega⟩ (by omega) dL_law_148 ?_
  refine zr_aload_nS (pc := 149)  (i := 0) rfl rfl dL_law_149 ?_
  refine zr_iload (pc := 150)  rfl dL_law_150 ?_
  refine zr_iconst (pc := 152)  dL_law_152 ?_
  refine zr_iadd (pc := 153)  dL_law_153 ?_
  refine zr_sld (pc := 154)  ⟨by omega, by omega⟩ (by omega) dL_law_154 ?_
  refine zr_aload_nS (pc := 155)  (i := 0) rfl rfl dL_law_155 ?_
  refine zr_iload (pc := 156)  rfl dL_law_156 ?_
  refine zr_iconst (pc := 158)  dL_law_158 ?_
  refine zr_iadd (pc := 159)  dL_law_159 ?_
  refine zr_sld (pc := 160)  ⟨by omega, by omega⟩ (by omega) dL_law_160 ?_
  refine zr_aload_nS (pc := 161)  (i := 0) rfl rfl dL_law_161 ?_
  refine zr_iload (pc := 162)  rfl dL_law_162 ?_
  refine zr_iconst (pc := 164)  dL_law_164 ?_
  refine zr_iadd (pc := 165)  dL_law_165 ?_
  refine zr_sld (pc := 166)  ⟨by omega, by omega⟩ (by omega) dL_law_166 ?_
  refine zv_call5 (pc := 167)  cv_L_law_33 (by first | assumption | rfl | (repeat (first | assumption | exact zup_s | refine zup_g (by decide) ?_))) ⟨_, rfl, rfl⟩ (Nat.le_of_ble_eq_true rfl) (zhf rfl rfl hc hsl) dL_law_167 ?_
  refine p_feed hS (xZ_R _) (xZ_R _) (xZ_R _) (xZ_R _) (xZ_R _) (fun h1 v k8 => ?_)
  obtain ⟨⟨fs1, o38⟩, k8⟩ := k8
  dsimp only [Option.toList, List.cons_append, List.nil_append]
  refine zr_aload_n (pc := 170)  (i := 2) rfl rfl dL_law_170 ?_
  refine zr_aload_nS (pc := 171)  (i := 0) rfl rfl dL_law_171 ?_
  refine zr_iload (pc := 172)  rfl dL_law_172 ?_
  refine zr_iconst (pc := 174)  dL_law_174 ?_
  refine zr_iadd (pc := 175)  dL_law_175 ?_
  refine zr_sld (pc := 176)  ⟨by omega, by omega⟩ (by omega) dL_law_176 ?_
  refine zr_aload_nS (pc := 177)  (i := 0) rfl rfl dL_law_177 ?_
  refine zr_iload (pc := 178)  rfl dL_law_178 ?_
  refine zr_iconst (pc := 180)  dL_law_180 ?_
  refine zr_iadd (pc := 181)  dL_law_181 ?_
  refine zr_sld (pc := 182)  ⟨by omega, by omega⟩ (by omega) dL_law_182 ?_
  refine zr_aload_nS (pc := 183)  (i := 0) rfl rfl dL_law_183 ?_
  refine zr_iload (pc := 184)  rfl dL_law_184 ?_
  refine zr_iconst (pc := 186)  dL_law_186 ?_
  refine zr_iadd (pc := 187)  dL_law_187 ?_
  refine zr_sld (pc := 188)  ⟨by omega, by omega⟩ (by omega) dL_law_188 ?_
  refine zr_aload_nS (pc := 189)  (i := 0) rfl rfl dL_law_189 ?_
  refine zr_iload (pc := 190)  rfl dL_law_190 ?_
  refine zr_iconst (pc := 192)  dL_law_192 ?_
  refine zr_iadd (pc := 193)  dL_law_193 ?_
  refine zr_sld (pc := 194)  ⟨by omega, by omega⟩ (by omega) dL_law_194 ?_
  refine zr_aload_nS (pc := 195)  (i := 0) rfl rfl dL_law_195 ?_
  refine zr_iload (pc := 196)  rfl dL_law_196 ?_
  refine zr_iconst (pc := 198)  dL_law_198 ?_
  refine zr_iadd (pc := 199)  dL_law_199 ?_
  refine zr_sld (pc := 200)  ⟨by omega, by omega⟩ (by omega) dL_law_200 ?_
  refine zv_call5 (pc := 201)  cv_L_law_37 (by first | assumption | rfl | (repeat (first | assumption | exact zup_s | refine zup_g (by decide) ?_))) ⟨_, rfl, rfl⟩ (Nat.le_of_ble_eq_true rfl) (zhf rfl rfl hc hsl) dL_law_201 ?_
  refine k8 _ (fun h2 hS2 => ?_)
  dsimp only [Option.toList, List.cons_append, List.nil_append]
  refine zr_same (pc := 204) (tgt := 1176) (by decide) dL_law_204 ?_
  exact next h2 hS2
theorem lc_end (hS : lwS h) (hi : 0 ≤ i ∧ i + 6 ≤ L) (hL : L ≤ 3072) (hc : c ≤ 600000) (hsl : sl ≤ 7200000) (next : ∀ h', lwS h' → zAW G mL_law (zSC b L xs G) lw_Z 1176 [some (.retAddr b), some (.ref 0), some (.ref 38), some (.ref 65), some (vi i), x5, x6, x7] [] n h' c sl) : zAW G mL_law (zSC b L xs G) lw_Z 209 [some (.retAddr b), some (.ref 0), some (.ref 38), some (.ref 65), some (vi i), x5, x6, x7] [] n h c sl := by
  obtain ⟨fs0, o0⟩ := hS.o0
  refine zr_aload_n (pc := 209)  (i := 1) rfl rfl dL_law_209 ?_
  refine zr_aload_nS (pc := 210)  (i := 0) rfl rfl dL_law_210 ?_
  refine zr_iload (pc := 211)  rfl dL_law_211 ?_
  refine zr_iconst (pc := 213)  dL_law_213 ?_
  refine zr_iadd (pc := 214)  dL_law_214 ?_
  refine zr_sld (pc := 215)  ⟨by omega, by omega⟩ (by omega) dL_law_215 ?_
  refine zv_call1 (pc := 216)  cv_L_law_38 (by first | assumption | rfl | (repeat (first | assumption | exact zup_s | refine zup_g (by decide) ?_))) ⟨_, rfl, rfl⟩ (Nat.le_of_ble_eq_true rfl) (zhf rfl rfl hc hsl) dL_law_216 ?_
  refine p_end hS (xZ_R _) (fun h1 v k8 => ?_)
  obtain ⟨⟨fs1, o38⟩, k8⟩ := k8
  dsimp only [Option.toList, List.cons_append, List.nil_append]
  refine zr_aload_n (pc := 219)  (i := 2) rfl rfl dL_law_219 ?_
  refine zr_aload_nS (pc := 220)  (i := 0) rfl rfl dL_law_220 ?_
  refine zr_iload (pc := 221)  rfl dL_law_221 ?_
  refine zr_iconst (pc := 223)  dL_law_223 ?_
  refine zr_iadd (pc := 224)  dL_law_224 ?_
  refine zr_sld (pc := 225)  ⟨by omega, by omega⟩ (by omega) dL_law_225 ?_
  refine zv_call1 (pc := 226)  cv_L_law_42 (by first | assumption | rfl | (repeat (first | assumption | exact zup_s | refine zup_g (by decide) ?_))) ⟨_, rfl, rfl⟩ (Nat.le_of_ble_eq_true rfl) (zhf rfl rfl hc hsl) dL_law_226 ?_
  refine k8 _ (fun h2 hS2 => ?_)
  dsimp only [Option.toList, List.cons_append, List.nil_append]
  refine zr_same (pc := 229) (tgt := 1176) (by decide) dL_law_229 ?_
  exact next h2 hS2
theorem lc_road (hS : lwS h) (hi : 0 ≤ i ∧ i + 6 ≤ L) (hL : L ≤ 3072) (hc : c ≤ 600000) (hsl : sl ≤ 7200000) (next : ∀ h', lwS h' → zAW G mL_law (zSC b L xs G) lw_Z 1176 [some (.retAddr b), some (.ref 0), some (.ref 38), some (.ref 65), some (vi i), x5, x6, x7] [] n h' c sl) : zAW G mL_law (zSC b L xs G) lw_Z 234 [some (.retAddr b), some (.ref 0), some (.ref 38), some (.ref 65), some (vi i), x5, x6, x7] [] n h c sl := by
  obtain ⟨fs0, o0⟩ := hS.o0
  refine zr_aload_n (pc := 234)  (i := 1) rfl rfl dL_law_234 ?_
  refine zr_aload_nS (pc := 235)  (i := 0) rfl rfl dL_law_235 ?_
  refine zr_iload (pc := 236)  rfl dL_law_236 ?_
  refine zr_iconst (pc := 238)  dL_law_238 ?_
  refine zr_iadd (pc := 239)  dL_law_239 ?_
  refine zr_sld (pc := 240)  ⟨by omega, by omega⟩ (by omega) dL_law_240 ?_
  refine zr_aload_nS (pc := 241)  (i := 0) rfl rfl dL_law_241 ?_
  refine zr_iload (pc := 242)  rfl dL_law_242 ?_
  refine zr_iconst (pc := 244)  dL_law_244 ?_
  refine zr_iadd (pc := 245)  dL_law_245 ?_
  refine zr_sld (pc := 246)  ⟨by omega, by omega⟩ (by omega) dL_law_246 ?_
  refine zr_aload_nS (pc := 247)  (i := 0) rfl rfl dL_law_247 ?_
  refine zr_iload (pc := 248)  rfl dL_law_248 ?_
  refine zr_iconst (pc := 250)  dL_law_250 ?_
  refine zr_iadd (pc := 251)  dL_law_251 ?_
  refine zr_sld (pc := 252)  ⟨by omega, by omega⟩ (by omega) dL_law_252 ?_
  refine zr_aload_nS (pc := 253)  (i := 0) rfl rfl dL_law_253 ?_
  refine zr_iload (pc := 254)  rfl dL_law_254 ?_
  refine zr_iconst (pc := 256)  dL_law_256 ?_
  refine zr_iadd (pc := 257)  dL_law_257 ?_
  refine zr_sld (pc := 258)  ⟨by omega, by omega⟩ (by omega) dL_law_258 ?_
  refine zv_call4 (pc := 259)  cv_L_law_43 (by first | assumption | rfl | (repeat (first | assumption | exact zup_s | refine zup_g (by decide) ?_))) ⟨_, rfl, rfl⟩ (Nat.le_of_ble_eq_true rfl) (zhf rfl rfl hc hsl) dL_law_259 ?_
  refine p_road hS (xZ_R _) (xZ_R _) (xZ_R _) (xZ_R _) (fun h1 v k8 => ?_)
  obtain ⟨⟨fs1, o38⟩, k8⟩ := k8
  dsimp only [Option.toList, List.cons_append, List.nil_append]
  refine zr_aload_n (pc := 262)  (i := 2) rfl rfl dL_law_262 ?_
  refine zr_aload_nS (pc := 263)  (i := 0) rfl rfl dL_law_263 ?_
  refine zr_iload (pc := 264)  rfl dL_law_264 ?_
  refine zr_iconst (pc := 266)  dL_law_266 ?_
  refine zr_iadd (pc := 267)  dL_law_267 ?_
  refine zr_sld (pc := 268)  ⟨by omega, by omega⟩ (by omega) dL_law_268 ?_
  refine zr_aload_nS (pc := 269)  (i := 0) rfl rfl dL_law_269 ?_
  refine zr_iload (pc := 270)  rfl dL_law_270 ?_
  refine zr_iconst (pc := 272)  dL_law_272 ?_
  refine zr_iadd (pc := 273)  dL_law_273 ?_
  refine zr_sld (pc := 274)  ⟨by omega, by omega⟩ (by omega) dL_law_274 ?_
  refine zr_aload_nS (pc := 275)  (i := 0) rfl rfl dL_law_275 ?_
  refine zr_iload (pc := 276)  rfl dL_law_276 ?_
  refine zr_iconst (pc := 278)  dL_law_278 ?_
  refine zr_iadd (pc := 279)  dL_law_279 ?_
  refine zr_sld (pc := 280)  ⟨by omega, by omega⟩ (by omega) dL_law_280 ?_
  refine zr_aload_nS (pc := 281)  (i := 0) rfl rfl dL_law_281 ?_
  refine zr_iload (pc := 282)  rfl dL_law_282 ?_
  refine zr_iconst (pc := 284)  dL_law_284 ?_
  refine zr_iadd (pc := 285)  dL_law_285 ?_
  refine zr_sld (pc := 286)  ⟨by omega, by omega⟩ (by omega) dL_law_286 ?_
  refine zv_call4 (pc := 287)  cv_L_law_47 (by first | assumption | rfl | (repeat (first | assumption | exact zup_s | refine zup_g (by decide) ?_))) ⟨_, rfl, rfl⟩ (Nat.le_of_ble_eq_true rfl) (zhf rfl rfl hc hsl) dL_law_287 ?_
  refine k8 _ (fun h2 hS2 => ?_)
  dsimp only [Option.toList, List.cons_append, List.nil_append]
  refine zr_same (pc := 290) (tgt := 1176) (by decide) dL_law_290 ?_
  exact next h2 hS2
theorem lc_count (hS : lwS h) (hi : 0 ≤ i ∧ i + 6 ≤ L) (hL : L ≤ 3072) (hc : c ≤ 600000) (hsl : sl ≤ 7200000) (next : ∀ h', lwS h' → zAW G mL_law (zSC b L xs G) lw_Z 1176 [some (.retAddr b), some (.ref 0), some (.ref 38), some (.ref 65), some (vi i), x5, x6, x7] [] n h' c sl) : zAW G mL_law (zSC b L xs G) lw_Z 295 [some (.retAddr b), some (.ref 0), some (.ref 38), some (.ref 65), some (vi i), x5, x6, x7] [] n h c sl := by
  obtain ⟨fs0, o0⟩ := hS.o0
  refine zr_aload_n (pc := 295)  (i := 1) rfl rfl dL_law_295 ?_
  refine zr_aload_nS (pc := 296)  (i := 0) rfl rfl dL_law_296 ?_
  refine zr_iload (pc := 297)  rfl dL_law_297 ?_
  refine zr_iconst (pc := 299)  dL_law_299 ?_
  refine zr_iadd (pc := 300)  dL_law_300 ?_
  refine zr_sld (pc := 301)  ⟨by omega, by omega⟩ (by omega) dL_law_301 ?_
  refine zr_aload_nS (pc := 302)  (i := 0) rfl rfl dL_law_302 ?_
  refine zr_iload (pc := 303)  rfl dL_law_303 ?_
  refine zr_iconst (pc := 305)  dL_law_305 ?_
  refine zr_iadd (pc := 306)  dL_law_306 ?_
  refine zr_sld (pc := 307)  ⟨by omega, by omega⟩ (by omega) dL_law_307 ?_
  refine zv_call2 (pc := 308)  cv_L_law_48 (by first | assumption | rfl | (repeat (first | assumption | exact zup_s | refine zup_g (by decide) ?_))) ⟨_, rfl, rfl⟩ (Nat.le_of_ble_eq_true rfl) (zhf rfl rfl hc hsl) dL_law_308 ?_
  refine p_count hS (xZ_R _) (xZ_R _) (fun h1 v k8 => ?_)
  obtain ⟨⟨fs1, o38⟩, k8⟩ := k8
  dsimp only [Option.toList, List.cons_append, List.nil_append]
  refine zr_aload_n (pc := 311)  (i := 2) rfl rfl dL_law_311 ?_
  refine zr_aload_nS (pc := 312)  (i := 0) rfl rfl dL_law_312 ?_
  refine zr_iload (pc := 313)  rfl dL_law_313 ?_
  refine zr_iconst (pc := 315)  dL_law_315 ?_
  refine zr_iadd (pc := 316)  dL_law_316 ?_
  refine zr_sld (pc := 317)  ⟨by omega, by omega⟩ (by omega) dL_law_317 ?_
  refine zr_aload_nS (pc := 318)  (i := 0) rfl rfl dL_law_318 ?_
  refine zr_iload (pc := 319)  rfl dL_law_319 ?_
  refine zr_iconst (pc := 321)  dL_law_321 ?_
  refine zr_iadd (pc := 322)  dL_law_322 ?_
  refine zr_sld (pc := 323)  ⟨by omega, by omega⟩ (by omega) dL_law_323 ?_
  refine zv_call2 (pc := 324)  cv_L_law_51 (by first | assumption | rfl | (repeat (first | assumption | exact zup_s | refine zup_g (by decide) ?_))) ⟨_, rfl, rfl⟩ (Nat.le_of_ble_eq_true rfl) (zhf rfl rfl hc hsl) dL_law_324 ?_
  refine k8 _ (fun h2 hS2 => ?_)
  dsimp only [Option.toList, List.cons_append, List.nil_append]
  refine zr_same (pc := 327) (tgt := 1176) (by decide) dL_law_327 ?_
  exact next h2 hS2
theorem lc_counts (hS : lwS h) (hi : 0 ≤ i ∧ i + 6 ≤ L) (hL : L ≤ 3072) (hc : c ≤ 600000) (hsl : sl ≤ 7200000) (next : ∀ h', lwS h' → zAW G mL_law (zSC b L xs G) lw_Z 1176 [some (.retAddr b), some (.ref 0), some (.ref 38), some (.ref 65), some (vi i), x5, x6, x7] [] n h' c sl) : zAW G mL_law (zSC b L xs G) lw_Z 332 [some (.retAddr b), some (.ref 0), some (.ref 38), some (.ref 65), some (vi i), x5, x6, x7] [] n h c sl := by
  obtain ⟨fs0, o0⟩ := hS.o0
  refine zr_aload_n (pc := 332)  (i := 1) rfl rfl dL_law_332 ?_
  refine zr_aload_nS (pc := 333)  (i := 0) rfl rfl dL_law_333 ?_
  refine zr_iload (pc := 334)  rfl dL_law_334 ?_
  refine zr_iconst (pc := 336)  dL_law_336 ?_
  refine zr_iadd (pc := 337)  dL_law_337 ?_
  refine zr_sld (pc := 338)  ⟨by omega, by omega⟩ (by omega) dL_law_338 ?_
  refine zr_aload_nS (pc := 339)  (i := 0) rfl rfl dL_law_339 ?_
  refine zr_iload (pc := 340)  rfl dL_law_340 ?_
  refine zr_iconst (pc := 342)  dL_law_342 ?_
  refine zr_iadd (pc := 343)  dL_law_343 ?_
  refine zr_sld (pc := 344)  ⟨by omega, by omega⟩ (by omega) dL_law_344 ?_
  refine zv_call2 (pc := 345)  cv_L_law_52 (by first | assumption | rfl | (repeat (first | assumption | exact zup_s | refine zup_g (by decide) ?_))) ⟨_, rfl, rfl⟩ (Nat.le_of_ble_eq_true rfl) (zhf rfl rfl hc hsl) dL_law_345 ?_
  refine p_counts hS (xZ_R _) (xZ_R _) (fun h1 v k8 => ?_)
  obtain ⟨⟨fs1, o38⟩, k8⟩ := k8
  dsimp only [Option.toList, List.cons_append, List.nil_append]
  refine zr_aload_n (pc := 348)  (i := 2) rfl rfl dL_law_348 ?_
  refine zr_aload_nS (pc := 349)  (i := 0) rfl rfl dL_law_349 ?_
  refine zr_iload (pc := 350)  rfl dL_law_350 ?_
  refine zr_iconst (pc := 352)  dL_law_352 ?_
  refine zr_iadd (pc := 353)  dL_law_353 ?_
  refine zr_sld (pc := 354)  ⟨by omega, by omega⟩ (by omega) dL_law_354 ?_
  refine zr_aload_nS (pc := 355)  (i := 0) rfl rfl dL_law_355 ?_
  refine zr_iload (pc := 356)  rfl dL_law_356 ?_
  refine zr_iconst (pc := 358)  dL_law_358 ?_
  refine zr_iadd (pc := 359)  dL_law_359 ?_
  refine zr_sld (pc := 360)  ⟨by omega, by omega⟩ (by omega) dL_law_360 ?_
  refine zv_call2 (pc := 361)  cv_L_law_55 (by first | assumption | rfl | (repeat (first | assumption | exact zup_s | refine zup_g (by decide) ?_))) ⟨_, rfl, rfl⟩ (Nat.le_of_ble_eq_true rfl) (zhf rfl rfl hc hsl) dL_law_361 ?_
  refine k8 _ (fun h2 hS2 => ?_)
  dsimp only [Option.toList, List.cons_append, List.nil_append]
  refine zr_same (pc := 364) (tgt := 1176) (by decide) dL_law_364 ?_
  exact next h2 hS2
theorem lc_later (hS : lwS h) (hi : 0 ≤ i ∧ i + 6 ≤ L) (hL : L ≤ 3072) (hc : c ≤ 600000) (hsl : sl ≤ 7200000) (next : ∀ h', lwS h' → zAW G mL_law (zSC b L xs G) lw_Z 1176 [some (.retAddr b), some (.ref 0), some (.ref 38), some (.ref 65), some (vi i), x5, x6, x7] [] n h' c sl) : zAW G mL_law (zSC b L xs G) lw_Z 369 [some (.retAddr b), some (.ref 0), some (.ref 38), some (.ref 65), some (vi i), x5, x6, x7] [] n h c sl := by
  obtain ⟨fs0, o0⟩ := hS.o0
  refine zr_aload_n (pc := 369)  (i := 1) rfl rfl dL_law_369 ?_
  refine zv_call0 (pc := 370)  cv_L_law_56 (by first | assumption | rfl | (repeat (first | assumption | exact zup_s | refine zup_g (by decide) ?_))) ⟨_, rfl, rfl⟩ (Nat.le_of_ble_eq_true rfl) (zhf rfl rfl hc hsl) dL_law_370 ?_
  refine p_later hS  (fun h1 v k8 => ?_)
  obtain ⟨⟨fs1, o38⟩, k8⟩ := k8
  dsimp only [Option.toList, List.cons_append, List.nil_append]
  refine zr_aload_n (pc := 373)  (i := 2) rfl rfl dL_law_373 ?_
  refine zv_call0 (pc := 374)  cv_L_law_60 (by first | assumption | rfl | (repeat (first | assumption | exact zup_s | refine zup_g (by decide) ?_))) ⟨_, rfl, rfl⟩ (Nat.le_of_ble_eq_true rfl) (zhf rfl rfl hc hsl) dL_law_374 ?_
  refine k8 _ (fun h2 hS2 => ?_)
  dsimp only [Option.toList, List.cons_append, List.nil_append]
  refine zr_same (pc := 377) (tgt := 1176) (by decide) dL_law_377 ?_
  exact next h2 hS2
theorem lc_works (hS : lwS h) (hi : 0 ≤ i ∧ i + 6 ≤ L) (hL : L ≤ 3072) (hc : c ≤ 600000) (hsl : sl ≤ 7200000) (next : ∀ h', lwS h' → zAW G mL_law (zSC b L xs G) lw_Z 1176 [some (.retAddr b), some (.ref 0), some (.ref 38), some (.ref 65), some (vi i), x5, x6, x7] [] n h' c sl) : zAW G mL_law (zSC b L xs G) lw_Z 382 [some (.retAddr b), some (.ref 0), some (.ref 38), some (.ref 65), some (vi i), x5, x6, x7] [] n h c sl := by
  obtain ⟨fs0, o0⟩ := hS.o0
  have hx4 := xZ_R (xs := xs) (i + 4)
  refine zr_aload_n (pc := 382)  (i := 1) rfl rfl dL_law_382 ?_
  refine zr_aload_nS (pc := 383)  (i := 0) rfl rfl dL_law_383 ?_
  refine zr_iload (pc := 384)  rfl dL_law_384 ?_
  refine zr_iconst (pc := 386)  dL_law_386 ?_
  refine zr_iadd (pc := 387)  dL_law_387 ?_
  refine zr_sld (pc := 388)  ⟨by omega, by omega⟩ (by omega) dL_law_388 ?_
  refine zr_aload_nS (pc := 389)  (i := 0) rfl rfl dL_law_389 ?_
  refine zr_iload (pc := 390)  rfl dL_law_390 ?_
  refine zr_iconst (pc := 392)  dL_law_392 ?_
  refine zr_iadd (pc := 393)  dL_law_393 ?_
  refine zr_sld (pc := 394)  ⟨by omega, by omega⟩ (by omega) dL_law_394 ?_
  refine zr_aload_nS (pc := 395)  (i := 0) rfl rfl dL_law_395 ?_
  refine zr_iload (pc := 396)  rfl dL_law_396 ?_
  refine zr_iconst (pc := 398)  dL_law_398 ?_
  refine zr_iadd (pc := 399)  dL_law_399 ?_
  refine zr_sld (pc := 400)  ⟨by omega, by omega⟩ (by omega) dL_law_400 ?_
  refine zr_aload_nS (pc := 401)  (i := 0) rfl rfl dL_law_401 ?_
  refine zr_iload (pc := 402)  rfl dL_law_402 ?_
  refine zr_iconst (pc := 404)  dL_law_404 ?_
  refine zr_iadd (pc := 405)  dL_law_405 ?_
  refine zr_sld (pc := 406)  ⟨by omega, by omega⟩ (by omega) dL_law_406 ?_
  refine zr_if_eq (pc := 407)  (tgt := 414) ⟨by omega, by omega⟩ (by decide) dL_law_407 (fun q407 => ?_) (fun q407 => ?_)
  · refine zr_iconst (pc := 414)  dL_law_414 ?_
    refine zv_call4 (pc := 415)  cv_L_law_61 (by first | assumption | rfl | (repeat (first | assumption | exact zup_s | refine zup_g (by decide) ?_))) ⟨_, rfl, rfl⟩ (Nat.le_of_ble_eq_true rfl) (zhf rfl rfl hc hsl) dL_law_415 ?_
    refine p_works hS (xZ_R _) (xZ_R _) (xZ_R _) (by decide) (fun h1 v k8 => ?_)
    obtain ⟨⟨fs1, o38⟩, k8⟩ := k8
    dsimp only [Option.toList, List.cons_append, List.nil_append]
    refine zr_aload_n (pc := 418)  (i := 2) rfl rfl dL_law_418 ?_
    refine zr_aload_nS (pc := 419)  (i := 0) rfl rfl dL_law_419 ?_
    refine zr_iload (pc := 420)  rfl dL_law_420 ?_
    refine zr_iconst (pc := 422)  dL_law_422 ?_
    refine zr_iadd (pc := 423)  dL_law_423 ?_
    refine zr_sld (pc := 424)  ⟨by omega, by omega⟩ (by omega) dL_law_424 ?_
    refine zr_aload_nS (pc := 425)  (i := 0) rfl rfl dL_law_425 ?_
    refine zr_iload (pc := 426)  rfl dL_law_426 ?_
    refine zr_iconst (pc := 428)  dL_law_428 ?_
    refine zr_iadd (pc := 429)  dL_law_429 ?_
    refine zr_sld (pc := 430)  ⟨by omega, by omega⟩ (by omega) dL_law_430 ?_
    refine zr_aload_nS (pc := 431)  (i := 0) rfl rfl dL_law_431 ?_
    refine zr_iload (pc := 432)  rfl dL_law_432 ?_
    refine zr_iconst (pc := 434)  dL_law_434 ?_
    refine zr_iadd (pc := 435)  dL_law_435 ?_
    refine zr_sld (pc := 436)  ⟨by omega, by omega⟩ (by omega) dL_law_436 ?_
    refine zr_aload_nS (pc := 437)  (i := 0) rfl rfl dL_law_437 ?_
    refine zr_iload (pc := 438)  rfl dL_law_438 ?_
    refine zr_iconst (pc := 440)  dL_law_440 ?_
    refine zr_iadd (pc := 441)  dL_law_441 ?_
    refine zr_sld (pc := 442)  ⟨by omega, by omega⟩ (by omega) dL_law_442 ?_
    refine zr_if_eq (pc := 443)  (tgt := 450) ⟨by omega, by omega⟩ (by decide) dL_law_443 (fun q443 => ?_) (fun q443 => ?_)
    · refine zr_iconst (pc := 450)  dL_law_450 ?_
      first | (exfalso; omega) | (refine zv_call4 (pc := 451) cv_L_law_65 o38 ⟨_, rfl, rfl⟩ (Nat.le_of_ble_eq_true rfl) (zhf rfl rfl hc hsl) dL_law_451 ?_; refine k8 _ (fun h2 hS2 => ?_); dsimp only [Option.toList, List.cons_append, List.nil_append]; refine zr_same (pc := 454) (tgt := 1176) (by decide) dL_law_454 ?_; exact next h2 hS2)
    · refine zr_iconst (pc := 446)  dL_law_446 ?_
      refine zr_goto (pc := 447)  (tgt := 451) (by decide) dL_law_447 ?_
      first | (exfalso; omega) | (refine zv_call4 (pc := 451) cv_L_law_65 o38 ⟨_, rfl, rfl⟩ (Nat.le_of_ble_eq_true rfl) (zhf rfl rfl hc hsl) dL_law_451 ?_; refine k8 _ (fun h2 hS2 => ?_); dsimp only [Option.toList, List.cons_append, List.nil_append]; refine zr_same (pc := 454) (tgt := 1176) (by decide) dL_law_454 ?_; exact next h2 hS2)
  · refine zr_iconst (pc := 410)  dL_law_410 ?_
    refine zr_goto (pc := 411)  (tgt := 415) (by decide) dL_law_411 ?_
    refine zv_call4 (pc := 415)  cv_L_law_61 (by first | assumption | rfl | (repeat (first | assumption | exact zup_s | refine zup_g (by decide) ?_))) ⟨_, rfl, rfl⟩ (Nat.le_of_ble_eq_true rfl) (zhf rfl rfl hc hsl) dL_law_415 ?_
    refine p_works hS (xZ_R _) (xZ_R _) (xZ_R _) (by decide) (fun h1 v k8 => ?_)
    obtain ⟨⟨fs1, o38⟩, k8⟩ := k8
    dsimp only [Option.toList, List.cons_append, List.nil_append]
    refine zr_aload_n (pc := 418)  (i := 2) rfl rfl dL_law_418 ?_
    refine zr_aload_nS (pc := 419)  (i := 0) rfl rfl dL_law_419 ?_
    refine zr_iload (pc := 420)  rfl dL_law_420 ?_
    refine zr_iconst (pc := 422)  dL_law_422 ?_
    refine zr_iadd (pc := 423)  dL_law_423 ?_
    refine zr_sld (pc := 424)  ⟨by omega, by omega⟩ (by omega) dL_law_424 ?_
    refine zr_aload_nS (pc := 425)  (i := 0) rfl rfl dL_law_425 ?_
    refine zr_iload (pc := 426)  rfl dL_law_426 ?_
    refine zr_iconst (pc := 428)  dL_law_428 ?_
    refine zr_iadd (pc := 429)  dL_law_429 ?_
    refine zr_sld (pc := 430)  ⟨by omega, by omega⟩ (by omega) dL_law_430 ?_
    refine zr_aload_nS (pc := 431)  (i := 0) rfl rfl dL_law_431 ?_
    refine zr_iload (pc := 432)  rfl dL_law_432 ?_
    refine zr_iconst (pc := 434)  dL_law_434 ?_
    refine zr_iadd (pc := 435)  dL_law_435 ?_
    refine zr_sld (pc := 436)  ⟨by omega, by omega⟩ (by omega) dL_law_436 ?_
    refine zr_aload_nS (pc := 437)  (i := 0) rfl rfl dL_law_437 ?_
    refine zr_iload (pc := 438)  rfl dL_law_438 ?_
    refine zr_iconst (pc := 440)  dL_law_440 ?_
    refine zr_iadd (pc := 441)  dL_law_441 ?_
    refine zr_sld (pc := 442)  ⟨by omega, by omega⟩ (by omega) dL_law_442 ?_
    refine zr_if_eq (pc := 443)  (tgt := 450) ⟨by omega, by omega⟩ (by decide) dL_law_443 (fun q443 => ?_) (fun q443 => ?_)
    · refine zr_iconst (pc := 450)  dL_law_450 ?_
      first | (exfalso; omega) | (refine zv_call4 (pc := 451) cv_L_law_65 o38 ⟨_, rfl, rfl⟩ (Nat.le_of_ble_eq_true rfl) (zhf rfl rfl hc hsl) dL_law_451 ?_; refine k8 _ (fun h2 hS2 => ?_); dsimp only [Option.toList, List.cons_append, List.nil_append]; refine zr_same (pc := 454) (tgt := 1176) (by decide) dL_law_454 ?_; exact next h2 hS2)
    · refine zr_iconst (pc := 446)  dL_law_446 ?_
      refine zr_goto (pc := 447)  (tgt := 451) (by decide) dL_law_447 ?_
      first | (exfalso; omega) | (refine zv_call4 (pc := 451) cv_L_law_65 o38 ⟨_, rfl, rfl⟩ (Nat.le_of_ble_eq_true rfl) (zhf rfl rfl hc hsl) dL_law_451 ?_; refine k8 _ (fun h2 hS2 => ?_); dsimp only [Option.toList, List.cons_append, List.nil_append]; refine zr_same (pc := 454) (tgt := 1176) (by decide) dL_law_454 ?_; exact next h2 hS2)
theorem lc_seen (hS : lwS h) (hi : 0 ≤ i ∧ i + 6 ≤ L) (hL : L ≤ 3072) (hc : c ≤ 600000) (hsl : sl ≤ 7200000) (next : ∀ h', lwS h' → zAW G mL_law (zSC b L xs G) lw_Z 1176 [some (.retAddr b), some (.ref 0), some (.ref 38), some (.ref 65), some (vi i), x5, x6, x7] [] n h' c sl) : zAW G mL_law (zSC b L xs G) lw_Z 459 [some (.retAddr b), some (.ref 0), some (.ref 38), some (.ref 65), some (vi i), x5, x6, x7] [] n h c sl := by
  obtain ⟨fs0, o0⟩ := hS.o0
  refine zr_aload_n (pc := 459)  (i := 1) rfl rfl dL_law_459 ?_
  refine zr_aload_nS (pc := 460)  (i := 0) rfl rfl dL_law_460 ?_
  refine zr_iload (pc := 461)  rfl dL_law_461 ?_
  refine zr_iconst (pc := 463)  dL_law_463 ?_
  refine zr_iadd (pc := 464)  dL_law_464 ?_
  refine zr_sld (pc := 465)  ⟨by omega, by omega⟩ (by omega) dL_law_465 ?_
  refine zr_aload_nS (pc := 466)  (i := 0) rfl rfl dL_law_466 ?_
  refine zr_iload (pc := 467)  rfl dL_law_467 ?_
  refine zr_iconst (pc := 469)  dL_law_469 ?_
  refine zr_iadd (pc := 470)  dL_law_470 ?_
  refine zr_sld (pc := 471)  ⟨by omega, by omega⟩ (by omega) dL_law_471 ?_
  refine zr_aload_nS (pc := 472)  (i := 0) rfl rfl dL_law_472 ?_
  refine zr_iload (pc := 473)  rfl dL_law_473 ?_
  refine zr_iconst (pc := 475)  dL_law_475 ?_
  refine zr_iadd (pc := 476)  dL_law_476 ?_
  refine zr_sld (pc := 477)  ⟨by omega, by omega⟩ (by omega) dL_law_477 ?_
  refine zv_call3 (pc := 478)  cv_L_law_66 (by first | assumption | rfl | (repeat (first | assumption | exact zup_s | refine zup_g (by decide) ?_))) ⟨_, rfl, rfl⟩ (Nat.le_of_ble_eq_true rfl) (zhf rfl rfl hc hsl) dL_law_478 ?_
  refine p_seen hS (xZ_R _) (xZ_R _) (xZ_R _) (fun h1 v k8 => ?_)
  obtain ⟨⟨fs1, o38⟩, k8⟩ := k8
  dsimp only [Option.toList, List.cons_append, List.nil_append]
  refine zr_aload_n (pc := 481)  (i := 2) rfl rfl dL_law_481 ?_
  refine zr_aload_nS (pc := 482)  (i := 0) rfl rfl dL_law_482 ?_
  refine zr_iload (pc := 483)  rfl dL_law_483 ?_
  refine zr_iconst (pc := 485)  dL_law_485 ?_
  refine zr_iadd (pc := 486)  dL_law_486 ?_
  refine zr_sld (pc := 487)  ⟨by omega, by omega⟩ (by omega) dL_law_487 ?_
  refine zr_aload_nS (pc := 488)  (i := 0) rfl rfl dL_law_488 ?_
  refine zr_iload (pc := 489)  rfl dL_law_489 ?_
  refine zr_iconst (pc := 491)  dL_law_491 ?_
  refine zr_iadd (pc := 492)  dL_law_492 ?_
  refine zr_sld (pc := 493)  ⟨by omega, by omega⟩ (by omega) dL_law_493 ?_
  refine zr_aload_nS (pc := 494)  (i := 0) rfl rfl dL_law_494 ?_
  refine zr_iload (pc := 495)  rfl dL_law_495 ?_
  refine zr_iconst (pc := 497)  dL_law_497 ?_
  refine zr_iadd (pc := 498)  dL_law_498 ?_
  refine zr_sld (pc := 499)  ⟨by omega, by omega⟩ (by omega) dL_law_499 ?_
  refine zv_call3 (pc := 500)  cv_L_law_69 (by first | assumption | rfl | (repeat (first | assumption | exact zup_s | refine zup_g (by decide) ?_))) ⟨_, rfl, rfl⟩ (Nat.le_of_ble_eq_true rfl) (zhf rfl rfl hc hsl) dL_law_500 ?_
  refine k8 _ (fun h2 hS2 => ?_)
  dsimp only [Option.toList, List.cons_append, List.nil_append]
  refine zr_same (pc := 503) (tgt := 1176) (by decide) dL_law_503 ?_
  exact next h2 hS2
theorem lc_kind (hS : lwS h) (hi : 0 ≤ i ∧ i + 6 ≤ L) (hL : L ≤ 3072) (hc : c ≤ 600000) (hsl : sl ≤ 7200000) (next : ∀ h', lwS h' → zAW G mL_law (zSC b L xs G) lw_Z 1176 [some (.retAddr b), some (.ref 0), some (.ref 38), some (.ref 65), some (vi i), x5, x6, x7] [] n h' c sl) : zAW G mL_law (zSC b L xs G) lw_Z 508 [some (.retAddr b), some (.ref 0), some (.ref 38), some (.ref 65), some (vi i), x5, x6, x7] [] n h c sl := by
  obtain ⟨fs0, o0⟩ := hS.o0
  refine zr_aload_n (pc := 508)  (i := 1) rfl rfl dL_law_508 ?_
  refine zr_aload_nS (pc := 509)  (i := 0) rfl rfl dL_law_509 ?_
  refine zr_iload (pc := 510)  rfl dL_law_510 ?_
  refine zr_iconst (pc := 512)  dL_law_512 ?_
  refine zr_iadd (pc := 513)  dL_law_513 ?_
  refine zr_sld (pc := 514)  ⟨by omega, by omega⟩ (by omega) dL_law_514 ?_
  refine zr_aload_nS (pc := 515)  (i := 0) rfl rfl dL_law_515 ?_
  refine zr_iload (pc := 516)  rfl dL_law_516 ?_
  refine zr_iconst (pc := 518)  dL_law_518 ?_
  refine zr_iadd (pc := 519)  dL_law_519 ?_
  refine zr_sld (pc := 520)  ⟨by omega, by omega⟩ (by omega) dL_law_520 ?_
  refine zr_aload_nS (pc := 521)  (i := 0) rfl rfl dL_law_521 ?_
  refine zr_iload (pc := 522)  rfl dL_law_522 ?_
  refine zr_iconst (pc := 524)  dL_law_524 ?_
  refine zr_iadd (pc := 525)  dL_law_525 ?_
  refine zr_sld (pc := 526)  ⟨by omega, by omega⟩ (by omega) dL_law_526 ?_
  refine zr_aload_nS (pc := 527)  (i := 0) rfl rfl dL_law_527 ?_
  refine zr_iload (pc := 528)  rfl dL_law_528 ?_
  refine zr_iconst (pc := 530)  dL_law_530 ?_
  refine zr_iadd (pc := 531)  dL_law_531 ?_
  refine zr_sld (pc := 532)  ⟨by omega, by omega⟩ (by omega) dL_law_532 ?_
  refine zv_call4 (pc := 533)  cv_L_law_70 (by first | assumption | rfl | (repeat (first | assumption | exact zup_s | refine zup_g (by decide) ?_))) ⟨_, rfl, rfl⟩ (Nat.le_of_ble_eq_true rfl) (zhf rfl rfl hc hsl) dL_law_533 ?_
  refine p_kind hS (xZ_R _) (xZ_R _) (xZ_R _) (xZ_R _) (fun h1 v k8 => ?_)
  obtain ⟨⟨fs1, o38⟩, k8⟩ := k8
  dsimp only [Option.toList, List.cons_append, List.nil_append]
  refine zr_aload_n (pc := 536)  (i := 2) rfl rfl dL_law_536 ?_
  refine zr_aload_nS (pc := 537)  (i := 0) rfl rfl dL_law_537 ?_
  refine zr_iload (pc := 538)  rfl dL_law_538 ?_
  refine zr_iconst (pc := 540)  dL_law_540 ?_
  refine zr_iadd (pc := 541)  dL_law_541 ?_
  refine zr_sld (pc := 542)  ⟨by omega, by omega⟩ (by omega) dL_law_542 ?_
  refine zr_aload_nS (pc := 543)  (i := 0) rfl rfl dL_law_543 ?_
  refine zr_iload (pc := 544)  rfl dL_law_544 ?_
  refine zr_iconst (pc := 546)  dL_law_546 ?_
  refine zr_iadd (pc := 547)  dL_law_547 ?_
  refine zr_sld (pc := 548)  ⟨by omega, by omega⟩ (by omega) dL_law_548 ?_
  refine zr_aload_nS (pc := 549)  (i := 0) rfl rfl dL_law_549 ?_
  refine zr_iload (pc := 550)  rfl dL_law_550 ?_
  refine zr_iconst (pc := 552)  dL_law_552 ?_
  refine zr_iadd (pc := 553)  dL_law_553 ?_
  refine zr_sld (pc := 554)  ⟨by omega, by omega⟩ (by omega) dL_law_554 ?_
  refine zr_aload_nS (pc := 555)  (i := 0) rfl rfl dL_law_555 ?_
  refine zr_iload (pc := 556)  rfl dL_law_556 ?_
  refine zr_iconst (pc := 558)  dL_law_558 ?_
  refine zr_iadd (pc := 559)  dL_law_559 ?_
  refine zr_sld (pc := 560)  ⟨by omega, by omega⟩ (by omega) dL_law_560 ?_
  refine zv_call4 (pc := 561)  cv_L_law_74 (by first | assumption | rfl | (repeat (first | assumption | exact zup_s | refine zup_g (by decide) ?_))) ⟨_, rfl, rfl⟩ (Nat.le_of_ble_eq_true rfl) (zhf rfl rfl hc hsl) dL_law_561 ?_
  refine k8 _ (fun h2 hS2 => ?_)
  dsimp only [Option.toList, List.cons_append, List.nil_append]
  refine zr_same (pc := 564) (tgt := 1176) (by decide) dL_law_564 ?_
  exact next h2 hS2
theorem lc_whole (hS : lwS h) (hi : 0 ≤ i ∧ i + 6 ≤ L) (hL : L ≤ 3072) (hc : c ≤ 600000) (hsl : sl ≤ 7200000) (next : ∀ h', lwS h' → zAW G mL_law (zSC b L xs G) lw_Z 1176 [some (.retAddr b), some (.ref 0), some (.ref 38), some (.ref 65), some (vi i), x5, x6, x7] [] n h' c sl) : zAW G mL_law (zSC b L xs G) lw_Z 569 [some (.retAddr b), some (.ref 0), some (.ref 38), some (.ref 65), some (vi i), x5, x6, x7] [] n h c sl := by
  obtain ⟨fs0, o0⟩ := hS.o0
  refine zr_aload_n (pc := 569)  (i := 1) rfl rfl dL_law_569 ?_
  refine zr_aload_nS (pc := 570)  (i := 0) rfl rfl dL_law_570 ?_
  refine zr_iload (pc := 571)  rfl dL_law_571 ?_
  refine zr_iconst (pc := 573)  dL_law_573 ?_
  refine zr_iadd (pc := 574)  dL_law_574 ?_
  refine zr_sld (pc := 575)  ⟨by omega, by omega⟩ (by omega) dL_law_575 ?_
  refine zr_aload_nS (pc := 576)  (i := 0) rfl rfl dL_law_576 ?_
  refine zr_iload (pc := 577)  rfl dL_law_577 ?_
  refine zr_iconst (pc := 579)  dL_law_579 ?_
  refine zr_iadd (pc := 580)  dL_law_580 ?_
  refine zr_sld (pc := 581)  ⟨by omega, by omega⟩ (by omega) dL_law_581 ?_
  refine zv_call2 (pc := 582)  cv_L_law_75 (by first | assumption | rfl | (repeat (first | assumption | exact zup_s | refine zup_g (by decide) ?_))) ⟨_, rfl, rfl⟩ (Nat.le_of_ble_eq_true rfl) (zhf rfl rfl hc hsl) dL_law_582 ?_
  refine p_whole hS (xZ_R _) (xZ_R _) (fun h1 v k8 => ?_)
  obtain ⟨⟨fs1, o38⟩, k8⟩ := k8
  dsimp only [Option.toList, List.cons_append, List.nil_append]
  refine zr_aload_n (pc := 585)  (i := 2) rfl rfl dL_law_585 ?_
  refine zr_aload_nS (pc := 586)  (i := 0) rfl rfl dL_law_586 ?_
  refine zr_iload (pc := 587)  rfl dL_law_587 ?_
  refine zr_iconst (pc := 589)  dL_law_589 ?_
  refine zr_iadd (pc := 590)  dL_law_590 ?_
  refine zr_sld (pc := 591)  ⟨by omega, by omega⟩ (by omega) dL_law_591 ?_
  refine zr_aload_nS (pc := 592)  (i := 0) rfl rfl dL_law_592 ?_
  refine zr_iload (pc := 593)  rfl dL_law_593 ?_
  refine zr_iconst (pc := 595)  dL_law_595 ?_
  refine zr_iadd (pc := 596)  dL_law_596 ?_
  refine zr_sld (pc := 597)  ⟨by omega, by omega⟩ (by omega) dL_law_597 ?_
  refine zv_call2 (pc := 598)  cv_L_law_78 (by first | assumption | rfl | (repeat (first | assumption | exact zup_s | refine zup_g (by decide) ?_))) ⟨_, rfl, rfl⟩ (Nat.le_of_ble_eq_true rfl) (zhf rfl rfl hc hsl) dL_law_598 ?_
  refine k8 _ (fun h2 hS2 => ?_)
  dsimp only [Option.toList, List.cons_append, List.nil_append]
  refine zr_same (pc := 601) (tgt := 1176) (by decide) dL_law_601 ?_
  exact next h2 hS2
theorem lc_posts (hS : lwS h) (hi : 0 ≤ i ∧ i + 6 ≤ L) (hL : L ≤ 3072) (hc : c ≤ 600000) (hsl : sl ≤ 7200000) (next : ∀ h', lwS h' → zAW G mL_law (zSC b L xs G) lw_Z 1176 [some (.retAddr b), some (.ref 0), some (.ref 38), some (.ref 65), some (vi i), x5, x6, x7] [] n h' c sl) : zAW G mL_law (zSC b L xs G) lw_Z 606 [some (.retAddr b), some (.ref 0), some (.ref 38), some (.ref 65), some (vi i), x5, x6, x7] [] n h c sl := by
  obtain ⟨fs0, o0⟩ := hS.o0
  refine zr_aload_n (pc := 606)  (i := 1) rfl rfl dL_law_606 ?_
  refine zr_aload_nS (pc := 607)  (i := 0) rfl rfl dL_law_607 ?_
  refine zr_iload (pc := 608)  rfl dL_law_608 ?_
  refine zr_iconst (pc := 610)  dL_law_610 ?_
  refine zr_iadd (pc := 611)  dL_law_611 ?_
  refine zr_sld (pc := 612)  ⟨by omega, by omega⟩ (by omega) dL_law_612 ?_
  refine zr_aload_nS (pc := 613)  (i := 0) rfl rfl dL_law_613 ?_
  refine zr_iload (pc := 614)  rfl dL_law_614 ?_
  refine zr_iconst (pc := 616)  dL_law_616 ?_
  refine zr_iadd (pc := 617)  dL_law_617 ?_
  refine zr_sld (pc := 618)  ⟨by omega, by omega⟩ (by omega) dL_law_618 ?_
  refine zv_call2 (pc := 619)  cv_L_law_79 (by first | assumption | rfl | (repeat (first | assumption | exact zup_s | refine zup_g (by decide) ?_))) ⟨_, rfl, rfl⟩ (Nat.le_of_ble_eq_true rfl) (zhf rfl rfl hc hsl) dL_law_619 ?_
  refine p_posts hS (xZ_R _) (xZ_R _) (fun h1 v k8 => ?_)
  obtain ⟨⟨fs1, o38⟩, k8⟩ := k8
  dsimp only [Option.toList, List.cons_append, List.nil_append]
  refine zr_aload_n (pc := 622)  (i := 2) rfl rfl dL_law_622 ?_
  refine zr_aload_nS (pc := 623)  (i := 0) rfl rfl dL_law_623 ?_
  refine zr_iload (pc := 624)  rfl dL_law_624 ?_
  refine zr_iconst (pc := 626)  dL_law_626 ?_
  refine zr_iadd (pc := 627)  dL_law_627 ?_
  refine zr_sld (pc := 628)  ⟨by omega, by omega⟩ (by omega) dL_law_628 ?_
  refine zr_aload_nS (pc := 629)  (i := 0) rfl rfl dL_law_629 ?_
  refine zr_iload (pc := 630)  rfl dL_law_630 ?_
  refine zr_iconst (pc := 632)  dL_law_632 ?_
  refine zr_iadd (pc := 633)  dL_law_633 ?_
  refine zr_sld (pc := 634)  ⟨by omega, by omega⟩ (by omega) dL_law_634 ?_
  refine zv_call2 (pc := 635)  cv_L_law_82 (by first | assumption | rfl | (repeat (first | assumption | exact zup_s | refine zup_g (by decide) ?_))) ⟨_, rfl, rfl⟩ (Nat.le_of_ble_eq_true rfl) (zhf rfl rfl hc hsl) dL_law_635 ?_
  refine k8 _ (fun h2 hS2 => ?_)
  dsimp only [Option.toList, List.cons_append, List.nil_append]
  refine zr_same (pc := 638) (tgt := 1176) (by decide) dL_law_638 ?_
  exact next h2 hS2
theorem lx_worth {kk v : Int} {ou : Int → Int} (hS : lwT h kk ou) (hkk : kk = 0 ∨ kk = 1) (hou : kk = 0 → ou 0 = v) (hR : iR v ∨ False) (hi : 0 ≤ i ∧ i + 6 ≤ L) (hL : L ≤ 3072) (next : ∀ x5 x6 x7, zAW G mL_law (zSC b L xs G) lw_Z 1176 [some (.retAddr b), some (.ref 0), some (.ref 38), some (.ref 65), some (vi i), x5, x6, x7] [] n h c sl) : zAW G mL_law (zSC b L xs G) lw_Z 703 [some (.retAddr b), some (.ref 0), some (.ref 38), some (.ref 65), some (vi i), some (vi kk), some (vi v), x7] [] n h c sl := by
  have o65 := hS.o65
  have hR : iR v := hR.resolve_right id
  refine zr_iload (pc := 703)  rfl dL_law_703 ?_
  refine zr_if_ne (pc := 705)  (tgt := 720) ⟨by omega, by omega⟩ (by decide) dL_law_705 (fun q705 => ?_) (fun q705 => ?_)
  · refine zr_goto (pc := 720)  (tgt := 1176) (by decide) dL_law_720 ?_
    exact next _ _ _
  · refine zr_aload_n (pc := 708)  (i := 3) rfl rfl dL_law_708 ?_
    refine zr_iconst (pc := 709)  dL_law_709 ?_
    refine zr_lald (pc := 710)  (by first | assumption | rfl | (repeat (first | assumption | exact zup_s | refine zup_g (by decide) ?_))) ⟨by omega, by omega⟩ (by decide) dL_law_710 ?_
    refine zr_iload (pc := 711)  rfl dL_law_711 ?_
    refine zr_i2l (pc := 713)  ⟨by omega, by omega⟩ dL_law_713 ?_
    rw [hou (by omega)]
    refine zr_lsame (pc := 714) (tgt := 720) (by decide) dL_law_714 dL_law_715 ?_
    refine zr_goto (pc := 720) (tgt := 1176) (by decide) dL_law_720 ?_
    exact next _ _ _
theorem lc_worth (hG : (zgl G).stackTraces = false) (hS : lwS h) (hi : 0 ≤ i ∧ i + 6 ≤ L) (hL : L ≤ 3072) (hc : c ≤ 600000) (hsl : sl ≤ 7200000) (next : ∀ n' h' c' sl' x5 x6 x7, lwS h' → c' ≤ c + 1 → sl' ≤ sl + 6 → zAW G mL_law (zSC b L xs G) lw_Z 1176 [some (.retAddr b), some (.ref 0), some (.ref 38), some (.ref 65), some (vi i), x5, x6, x7] [] n' h' c' sl') : zAW G mL_law (zSC b L xs G) lw_Z 643 [some (.retAddr b), some (.ref 0), some (.ref 38), some (.ref 65), some (vi i), x5, x6, x7] [] n h c sl := by
  refine zr_aload_n (pc := 643)  (i := 1) rfl rfl dL_law_643 ?_
  refine zr_aload_nS (pc := 644)  (i := 0) rfl rfl dL_law_644 ?_
  refine zr_iload (pc := 645)  rfl dL_law_645 ?_
  refine zr_iconst (pc := 647)  dL_law_647 ?_
  refine zr_iadd (pc := 648)  dL_law_648 ?_
  refine zr_sld (pc := 649)  ⟨by omega, by omega⟩ (by omega) dL_law_649 ?_
  refine zr_aload_nS (pc := 650)  (i := 0) rfl rfl dL_law_650 ?_
  refine zr_iload (pc := 651)  rfl dL_law_651 ?_
  refine zr_iconst (pc := 653)  dL_law_653 ?_
  refine zr_iadd (pc := 654)  dL_law_654 ?_
  refine zr_sld (pc := 655)  ⟨by omega, by omega⟩ (by omega) dL_law_655 ?_
  refine zr_aload_nS (pc := 656)  (i := 0) rfl rfl dL_law_656 ?_
  refine zr_iload (pc := 657)  rfl dL_law_657 ?_
  refine zr_iconst (pc := 659)  dL_law_659 ?_
  refine zr_iadd (pc := 660)  dL_law_660 ?_
  refine zr_sld (pc := 661)  ⟨by omega, by omega⟩ (by omega) dL_law_661 ?_
  refine zr_aload_n (pc := 662)  (i := 3) rfl rfl dL_law_662 ?_
  refine zr_callSH (pc := 663) (As := [.ref 0, vi (xZ xs (i + 1)), vi (xZ xs (i + 2)), vi (xZ xs (i + 3)), .ref 65]) (st := []) lk_worth_c lk_i lk_worth_h (by decide) (by decide) lk_worth_l lk_worth_s rfl (Nat.le_of_ble_eq_true rfl) (by show c + 1 ≤ 601024 ∧ sl + 6 ≤ 7293034; omega) dL_law_663 (w_worth hG hS (xZ_R _) (xZ_R _) (xZ_R _) (fun h1 n1 kk hkk k8 => ?_))
  obtain ⟨⟨fs1, o38⟩, k8⟩ := k8
  dsimp only [Option.toList, List.cons_append, List.nil_append]
  refine zs_istore_5 (pc := 666)  (by first | exact zn_i | exact zn_r | exact zn_0) (by decide) dL_law_666 ?_
  refine zr_aload_n (pc := 668)  (i := 2) rfl rfl dL_law_668 ?_
  refine zr_aload_nS (pc := 669)  (i := 0) rfl rfl dL_law_669 ?_
  refine zr_iload (pc := 670)  rfl dL_law_670 ?_
  refine zr_iconst (pc := 672)  dL_law_672 ?_
  refine zr_iadd (pc := 673)  dL_law_673 ?_
  refine zr_sld (pc := 674)  ⟨by omega, by omega⟩ (by omega) dL_law_674 ?_
  refine zr_aload_nS (pc := 675)  (i := 0) rfl rfl dL_law_675 ?_
  refine zr_iload (pc := 676)  rfl dL_law_676 ?_
  refine zr_iconst (pc := 678)  dL_law_678 ?_
  refine zr_iadd (pc := 679)  dL_law_679 ?_
  refine zr_sld (pc := 680)  ⟨by omega, by omega⟩ (by omega) dL_law_680 ?_
  refine zr_aload_nS (pc := 681)  (i := 0) rfl rfl dL_law_681 ?_
  refine zr_iload (pc := 682)  rfl dL_law_682 ?_
  refine zr_iconst (pc := 684)  dL_law_684 ?_
  refine zr_iadd (pc := 685)  dL_law_685 ?_
  refine zr_sld (pc := 686)  ⟨by omega, by omega⟩ (by omega) dL_law_686 ?_
  refine zv_call3 (pc := 687) cv_L_law_88 o38 ⟨_, rfl, rfl⟩ (Nat.le_of_ble_eq_true rfl) (by show c + 1 + 0 ≤ 601024 ∧ sl + 6 + 0 ≤ 7293034; omega) dL_law_687 ?_
  refine k8 _ (fun h2 v ou hT hou hRv => ?_)
  obtain ⟨len2, en2, now2, al2, pm2, pd2, sq2, up2, lw2, t38⟩ := hT.o38
  dsimp only [Option.toList, List.cons_append, List.nil_append]
  refine zs_istore_6 (pc := 690)  (by first | exact zn_i | exact zn_r | exact zn_0) (by decide) dL_law_690 ?_
  refine zr_aload_n (pc := 692)  (i := 2) rfl rfl dL_law_692 ?_
  refine zv_call0 (pc := 693) cv_L_law_89 t38 ⟨_, rfl, rfl⟩ (Nat.le_of_ble_eq_true rfl) (by show c + 1 + 0 + 0 ≤ 601024 ∧ sl + 6 + 0 + 0 ≤ 7293034; omega) dL_law_693 ?_
  refine l_thrown t38 ?_
  dsimp only [Option.toList, List.cons_append, List.nil_append]
  refine zr_iload (pc := 696)  rfl dL_law_696 ?_
  refine zr_same (pc := 698) (tgt := 703) (by decide) dL_law_698 ?_
  exact lx_worth hT hkk hou (Or.inl (hRv rfl)) hi hL (fun x5 x6 x7 => next _ _ _ _ x5 x6 x7 ⟨_, _, hT⟩ (Nat.le_refl _) (Nat.le_refl _))
theorem lc_sample (hS : lwS h) (hi : 0 ≤ i ∧ i + 6 ≤ L) (hL : L ≤ 3072) (hc : c ≤ 600000) (hsl : sl ≤ 7200000) (next : ∀ h', lwS h' → zAW G mL_law (zSC b L xs G) lw_Z 1176 [some (.retAddr b), some (.ref 0), some (.ref 38), some (.ref 65), some (vi i), x5, x6, x7] [] n h' c sl) : zAW G mL_law (zSC b L xs G) lw_Z 723 [some (.retAddr b), some (.ref 0), some (.ref 38), some (.ref 65), some (vi i), x5, x6, x7] [] n h c sl := by
  obtain ⟨fs0, o0⟩ := hS.o0
  refine zr_aload_n (pc := 723)  (i := 1) rfl rfl dL_law_723 ?_
  refine zr_aload_nS (pc := 724)  (i := 0) rfl rfl dL_law_724 ?_
  refine zr_iload (pc := 725)  rfl dL_law_725 ?_
  refine zr_iconst (pc := 727)  dL_law_727 ?_
  refine zr_iadd (pc := 728)  dL_law_728 ?_
  refine zr_sld (pc := 729)  ⟨by omega, by omega⟩ (by omega) dL_law_729 ?_
  refine zr_aload_nS (pc := 730)  (i := 0) rfl rfl dL_law_730 ?_
  refine zr_iload (pc := 731)  rfl dL_law_731 ?_
  refine zr_iconst (pc := 733)  dL_law_733 ?_
  refine zr_iadd (pc := 734)  dL_law_734 ?_
  refine zr_sld (pc := 735)  ⟨by omega, by omega⟩ (by omega) dL_law_735 ?_
  refine zv_call2 (pc := 736)  cv_L_law_92 (by first | assumption | rfl | (repeat (first | assumption | exact zup_s | refine zup_g (by decide) ?_))) ⟨_, rfl, rfl⟩ (Nat.le_of_ble_eq_true rfl) (zhf rfl rfl hc hsl) dL_law_736 ?_
  refine p_sample hS (xZ_R _) (xZ_R _) (fun h1 v k8 => ?_)
  obtain ⟨⟨fs1, o38⟩, k8⟩ := k8
  dsimp only [Option.toList, List.cons_append, List.nil_append]
  refine zr_aload_n (pc := 739)  (i := 2) rfl rfl dL_law_739 ?_
  refine zr_aload_nS (pc := 740)  (i := 0) rfl rfl dL_law_740 ?_
  refine zr_iload (pc := 741)  rfl dL_law_741 ?_
  refine zr_iconst (pc := 743)  dL_law_743 ?_
  refine zr_iadd (pc := 744)  dL_law_744 ?_
  refine zr_sld (pc := 745)  ⟨by omega, by omega⟩ (by omega) dL_law_745 ?_
  refine zr_aload_nS (pc := 746)  (i := 0) rfl rfl dL_law_746 ?_
  refine zr_iload (pc := 747)  rfl dL_law_747 ?_
  refine zr_iconst (pc := 749)  dL_law_749 ?_
  refine zr_iadd (pc := 750)  dL_law_750 ?_
  refine zr_sld (pc := 751)  ⟨by omega, by omega⟩ (by omega) dL_law_751 ?_
  refine zv_call2 (pc := 752)  cv_L_law_95 (by first | assumption | rfl | (repeat (first | assumption | exact zup_s | refine zup_g (by decide) ?_))) ⟨_, rfl, rfl⟩ (Nat.le_of_ble_eq_true rfl) (zhf rfl rfl hc hsl) dL_law_752 ?_
  refine k8 _ (fun h2 hS2 => ?_)
  dsimp only [Option.toList, List.cons_append, List.nil_append]
  refine zr_same (pc := 755) (tgt := 1176) (by decide) dL_law_755 ?_
  exact next h2 hS2
theorem lc_fit (hS : lwS h) (hi : 0 ≤ i ∧ i + 6 ≤ L) (hL : L ≤ 3072) (hc : c ≤ 600000) (hsl : sl ≤ 7200000) (next : ∀ h', lwS h' → zAW G mL_law (zSC b L xs G) lw_Z 1176 [some (.retAddr b), some (.ref 0), some (.ref 38), some (.ref 65), some (vi i), x5, x6, x7] [] n h' c sl) : zAW G mL_law (zSC b L xs G) lw_Z 760 [some (.retAddr b), some (.ref 0), some (.ref 38), some (.ref 65), some (vi i), x5, x6, x7] [] n h c sl := by
  obtain ⟨fs0, o0⟩ := hS.o0
  refine zr_aload_n (pc := 760)  (i := 1) rfl rfl dL_law_760 ?_
  refine zr_aload_nS (pc := 761)  (i := 0) rfl rfl dL_law_761 ?_
  refine zr_iload (pc := 762)  rfl dL_law_762 ?_
  refine zr_iconst (pc := 764)  dL_law_764 ?_
  refine zr_iadd (pc := 765)  dL_law_765 ?_
  refine zr_sld (pc := 766)  ⟨by omega, by omega⟩ (by omega) dL_law_766 ?_
  refine zr_aload_nS (pc := 767)  (i := 0) rfl rfl dL_law_767 ?_
  refine zr_iload (pc := 768)  rfl dL_law_768 ?_
  refine zr_iconst (pc := 770)  dL_law_770 ?_
  refine zr_iadd (pc := 771)  dL_law_771 ?_
  refine zr_sld (pc := 772)  ⟨by omega, by omega⟩ (by omega) dL_law_772 ?_
  refine zr_aload_nS (pc := 773)  (i := 0) rfl rfl dL_law_773 ?_
  refine zr_iload (pc := 774)  rfl dL_law_774 ?_
  refine zr_iconst (pc := 776)  dL_law_776 ?_
  refine zr_iadd (pc := 777)  dL_law_777 ?_
  refine zr_sld (pc := 778)  ⟨by omega, by omega⟩ (by omega) dL_law_778 ?_
  refine zv_call3 (pc := 779)  cv_L_law_96 (by first | assumption | rfl | (repeat (first | assumption | exact zup_s | refine zup_g (by decide) ?_))) ⟨_, rfl, rfl⟩ (Nat.le_of_ble_eq_true rfl) (zhf rfl rfl hc hsl) dL_law_779 ?_
  refine p_fit hS (xZ_R _) (xZ_R _) (xZ_R _) (fun h1 v k8 => ?_)
  obtain ⟨⟨fs1, o38⟩, k8⟩ := k8
  dsimp only [Option.toList, List.cons_append, List.nil_append]
  refine zr_aload_n (pc := 782)  (i := 2) rfl rfl dL_law_782 ?_
  refine zr_aload_nS (pc := 783)  (i := 0) rfl rfl dL_law_783 ?_
  refine zr_iload (pc := 784)  rfl dL_law_784 ?_
  refine zr_iconst (pc := 786)  dL_law_786 ?_
  refine zr_iadd (pc := 787)  dL_law_787 ?_
  refine zr_sld (pc := 788)  ⟨by omega, by omega⟩ (by omega) dL_law_788 ?_
  refine zr_aload_nS (pc := 789)  (i := 0) rfl rfl dL_law_789 ?_
  refine zr_iload (pc := 790)  rfl dL_law_790 ?_
  refine zr_iconst (pc := 792)  dL_law_792 ?_
  refine zr_iadd (pc := 793)  dL_law_793 ?_
  refine zr_sld (pc := 794)  ⟨by omega, by omega⟩ (by omega) dL_law_794 ?_
  refine zr_aload_nS (pc := 795)  (i := 0) rfl rfl dL_law_795 ?_
  refine zr_iload (pc := 796)  rfl dL_law_796 ?_
  refine zr_iconst (pc := 798)  dL_law_798 ?_
  refine zr_iadd (pc := 799)  dL_law_799 ?_
  refine zr_sld (pc := 800)  ⟨by omega, by omega⟩ (by omega) dL_law_800 ?_
  refine zv_call3 (pc := 801)  cv_L_law_99 (by first | assumption | rfl | (repeat (first | assumption | exact zup_s | refine zup_g (by decide) ?_))) ⟨_, rfl, rfl⟩ (Nat.le_of_ble_eq_true rfl) (zhf rfl rfl hc hsl) dL_law_801 ?_
  refine k8 _ (fun h2 hS2 => ?_)
  dsimp only [Option.toList, List.cons_append, List.nil_append]
  refine zr_same (pc := 804) (tgt := 1176) (by decide) dL_law_804 ?_
  exact next h2 hS2
theorem lx_year {kk v : Int} {ou : Int → Int} (hS : lwT h kk ou) (hkk : kk = 0 ∨ kk = 1) (hou : kk = 0 → ou 0 = v) (hR : iR v ∨ True) (hi : 0 ≤ i ∧ i + 6 ≤ L) (hL : L ≤ 3072) (next : ∀ x5 x6 x7, zAW G mL_law (zSC b L xs G) lw_Z 1176 [some (.retAddr b), some (.ref 0), some (.ref 38), some (.ref 65), some (vi i), x5, x6, x7] [] n h c sl) : zAW G mL_law (zSC b L xs G) lw_Z 869 [some (.retAddr b), some (.ref 0), some (.ref 38), some (.ref 65), some (vi i), some (vi kk), some (vl v), none] [] n h c sl := by
  have o65 := hS.o65
  refine zr_iload (pc := 869)  rfl dL_law_869 ?_
  refine zr_if_ne (pc := 871)  (tgt := 885) ⟨by omega, by omega⟩ (by decide) dL_law_871 (fun q871 => ?_) (fun q871 => ?_)
  · refine zr_goto (pc := 885)  (tgt := 1176) (by decide) dL_law_885 ?_
    exact next _ _ _
  · refine zr_aload_n (pc := 874)  (i := 3) rfl rfl dL_law_874 ?_
    refine zr_iconst (pc := 875)  dL_law_875 ?_
    refine zr_lald (pc := 876)  (by first | assumption | rfl | (repeat (first | assumption | exact zup_s | refine zup_g (by decide) ?_))) ⟨by omega, by omega⟩ (by decide) dL_law_876 ?_
    refine zr_lload (pc := 877)  rfl dL_law_877 ?_
    rw [hou (by omega)]
    refine zr_lsame (pc := 879) (tgt := 885) (by decide) dL_law_879 dL_law_880 ?_
    refine zr_goto (pc := 885) (tgt := 1176) (by decide) dL_law_885 ?_
    exact next _ _ _
theorem lc_year (hG : (zgl G).stackTraces = false) (hS : lwS h) (hi : 0 ≤ i ∧ i + 6 ≤ L) (hL : L ≤ 3072) (hc : c ≤ 600000) (hsl : sl ≤ 7200000) (next : ∀ n' h' c' sl' x5 x6 x7, lwS h' → c' ≤ c + 1 → sl' ≤ sl + 6 → zAW G mL_law (zSC b L xs G) lw_Z 1176 [some (.retAddr b), some (.ref 0), some (.ref 38), some (.ref 65), some (vi i), x5, x6, x7] [] n' h' c' sl') : zAW G mL_law (zSC b L xs G) lw_Z 809 [some (.retAddr b), some (.ref 0), some (.ref 38), some (.ref 65), some (vi i), x5, x6, x7] [] n h c sl := by
  refine zr_aload_n (pc := 809)  (i := 1) rfl rfl dL_law_809 ?_
  refine zr_aload_nS (pc := 810)  (i := 0) rfl rfl dL_law_810 ?_
  refine zr_iload (pc := 811)  rfl dL_law_811 ?_
  refine zr_iconst (pc := 813)  dL_law_813 ?_
  refine zr_iadd (pc := 814)  dL_law_814 ?_
  refine zr_sld (pc := 815)  ⟨by omega, by omega⟩ (by omega) dL_law_815 ?_
  refine zr_aload_nS (pc := 816)  (i := 0) rfl rfl dL_law_816 ?_
  refine zr_iload (pc := 817)  rfl dL_law_817 ?_
  refine zr_iconst (pc := 819)  dL_law_819 ?_
  refine zr_iadd (pc := 820)  dL_law_820 ?_
  refine zr_sld (pc := 821)  ⟨by omega, by omega⟩ (by omega) dL_law_821 ?_
  refine zr_aload_nS (pc := 822)  (i := 0) rfl rfl dL_law_822 ?_
  refine zr_iload (pc := 823)  rfl dL_law_823 ?_
  refine zr_iconst (pc := 825)  dL_law_825 ?_
  refine zr_iadd (pc := 826)  dL_law_826 ?_
  refine zr_sld (pc := 827)  ⟨by omega, by omega⟩ (by omega) dL_law_827 ?_
  refine zr_aload_n (pc := 828)  (i := 3) rfl rfl dL_law_828 ?_
  refine zr_callSH (pc := 829) (As := [.ref 0, vi (xZ xs (i + 1)), vi (xZ xs (i + 2)), vi (xZ xs (i + 3)), .ref 65]) (st := []) lk_year_c lk_i lk_year_h (by decide) (by decide) lk_year_l lk_year_s rfl (Nat.le_of_ble_eq_true rfl) (by show c + 1 ≤ 601024 ∧ sl + 6 ≤ 7293034; omega) dL_law_829 (w_year hG hS (xZ_R _) (xZ_R _) (xZ_R _) (fun h1 n1 kk hkk k8 => ?_))
  obtain ⟨⟨fs1, o38⟩, k8⟩ := k8
  dsimp only [Option.toList, List.cons_append, List.nil_append]
  refine zs_istore_5 (pc := 832)  (by first | exact zn_i | exact zn_r | exact zn_0) (by decide) dL_law_832 ?_
  refine zr_aload_n (pc := 834)  (i := 2) rfl rfl dL_law_834 ?_
  refine zr_aload_nS (pc := 835)  (i := 0) rfl rfl dL_law_835 ?_
  refine zr_iload (pc := 836)  rfl dL_law_836 ?_
  refine zr_iconst (pc := 838)  dL_law_838 ?_
  refine zr_iadd (pc := 839)  dL_law_839 ?_
  refine zr_sld (pc := 840)  ⟨by omega, by omega⟩ (by omega) dL_law_840 ?_
  refine zr_aload_nS (pc := 841)  (i := 0) rfl rfl dL_law_841 ?_
  refine zr_iload (pc := 842)  rfl dL_law_842 ?_
  refine zr_iconst (pc := 844)  dL_law_844 ?_
  refine zr_iadd (pc := 845)  dL_law_845 ?_
  refine zr_sld (pc := 846)  ⟨by omega, by omega⟩ (by omega) dL_law_846 ?_
  refine zr_aload_nS (pc := 847)  (i := 0) rfl rfl dL_law_847 ?_
  refine zr_iload (pc := 848)  rfl dL_law_848 ?_
  refine zr_iconst (pc := 850)  dL_law_850 ?_
  refine zr_iadd (pc := 851)  dL_law_851 ?_
  refine zr_sld (pc := 852)  ⟨by omega, by omega⟩ (by omega) dL_law_852 ?_
  refine zv_call3 (pc := 853) cv_L_law_102 o38 ⟨_, rfl, rfl⟩ (Nat.le_of_ble_eq_true rfl) (by show c + 1 + 0 ≤ 601024 ∧ sl + 6 + 0 ≤ 7293034; omega) dL_law_853 ?_
  refine k8 _ (fun h2 v ou hT hou hRv => ?_)
  obtain ⟨len2, en2, now2, al2, pm2, pd2, sq2, up2, lw2, t38⟩ := hT.o38
  dsimp only [Option.toList, List.cons_append, List.nil_append]
  refine zs_lstore_6 (pc := 856)  (by first | exact zn_i | exact zn_r | exact zn_0) (by decide) dL_law_856 ?_
  refine zr_aload_n (pc := 858)  (i := 2) rfl rfl dL_law_858 ?_
  refine zv_call0 (pc := 859) cv_L_law_89 t38 ⟨_, rfl, rfl⟩ (Nat.le_of_ble_eq_true rfl) (by show c + 1 + 0 + 0 ≤ 601024 ∧ sl + 6 + 0 + 0 ≤ 7293034; omega) dL_law_859 ?_
  refine l_thrown t38 ?_
  dsimp only [Option.toList, List.cons_append, List.nil_append]
  refine zr_iload (pc := 862)  rfl dL_law_862 ?_
  refine zr_same (pc := 864) (tgt := 869) (by decide) dL_law_864 ?_
  exact lx_year hT hkk hou (Or.inr trivial) hi hL (fun x5 x6 x7 => next _ _ _ _ x5 x6 x7 ⟨_, _, hT⟩ (Nat.le_refl _) (Nat.le_refl _))
theorem lx_trial {kk v : Int} {ou : Int → Int} (hS : lwT h kk ou) (hkk : kk = 0 ∨ kk = 1) (hou : kk = 0 → ou 0 = v) (hR : iR v ∨ True) (hi : 0 ≤ i ∧ i + 6 ≤ L) (hL : L ≤ 3072) (next : ∀ x5 x6 x7, zAW G mL_law (zSC b L xs G) lw_Z 1176 [some (.retAddr b), some (.ref 0), some (.ref 38), some (.ref 65), some (vi i), x5, x6, x7] [] n h c sl) : zAW G mL_law (zSC b L xs G) lw_Z 948 [some (.retAddr b), some (.ref 0), some (.ref 38), some (.ref 65), some (vi i), some (vi kk), some (vl v), none] [] n h c sl := by
  have o65 := hS.o65
  refine zr_iload (pc := 948)  rfl dL_law_948 ?_
  refine zr_if_ne (pc := 950)  (tgt := 964) ⟨by omega, by omega⟩ (by decide) dL_law_950 (fun q950 => ?_) (fun q950 => ?_)
  · refine zr_goto (pc := 964)  (tgt := 1176) (by decide) dL_law_964 ?_
    exact next _ _ _
  · refine zr_aload_n (pc := 953)  (i := 3) rfl rfl dL_law_953 ?_
    refine zr_iconst (pc := 954)  dL_law_954 ?_
    refine zr_lald (pc := 955)  (by first | assumption | rfl | (repeat (first | assumption | exact zup_s | refine zup_g (by decide) ?_))) ⟨by omega, by omega⟩ (by decide) dL_law_955 ?_
    refine zr_lload (pc := 956)  rfl dL_law_956 ?_
    rw [hou (by omega)]
    refine zr_lsame (pc := 958) (tgt := 964) (by decide) dL_law_958 dL_law_959 ?_
    refine zr_goto (pc := 964) (tgt := 1176) (by decide) dL_law_964 ?_
    exact next _ _ _
theorem lc_trial (hG : (zgl G).stackTraces = false) (hS : lwS h) (hi : 0 ≤ i ∧ i + 6 ≤ L) (hL : L ≤ 3072) (hc : c ≤ 600000) (hsl : sl ≤ 7200000) (next : ∀ n' h' c' sl' x5 x6 x7, lwS h' → c' ≤ c + 1 → sl' ≤ sl + 6 → zAW G mL_law (zSC b L xs G) lw_Z 1176 [some (.retAddr b), some (.ref 0), some (.ref 38), some (.ref 65), some (vi i), x5, x6, x7] [] n' h' c' sl') : zAW G mL_law (zSC b L xs G) lw_Z 888 [some (.retAddr b), some (.ref 0), some (.ref 38), some (.ref 65), some (vi i), x5, x6, x7] [] n h c sl := by
  refine zr_aload_n (pc := 888)  (i := 1) rfl rfl dL_law_888 ?_
  refine zr_aload_nS (pc := 889)  (i := 0) rfl rfl dL_law_889 ?_
  refine zr_iload (pc := 890)  rfl dL_law_890 ?_
  refine zr_iconst (pc := 892)  dL_law_892 ?_
  refine zr_iadd (pc := 893)  dL_law_893 ?_
  refine zr_sld (pc := 894)  ⟨by omega, by omega⟩ (by omega) dL_law_894 ?_
  refine zr_aload_nS (pc := 895)  (i := 0) rfl rfl dL_law_895 ?_
  refine zr_iload (pc := 896)  rfl dL_law_896 ?_
  refine zr_iconst (pc := 898)  dL_law_898 ?_
  refine zr_iadd (pc := 899)  dL_law_899 ?_
  refine zr_sld (pc := 900)  ⟨by omega, by omega⟩ (by omega) dL_law_900 ?_
  refine zr_aload_nS (pc := 901)  (i := 0) rfl rfl dL_law_901 ?_
  refine zr_iload (pc := 902)  rfl dL_law_902 ?_
  refine zr_iconst (pc := 904)  dL_law_904 ?_
  refine zr_iadd (pc := 905)  dL_law_905 ?_
  refine zr_sld (pc := 906)  ⟨by omega, by omega⟩ (by omega) dL_law_906 ?_
  refine zr_aload_n (pc := 907)  (i := 3) rfl rfl dL_law_907 ?_
  refine zr_callSH (pc := 908) (As := [.ref 0, vi (xZ xs (i + 1)), vi (xZ xs (i + 2)), vi (xZ xs (i + 3)), .ref 65]) (st := []) lk_trial_c lk_i lk_trial_h (by decide) (by decide) lk_trial_l lk_trial_s rfl (Nat.le_of_ble_eq_true rfl) (by show c + 1 ≤ 601024 ∧ sl + 6 ≤ 7293034; omega) dL_law_908 (w_trial hG hS (xZ_R _) (xZ_R _) (xZ_R _) (fun h1 n1 kk hkk k8 => ?_))
  obtain ⟨⟨fs1, o38⟩, k8⟩ := k8
  dsimp only [Option.toList, List.cons_append, List.nil_append]
  refine zs_istore_5 (pc := 911)  (by first | exact zn_i | exact zn_r | exact zn_0) (by decide) dL_law_911 ?_
  refine zr_aload_n (pc := 913)  (i := 2) rfl rfl dL_law_913 ?_
  refine zr_aload_nS (pc := 914)  (i := 0) rfl rfl dL_law_914 ?_
  refine zr_iload (pc := 915)  rfl dL_law_915 ?_
  refine zr_iconst (pc := 917)  dL_law_917 ?_
  refine zr_iadd (pc := 918)  dL_law_918 ?_
  refine zr_sld (pc := 919)  ⟨by omega, by omega⟩ (by omega) dL_law_919 ?_
  refine zr_aload_nS (pc := 920)  (i := 0) rfl rfl dL_law_920 ?_
  refine zr_iload (pc := 921)  rfl dL_law_921 ?_
  refine zr_iconst (pc := 923)  dL_law_923 ?_
  refine zr_iadd (pc := 924)  dL_law_924 ?_
  refine zr_sld (pc := 925)  ⟨by omega, by omega⟩ (by omega) dL_law_925 ?_
  refine zr_aload_nS (pc := 926)  (i := 0) rfl rfl dL_law_926 ?_
  refine zr_iload (pc := 927)  rfl dL_law_927 ?_
  refine zr_iconst (pc := 929)  dL_law_929 ?_
  refine zr_iadd (pc := 930)  dL_law_930 ?_
  refine zr_sld (pc := 931)  ⟨by omega, by omega⟩ (by omega) dL_law_931 ?_
  refine zv_call3 (pc := 932) cv_L_law_105 o38 ⟨_, rfl, rfl⟩ (Nat.le_of_ble_eq_true rfl) (by show c + 1 + 0 ≤ 601024 ∧ sl + 6 + 0 ≤ 7293034; omega) dL_law_932 ?_
  refine k8 _ (fun h2 v ou hT hou hRv => ?_)
  obtain ⟨len2, en2, now2, al2, pm2, pd2, sq2, up2, lw2, t38⟩ := hT.o38
  dsimp only [Option.toList, List.cons_append, List.nil_append]
  refine zs_lstore_6 (pc := 935)  (by first | exact zn_i | exact zn_r | exact zn_0) (by decide) dL_law_935 ?_
  refine zr_aload_n (pc := 937)  (i := 2) rfl rfl dL_law_937 ?_
  refine zv_call0 (pc := 938) cv_L_law_89 t38 ⟨_, rfl, rfl⟩ (Nat.le_of_ble_eq_true rfl) (by show c + 1 + 0 + 0 ≤ 601024 ∧ sl + 6 + 0 + 0 ≤ 7293034; omega) dL_law_938 ?_
  refine l_thrown t38 ?_
  dsimp only [Option.toList, List.cons_append, List.nil_append]
  refine zr_iload (pc := 941)  rfl dL_law_941 ?_
  refine zr_same (pc := 943) (tgt := 948) (by decide) dL_law_943 ?_
  exact lx_trial hT hkk hou (Or.inr trivial) hi hL (fun x5 x6 x7 => next _ _ _ _ x5 x6 x7 ⟨_, _, hT⟩ (Nat.le_refl _) (Nat.le_refl _))
theorem lc_flow (hS : lwS h) (hi : 0 ≤ i ∧ i + 6 ≤ L) (hL : L ≤ 3072) (hc : c ≤ 600000) (hsl : sl ≤ 7200000) (next : ∀ h', lwS h' → zAW G mL_law (zSC b L xs G) lw_Z 1176 [some (.retAddr b), some (.ref 0), some (.ref 38), some (.ref 65), some (vi i), x5, x6, x7] [] n h' c sl) : zAW G mL_law (zSC b L xs G) lw_Z 967 [some (.retAddr b), some (.ref 0), some (.ref 38), some (.ref 65), some (vi i), x5, x6, x7] [] n h c sl := by
  obtain ⟨fs0, o0⟩ := hS.o0
  refine zr_aload_n (pc := 967)  (i := 1) rfl rfl dL_law_967 ?_
  refine zr_aload_nS (pc := 968)  (i := 0) rfl rfl dL_law_968 ?_
  refine zr_iload (pc := 969)  rfl dL_law_969 ?_
  refine zr_iconst (pc := 971)  dL_law_971 ?_
  refine zr_iadd (pc := 972)  dL_law_972 ?_
  refine zr_sld (pc := 973)  ⟨by omega, by omega⟩ (by omega) dL_law_973 ?_
  refine zr_aload_nS (pc := 974)  (i := 0) rfl rfl dL_law_974 ?_
  refine zr_iload (pc := 975)  rfl dL_law_975 ?_
  refine zr_iconst (pc := 977)  dL_law_977 ?_
  refine zr_iadd (pc := 978)  dL_law_978 ?_
  refine zr_sld (pc := 979)  ⟨by omega, by omega⟩ (by omega) dL_law_979 ?_
  refine zv_call2 (pc := 980)  cv_L_law_106 (by first | assumption | rfl | (repeat (first | assumption | exact zup_s | refine zup_g (by decide) ?_))) ⟨_, rfl, rfl⟩ (Nat.le_of_ble_eq_true rfl) (zhf rfl rfl hc hsl) dL_law_980 ?_
  refine p_flow hS (xZ_R _) (xZ_R _) (fun h1 v k8 => ?_)
  obtain ⟨⟨fs1, o38⟩, k8⟩ := k8
  dsimp only [Option.toList, List.cons_append, List.nil_append]
  refine zr_aload_n (pc := 983)  (i := 2) rfl rfl dL_law_983 ?_
  refine zr_aload_nS (pc := 984)  (i := 0) rfl rfl dL_law_984 ?_
  refine zr_iload (pc := 985)  rfl dL_law_985 ?_
  refine zr_iconst (pc := 987)  dL_law_987 ?_
  refine zr_iadd (pc := 988)  dL_law_988 ?_
  refine zr_sld (pc := 989)  ⟨by omega, by omega⟩ (by omega) dL_law_989 ?_
  refine zr_aload_nS (pc := 990)  (i := 0) rfl rfl dL_law_990 ?_
  refine zr_iload (pc := 991)  rfl dL_law_991 ?_
  refine zr_iconst (pc := 993)  dL_law_993 ?_
  refine zr_iadd (pc := 994)  dL_law_994 ?_
  refine zr_sld (pc := 995)  ⟨by omega, by omega⟩ (by omega) dL_law_995 ?_
  refine zv_call2 (pc := 996)  cv_L_law_109 (by first | assumption | rfl | (repeat (first | assumption | exact zup_s | refine zup_g (by decide) ?_))) ⟨_, rfl, rfl⟩ (Nat.le_of_ble_eq_true rfl) (zhf rfl rfl hc hsl) dL_law_996 ?_
  refine k8 _ (fun h2 hS2 => ?_)
  dsimp only [Option.toList, List.cons_append, List.nil_append]
  refine zr_same (pc := 999) (tgt := 1176) (by decide) dL_law_999 ?_
  exact next h2 hS2
theorem lx_missing {kk v : Int} {ou : Int → Int} (hS : lwT h kk ou) (hkk : kk = 0 ∨ kk = 1) (hou : kk = 0 → ou 0 = v) (hR : iR v ∨ False) (hi : 0 ≤ i ∧ i + 6 ≤ L) (hL : L ≤ 3072) (next : ∀ x5 x6 x7, zAW G mL_law (zSC b L xs G) lw_Z 1176 [some (.retAddr b), some (.ref 0), some (.ref 38), some (.ref 65), some (vi i), x5, x6, x7] [] n h c sl) : zAW G mL_law (zSC b L xs G) lw_Z 1052 [some (.retAddr b), some (.ref 0), some (.ref 38), some (.ref 65), some (vi i), some (vi kk), some (vi v), x7] [] n h c sl := by
  have o65 := hS.o65
  have hR : iR v := hR.resolve_right id
  refine zr_iload (pc := 1052)  rfl dL_law_1052 ?_
  refine zr_if_ne (pc := 1054)  (tgt := 1069) ⟨by omega, by omega⟩ (by decide) dL_law_1054 (fun q1054 => ?_) (fun q1054 => ?_)
  · refine zr_goto (pc := 1069)  (tgt := 1176) (by decide) dL_law_1069 ?_
    exact next _ _ _
  · refine zr_aload_n (pc := 1057)  (i := 3) rfl rfl dL_law_1057 ?_
    refine zr_iconst (pc := 1058)  dL_law_1058 ?_
    refine zr_lald (pc := 1059)  (by first | assumption | rfl | (repeat (first | assumption | exact zup_s | refine zup_g (by decide) ?_))) ⟨by omega, by omega⟩ (by decide) dL_law_1059 ?_
    refine zr_iload (pc := 1060)  rfl dL_law_1060 ?_
    refine zr_i2l (pc := 1062)  ⟨by omega, by omega⟩ dL_law_1062 ?_
    rw [hou (by omega)]
    refine zr_lsame (pc := 1063) (tgt := 1069) (by decide) dL_law_1063 dL_law_1064 ?_
    refine zr_goto (pc := 1069) (tgt := 1176) (by decide) dL_law_1069 ?_
    exact next _ _ _
theorem lc_missing (hG : (zgl G).stackTraces = false) (hS : lwS h) (hi : 0 ≤ i ∧ i + 6 ≤ L) (hL : L ≤ 3072) (hc : c ≤ 600000) (hsl : sl ≤ 7200000) (next : ∀ n' h' c' sl' x5 x6 x7, lwS h' → c' ≤ c + 1 → sl' ≤ sl + 6 → zAW G mL_law (zSC b L xs G) lw_Z 1176 [some (.retAddr b), some (.ref 0), some (.ref 38), some (.ref 65), some (vi i), x5, x6, x7] [] n' h' c' sl') : zAW G mL_law (zSC b L xs G) lw_Z 1004 [some (.retAddr b), some (.ref 0), some (.ref 38), some (.ref 65), some (vi i), x5, x6, x7] [] n h c sl := by
  refine zr_aload_n (pc := 1004)  (i := 1) rfl rfl dL_law_1004 ?_
  refine zr_aload_nS (pc := 1005)  (i := 0) rfl rfl dL_law_1005 ?_
  refine zr_iload (pc := 1006)  rfl dL_law_1006 ?_
  refine zr_iconst (pc := 1008)  dL_law_1008 ?_
  refine zr_iadd (pc := 1009)  dL_law_1009 ?_
  refine zr_sld (pc := 1010)  ⟨by omega, by omega⟩ (by omega) dL_law_1010 ?_
  refine zr_aload_nS (pc := 1011)  (i := 0) rfl rfl dL_law_1011 ?_
  refine zr_iload (pc := 1012)  rfl dL_law_1012 ?_
  refine zr_iconst (pc := 1014)  dL_law_1014 ?_
  refine zr_iadd (pc := 1015)  dL_law_1015 ?_
  refine zr_sld (pc := 1016)  ⟨by omega, by omega⟩ (by omega) dL_law_1016 ?_
  refine zr_aload_n (pc := 1017)  (i := 3) rfl rfl dL_law_1017 ?_
  refine zr_callSH (pc := 1018) (As := [.ref 0, vi (xZ xs (i + 1)), vi (xZ xs (i + 2)), .ref 65]) (st := []) lk_missing_c lk_i lk_missing_h (by decide) (by decide) lk_missing_l lk_missing_s rfl (Nat.le_of_ble_eq_true rfl) (by show c + 1 ≤ 601024 ∧ sl + 6 ≤ 7293034; omega) dL_law_1018 (w_missing hG hS (xZ_R _) (xZ_R _) (fun h1 n1 kk hkk k8 => ?_))
  obtain ⟨⟨fs1, o38⟩, k8⟩ := k8
  dsimp only [Option.toList, List.cons_append, List.nil_append]
  refine zs_istore_5 (pc := 1021)  (by first | exact zn_i | exact zn_r | exact zn_0) (by decide) dL_law_1021 ?_
  refine zr_aload_n (pc := 1023)  (i := 2) rfl rfl dL_law_1023 ?_
  refine zr_aload_nS (pc := 1024)  (i := 0) rfl rfl dL_law_1024 ?_
  refine zr_iload (pc := 1025)  rfl dL_law_1025 ?_
  refine zr_iconst (pc := 1027)  dL_law_1027 ?_
  refine zr_iadd (pc := 1028)  dL_law_1028 ?_
  refine zr_sld (pc := 1029)  ⟨by omega, by omega⟩ (by omega) dL_law_1029 ?_
  refine zr_aload_nS (pc := 1030)  (i := 0) rfl rfl dL_law_1030 ?_
  refine zr_iload (pc := 1031)  rfl dL_law_1031 ?_
  refine zr_iconst (pc := 1033)  dL_law_1033 ?_
  refine zr_iadd (pc := 1034)  dL_law_1034 ?_
  refine zr_sld (pc := 1035)  ⟨by omega, by omega⟩ (by omega) dL_law_1035 ?_
  refine zv_call2 (pc := 1036) cv_L_law_113 o38 ⟨_, rfl, rfl⟩ (Nat.le_of_ble_eq_true rfl) (by show c + 1 + 0 ≤ 601024 ∧ sl + 6 + 0 ≤ 7293034; omega) dL_law_1036 ?_
  refine k8 _ (fun h2 v ou hT hou hRv => ?_)
  obtain ⟨len2, en2, now2, al2, pm2, pd2, sq2, up2, lw2, t38⟩ := hT.o38
  dsimp only [Option.toList, List.cons_append, List.nil_append]
  refine zs_istore_6 (pc := 1039)  (by first | exact zn_i | exact zn_r | exact zn_0) (by decide) dL_law_1039 ?_
  refine zr_aload_n (pc := 1041)  (i := 2) rfl rfl dL_law_1041 ?_
  refine zv_call0 (pc := 1042) cv_L_law_89 t38 ⟨_, rfl, rfl⟩ (Nat.le_of_ble_eq_true rfl) (by show c + 1 + 0 + 0 ≤ 601024 ∧ sl + 6 + 0 + 0 ≤ 7293034; omega) dL_law_1042 ?_
  refine l_thrown t38 ?_
  dsimp only [Option.toList, List.cons_append, List.nil_append]
  refine zr_iload (pc := 1045)  rfl dL_law_1045 ?_
  refine zr_same (pc := 1047) (tgt := 1052) (by decide) dL_law_1047 ?_
  exact lx_missing hT hkk hou (Or.inl (hRv rfl)) hi hL (fun x5 x6 x7 => next _ _ _ _ x5 x6 x7 ⟨_, _, hT⟩ (Nat.le_refl _) (Nat.le_refl _))
theorem lx_agreed {kk v : Int} {ou : Int → Int} (hS : lwT h kk ou) (hkk : kk = 0 ∨ kk = 1) (hou : kk = 0 → ou 0 = v) (hR : iR v ∨ True) (hi : 0 ≤ i ∧ i + 6 ≤ L) (hL : L ≤ 3072) (next : ∀ x5 x6 x7, zAW G mL_law (zSC b L xs G) lw_Z 1176 [some (.retAddr b), some (.ref 0), some (.ref 38), some (.ref 65), some (vi i), x5, x6, x7] [] n h c sl) : zAW G mL_law (zSC b L xs G) lw_Z 1132 [some (.retAddr b), some (.ref 0), some (.ref 38), some (.ref 65), some (vi i), some (vi kk), some (vl v), none] [] n h c sl := by
  have o65 := hS.o65
  refine zr_iload (pc := 1132)  rfl dL_law_1132 ?_
  refine zr_if_ne (pc := 1134)  (tgt := 1148) ⟨by omega, by omega⟩ (by decide) dL_law_1134 (fun q1134 => ?_) (fun q1134 => ?_)
  · refine zr_goto (pc := 1148)  (tgt := 1176) (by decide) dL_law_1148 ?_
    exact next _ _ _
  · refine zr_aload_n (pc := 1137)  (i := 3) rfl rfl dL_law_1137 ?_
    refine zr_iconst (pc := 1138)  dL_law_1138 ?_
    refine zr_lald (pc := 1139)  (by first | assumption | rfl | (repeat (first | assumption | exact zup_s | refine zup_g (by decide) ?_))) ⟨by omega, by omega⟩ (by decide) dL_law_1139 ?_
    refine zr_lload (pc := 1140)  rfl dL_law_1140 ?_
    rw [hou (by omega)]
    refine zr_lsame (pc := 1142) (tgt := 1148) (by decide) dL_law_1142 dL_law_1143 ?_
    refine zr_goto (pc := 1148) (tgt := 1176) (by decide) dL_law_1148 ?_
    exact next _ _ _
theorem lc_agreed (hG : (zgl G).stackTraces = false) (hS : lwS h) (hi : 0 ≤ i ∧ i + 6 ≤ L) (hL : L ≤ 3072) (hc : c ≤ 600000) (hsl : sl ≤ 7200000) (next : ∀ n' h' c' sl' x5 x6 x7, lwS h' → c' ≤ c + 1 → sl' ≤ sl + 6 → zAW G mL_law (zSC b L xs G) lw_Z 1176 [some (.retAddr b), some (.ref 0), some (.ref 38), some (.ref 65), some (vi i), x5, x6, x7] [] n' h' c' sl') : zAW G mL_law (zSC b L xs G) lw_Z 1072 [some (.retAddr b), some (.ref 0), some (.ref 38), some (.ref 65), some (vi i), x5, x6, x7] [] n h c sl := by
  refine zr_aload_n (pc := 1072)  (i := 1) rfl rfl dL_law_1072 ?_
  refine zr_aload_nS (pc := 1073)  (i := 0) rfl rfl dL_law_1073 ?_
  refine zr_iload (pc := 1074)  rfl dL_law_1074 ?_
  refine zr_iconst (pc := 1076)  dL_law_1076 ?_
  refine zr_iadd (pc := 1077)  dL_law_1077 ?_
  refine zr_sld (pc := 1078)  ⟨by omega, by omega⟩ (by omega) dL_law_1078 ?_
  refine zr_aload_nS (pc := 1079)  (i := 0) rfl rfl dL_law_1079 ?_
  refine zr_iload (pc := 1080)  rfl dL_law_1080 ?_
  refine zr_iconst (pc := 1082)  dL_law_1082 ?_
  refine zr_iadd (pc := 1083)  dL_law_1083 ?_
  refine zr_sld (pc := 1084)  ⟨by omega, by omega⟩ (by omega) dL_law_1084 ?_
  refine zr_aload_nS (pc := 1085)  (i := 0) rfl rfl dL_law_1085 ?_
  refine zr_iload (pc := 1086)  rfl dL_law_1086 ?_
  refine zr_iconst (pc := 1088)  dL_law_1088 ?_
  refine zr_iadd (pc := 1089)  dL_law_1089 ?_
  refine zr_sld (pc := 1090)  ⟨by omega, by omega⟩ (by omega) dL_law_1090 ?_
  refine zr_aload_n (pc := 1091)  (i := 3) rfl rfl dL_law_1091 ?_
  refine zr_callSH (pc := 1092) (As := [.ref 0, vi (xZ xs (i + 1)), vi (xZ xs (i + 2)), vi (xZ xs (i + 3)), .ref 65]) (st := []) lk_agreed_c lk_i lk_agreed_h (by decide) (by decide) lk_agreed_l lk_agreed_s rfl (Nat.le_of_ble_eq_true rfl) (by show c + 1 ≤ 601024 ∧ sl + 6 ≤ 7293034; omega) dL_law_1092 (w_agreed hG hS (xZ_R _) (xZ_R _) (xZ_R _) (fun h1 n1 kk hkk k8 => ?_))
  obtain ⟨⟨fs1, o38⟩, k8⟩ := k8
  dsimp only [Option.toList, List.cons_append, List.nil_append]
  refine zs_istore_5 (pc := 1095)  (by first | exact zn_i | exact zn_r | exact zn_0) (by decide) dL_law_1095 ?_
  refine zr_aload_n (pc := 1097)  (i := 2) rfl rfl dL_law_1097 ?_
  refine zr_aload_nS (pc := 1098)  (i := 0) rfl rfl dL_law_1098 ?_
  refine zr_iload (pc := 1099)  rfl dL_law_1099 ?_
  refine zr_iconst (pc := 1101)  dL_law_1101 ?_
  refine zr_iadd (pc := 1102)  dL_law_1102 ?_
  refine zr_sld (pc := 1103)  ⟨by omega, by omega⟩ (by omega) dL_law_1103 ?_
  refine zr_aload_nS (pc := 1104)  (i := 0) rfl rfl dL_law_1104 ?_
  refine zr_iload (pc := 1105)  rfl dL_law_1105 ?_
  refine zr_iconst (pc := 1107)  dL_law_1107 ?_
  refine zr_iadd (pc := 1108)  dL_law_1108 ?_
  refine zr_sld (pc := 1109)  ⟨by omega, by omega⟩ (by omega) dL_law_1109 ?_
  refine zr_aload_nS (pc := 1110)  (i := 0) rfl rfl dL_law_1110 ?_
  refine zr_iload (pc := 1111)  rfl dL_law_1111 ?_
  refine zr_iconst (pc := 1113)  dL_law_1113 ?_
  refine zr_iadd (pc := 1114)  dL_law_1114 ?_
  refine zr_sld (pc := 1115)  ⟨by omega, by omega⟩ (by omega) dL_law_1115 ?_
  refine zv_call3 (pc := 1116) cv_L_law_116 o38 ⟨_, rfl, rfl⟩ (Nat.le_of_ble_eq_true rfl) (by show c + 1 + 0 ≤ 601024 ∧ sl + 6 + 0 ≤ 7293034; omega) dL_law_1116 ?_
  refine k8 _ (fun h2 v ou hT hou hRv => ?_)
  obtain ⟨len2, en2, now2, al2, pm2, pd2, sq2, up2, lw2, t38⟩ := hT.o38
  dsimp only [Option.toList, List.cons_append, List.nil_append]
  refine zs_lstore_6 (pc := 1119)  (by first | exact zn_i | exact zn_r | exact zn_0) (by decide) dL_law_1119 ?_
  refine zr_aload_n (pc := 1121)  (i := 2) rfl rfl dL_law_1121 ?_
  refine zv_call0 (pc := 1122) cv_L_law_89 t38 ⟨_, rfl, rfl⟩ (Nat.le_of_ble_eq_true rfl) (by show c + 1 + 0 + 0 ≤ 601024 ∧ sl + 6 + 0 + 0 ≤ 7293034; omega) dL_law_1122 ?_
  refine l_thrown t38 ?_
  dsimp only [Option.toList, List.cons_append, List.nil_append]
  refine zr_iload (pc := 1125)  rfl dL_law_1125 ?_
  refine zr_same (pc := 1127) (tgt := 1132) (by decide) dL_law_1127 ?_
  exact lx_agreed hT hkk hou (Or.inr trivial) hi hL (fun x5 x6 x7 => next _ _ _ _ x5 x6 x7 ⟨_, _, hT⟩ (Nat.le_refl _) (Nat.le_refl _))
theorem lc_told (hS : lwS h) (hi : 0 ≤ i ∧ i + 6 ≤ L) (hL : L ≤ 3072) (hc : c ≤ 600000) (hsl : sl ≤ 7200000) (next : ∀ h', lwS h' → zAW G mL_law (zSC b L xs G) lw_Z 1176 [some (.retAddr b), some (.ref 0), some (.ref 38), some (.ref 65), some (vi i), x5, x6, x7] [] n h' c sl) : zAW G mL_law (zSC b L xs G) lw_Z 1151 [some (.retAddr b), some (.ref 0), some (.ref 38), some (.ref 65), some (vi i), x5, x6, x7] [] n h c sl := by
  obtain ⟨fs0, o0⟩ := hS.o0
  refine zr_aload_n (pc := 1151)  (i := 1) rfl rfl dL_law_1151 ?_
  refine zr_aload_nS (pc := 1152)  (i := 0) rfl rfl dL_law_1152 ?_
  refine zr_iload (pc := 1153)  rfl dL_law_1153 ?_
  refine zr_iconst (pc := 1155)  dL_law_1155 ?_
  refine zr_iadd (pc := 1156)  dL_law_1156 ?_
  refine zr_sld (pc := 1157)  ⟨by omega, by omega⟩ (by omega) dL_law_1157 ?_
  refine zv_call1 (pc := 1158)  cv_L_law_117 (by first | assumption | rfl | (repeat (first | assumption | exact zup_s | refine zup_g (by decide) ?_))) ⟨_, rfl, rfl⟩ (Nat.le_of_ble_eq_true rfl) (zhf rfl rfl hc hsl) dL_law_1158 ?_
  refine p_told hS (xZ_R _) (fun h1 v k8 => ?_)
  obtain ⟨⟨fs1, o38⟩, k8⟩ := k8
  dsimp only [Option.toList, List.cons_append, List.nil_append]
  refine zr_aload_n (pc := 1161)  (i := 2) rfl rfl dL_law_1161 ?_
  refine zr_aload_nS (pc := 1162)  (i := 0) rfl rfl dL_law_1162 ?_
  refine zr_iload (pc := 1163)  rfl dL_law_1163 ?_
  refine zr_iconst (pc := 1165)  dL_law_1165 ?_
  refine zr_iadd (pc := 1166)  dL_law_1166 ?_
  refine zr_sld (pc := 1167)  ⟨by omega, by omega⟩ (by omega) dL_law_1167 ?_
  refine zv_call1 (pc := 1168)  cv_L_law_121 (by first | assumption | rfl | (repeat (first | assumption | exact zup_s | refine zup_g (by decide) ?_))) ⟨_, rfl, rfl⟩ (Nat.le_of_ble_eq_true rfl) (zhf rfl rfl hc hsl) dL_law_1168 ?_
  refine k8 _ (fun h2 hS2 => ?_)
  dsimp only [Option.toList, List.cons_append, List.nil_append]
  refine zr_same (pc := 1171) (tgt := 1176) (by decide) dL_law_1171 ?_
  exact next h2 hS2
end LAW
