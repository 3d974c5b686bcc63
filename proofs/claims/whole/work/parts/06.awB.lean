section ZB
variable {G : zG} {M : zM} {XF : Array Value → State → Code → Prop} {QF : List Frame → Array Value → State → State → Prop} {pc : Nat} {lo : List (Option Value)} {st : List Value} {n : Nat} {h : zH} {c sl : Nat}
theorem zr_iadd {a b : Int} (hd : decode M.2.1 pc = .ok (.iadd, 1))
    (k : zAW G M XF QF (pc + 1) lo (vi (a + b) :: st) n h c sl) : zAW G M XF QF pc lo (vi b :: vi a :: st) n h c sl := by
  intro p e s m args below meth cd F H locs ls hz hw hs hl
  refine lv_iadd F.1 F.2.1 hd ?_
  rw [iZ_add]
  exact k p e s m args below meth cd F H locs ls hz hw hs hl
theorem zr_isub {a b : Int} (hd : decode M.2.1 pc = .ok (.isub, 1))
    (k : zAW G M XF QF (pc + 1) lo (vi (a - b) :: st) n h c sl) : zAW G M XF QF pc lo (vi b :: vi a :: st) n h c sl := by
  intro p e s m args below meth cd F H locs ls hz hw hs hl
  refine lv_isub F.1 F.2.1 hd ?_
  rw [iZ_sub]
  exact k p e s m args below meth cd F H locs ls hz hw hs hl
theorem zr_imul {a b : Int} (hd : decode M.2.1 pc = .ok (.imul, 1))
    (k : zAW G M XF QF (pc + 1) lo (vi (a * b) :: st) n h c sl) : zAW G M XF QF pc lo (vi b :: vi a :: st) n h c sl := by
  intro p e s m args below meth cd F H locs ls hz hw hs hl
  refine lv_imul F.1 F.2.1 hd ?_
  rw [iZ_mul]
  exact k p e s m args below meth cd F H locs ls hz hw hs hl
theorem zr_ladd {a b : Int} (hd : decode M.2.1 pc = .ok (.ladd, 1))
    (k : zAW G M XF QF (pc + 1) lo (vl (a + b) :: st) n h c sl) : zAW G M XF QF pc lo (vl b :: vl a :: st) n h c sl := by
  intro p e s m args below meth cd F H locs ls hz hw hs hl
  refine lv_ladd F.1 F.2.1 hd ?_
  rw [lZ_add]
  exact k p e s m args below meth cd F H locs ls hz hw hs hl
theorem zr_lsub {a b : Int} (hd : decode M.2.1 pc = .ok (.lsub, 1))
    (k : zAW G M XF QF (pc + 1) lo (vl (a - b) :: st) n h c sl) : zAW G M XF QF pc lo (vl b :: vl a :: st) n h c sl := by
  intro p e s m args below meth cd F H locs ls hz hw hs hl
  refine lv_lsub F.1 F.2.1 hd ?_
  rw [lZ_sub]
  exact k p e s m args below meth cd F H locs ls hz hw hs hl
theorem zr_lmul {a b : Int} (hd : decode M.2.1 pc = .ok (.lmul, 1))
    (k : zAW G M XF QF (pc + 1) lo (vl (a * b) :: st) n h c sl) : zAW G M XF QF pc lo (vl b :: vl a :: st) n h c sl := by
  intro p e s m args below meth cd F H locs ls hz hw hs hl
  refine lv_lmul F.1 F.2.1 hd ?_
  rw [lZ_mul]
  exact k p e s m args below meth cd F H locs ls hz hw hs hl
theorem zr_idiv {a b : Int} (ha : iR a) (hb : iR b) (h0 : b ≠ 0) (hd : decode M.2.1 pc = .ok (.idiv, 1))
    (k : zAW G M XF QF (pc + 1) lo (vi (a.tdiv b) :: st) n h c sl) : zAW G M XF QF pc lo (vi b :: vi a :: st) n h c sl := by
  intro p e s m args below meth cd F H locs ls hz hw hs hl
  refine lv_idiv F.1 F.2.1 hd (iZ_ne0 hb h0) ?_
  rw [iZ_div ha hb]
  exact k p e s m args below meth cd F H locs ls hz hw hs hl
theorem zr_irem {a b : Int} (ha : iR a) (hb : iR b) (h0 : b ≠ 0) (hd : decode M.2.1 pc = .ok (.irem, 1))
    (k : zAW G M XF QF (pc + 1) lo (vi (a.tmod b) :: st) n h c sl) : zAW G M XF QF pc lo (vi b :: vi a :: st) n h c sl := by
  intro p e s m args below meth cd F H locs ls hz hw hs hl
  refine lv_irem F.1 F.2.1 hd (iZ_ne0 hb h0) ?_
  rw [iZ_rem ha hb]
  exact k p e s m args below meth cd F H locs ls hz hw hs hl
theorem zr_ldiv {a b : Int} (ha : lR a) (hb : lR b) (h0 : b ≠ 0) (hd : decode M.2.1 pc = .ok (.ldiv, 1))
    (k : zAW G M XF QF (pc + 1) lo (vl (a.tdiv b) :: st) n h c sl) : zAW G M XF QF pc lo (vl b :: vl a :: st) n h c sl := by
  intro p e s m args below meth cd F H locs ls hz hw hs hl
  refine lv_ldiv F.1 F.2.1 hd (lZ_ne0 hb h0) ?_
  rw [lZ_div ha hb]
  exact k p e s m args below meth cd F H locs ls hz hw hs hl
theorem zr_lrem {a b : Int} (ha : lR a) (hb : lR b) (h0 : b ≠ 0) (hd : decode M.2.1 pc = .ok (.lrem, 1))
    (k : zAW G M XF QF (pc + 1) lo (vl (a.tmod b) :: st) n h c sl) : zAW G M XF QF pc lo (vl b :: vl a :: st) n h c sl := by
  intro p e s m args below meth cd F H locs ls hz hw hs hl
  refine lv_lrem F.1 F.2.1 hd (lZ_ne0 hb h0) ?_
  rw [lZ_rem ha hb]
  exact k p e s m args below meth cd F H locs ls hz hw hs hl
theorem zr_ineg {a : Int} (hd : decode M.2.1 pc = .ok (.ineg, 1))
    (k : zAW G M XF QF (pc + 1) lo (vi (-a) :: st) n h c sl) : zAW G M XF QF pc lo (vi a :: st) n h c sl := by
  intro p e s m args below meth cd F H locs ls hz hw hs hl
  refine lv_ineg F.1 F.2.1 hd ?_
  rw [iZ_neg]
  exact k p e s m args below meth cd F H locs ls hz hw hs hl
theorem zr_lneg {a : Int} (hd : decode M.2.1 pc = .ok (.lneg, 1))
    (k : zAW G M XF QF (pc + 1) lo (vl (-a) :: st) n h c sl) : zAW G M XF QF pc lo (vl a :: st) n h c sl := by
  intro p e s m args below meth cd F H locs ls hz hw hs hl
  refine lv_lneg F.1 F.2.1 hd ?_
  rw [lZ_neg]
  exact k p e s m args below meth cd F H locs ls hz hw hs hl
theorem zr_i2l {a : Int} (ha : iR a) (hd : decode M.2.1 pc = .ok (.i2l, 1))
    (k : zAW G M XF QF (pc + 1) lo (vl a :: st) n h c sl) : zAW G M XF QF pc lo (vi a :: st) n h c sl := by
  intro p e s m args below meth cd F H locs ls hz hw hs hl
  exact lv_i2l F.1 F.2.1 hd (iZ_l ha) (k p e s m args below meth cd F H locs ls hz hw hs hl)
theorem zr_l2i {a : Int} (hd : decode M.2.1 pc = .ok (.l2i, 1))
    (k : zAW G M XF QF (pc + 1) lo (vi a :: st) n h c sl) : zAW G M XF QF pc lo (vl a :: st) n h c sl := by
  intro p e s m args below meth cd F H locs ls hz hw hs hl
  exact lv_l2i F.1 F.2.1 hd (lZ_i a) (k p e s m args below meth cd F H locs ls hz hw hs hl)
theorem zr_i2b {x : Int32} {z : Int} (hv : x.toInt8.toInt32 = iZ z) (hd : decode M.2.1 pc = .ok (.i2b, 1))
    (k : zAW G M XF QF (pc + 1) lo (vi z :: st) n h c sl) : zAW G M XF QF pc lo (.int x :: st) n h c sl := by
  intro p e s m args below meth cd F H locs ls hz hw hs hl
  exact lv_i2b F.1 F.2.1 hd hv (k p e s m args below meth cd F H locs ls hz hw hs hl)
theorem zr_iand {x y : Int32} {z : Int} (hv : x &&& y = iZ z) (hd : decode M.2.1 pc = .ok (.iand, 1))
    (k : zAW G M XF QF (pc + 1) lo (vi z :: st) n h c sl) : zAW G M XF QF pc lo (.int y :: .int x :: st) n h c sl := by
  intro p e s m args below meth cd F H locs ls hz hw hs hl
  refine lv_iand F.1 F.2.1 hd ?_
  rw [hv]
  exact k p e s m args below meth cd F H locs ls hz hw hs hl
theorem zr_ishr {x y : Int32} (hd : decode M.2.1 pc = .ok (.ishr, 1))
    (k : zAW G M XF QF (pc + 1) lo (.int (x >>> (y &&& 31)) :: st) n h c sl) : zAW G M XF QF pc lo (.int y :: .int x :: st) n h c sl := by
  intro p e s m args below meth cd F H locs ls hz hw hs hl
  exact lv_ishr F.1 F.2.1 hd (k p e s m args below meth cd F H locs ls hz hw hs hl)
theorem zr_iushr {x y : Int32} (hd : decode M.2.1 pc = .ok (.iushr, 1))
    (k : zAW G M XF QF (pc + 1) lo (.int ((x.toUInt32 >>> (y.toUInt32 &&& Int32.toUInt32 31)).toInt32) :: st) n h c sl) : zAW G M XF QF pc lo (.int y :: .int x :: st) n h c sl := by
  intro p e s m args below meth cd F H locs ls hz hw hs hl
  exact lv_iushr F.1 F.2.1 hd rfl (k p e s m args below meth cd F H locs ls hz hw hs hl)
theorem zr_dup {v : Value} (hc : v.category = 1) (hd : decode M.2.1 pc = .ok (.dup, 1))
    (k : zAW G M XF QF (pc + 1) lo (v :: v :: st) n h c sl) : zAW G M XF QF pc lo (v :: st) n h c sl := by
  intro p e s m args below meth cd F H locs ls hz hw hs hl
  exact lv_dup F.1 F.2.1 hd ((zv_cat _ _).trans hc) (k p e s m args below meth cd F H locs ls hz hw hs hl)
theorem zr_pop {v : Value} (hc : v.category = 1) (hd : decode M.2.1 pc = .ok (.pop, 1))
    (k : zAW G M XF QF (pc + 1) lo (st) n h c sl) : zAW G M XF QF pc lo (v :: st) n h c sl := by
  intro p e s m args below meth cd F H locs ls hz hw hs hl
  exact lv_pop F.1 F.2.1 hd ((zv_cat _ _).trans hc) (k p e s m args below meth cd F H locs ls hz hw hs hl)
theorem zr_dup2 {v u : Value} (hc : v.category = 1) (hu : u.category = 1) (hd : decode M.2.1 pc = .ok (.dup2, 1))
    (k : zAW G M XF QF (pc + 1) lo (v :: u :: v :: u :: st) n h c sl) : zAW G M XF QF pc lo (v :: u :: st) n h c sl := by
  intro p e s m args below meth cd F H locs ls hz hw hs hl
  exact lv_dup2_11 F.1 F.2.1 hd ((zv_cat _ _).trans hc) ((zv_cat _ _).trans hu) (k p e s m args below meth cd F H locs ls hz hw hs hl)
theorem zr_dup2L {v : Value} (hc : v.category = 2) (hd : decode M.2.1 pc = .ok (.dup2, 1))
    (k : zAW G M XF QF (pc + 1) lo (v :: v :: st) n h c sl) : zAW G M XF QF pc lo (v :: st) n h c sl := by
  intro p e s m args below meth cd F H locs ls hz hw hs hl
  exact lv_dup2_2 F.1 F.2.1 hd ((zv_cat _ _).trans hc) (k p e s m args below meth cd F H locs ls hz hw hs hl)
theorem zr_topi {x : Int32} {z : Int} (hx : x = iZ z) (k : zAW G M XF QF pc lo (vi z :: st) n h c sl) : zAW G M XF QF pc lo (.int x :: st) n h c sl := by rw [hx]; exact k
theorem zr_eqi {a b : Int} (hx : a = b) (k : zAW G M XF QF pc lo (vi b :: st) n h c sl) : zAW G M XF QF pc lo (vi a :: st) n h c sl := by rw [hx]; exact k
theorem zr_eql {a b : Int} (hx : a = b) (k : zAW G M XF QF pc lo (vl b :: st) n h c sl) : zAW G M XF QF pc lo (vl a :: st) n h c sl := by rw [hx]; exact k
theorem zr_loc {lo' : List (Option Value)} (hx : lo = lo') (k : zAW G M XF QF pc lo' st n h c sl) : zAW G M XF QF pc lo st n h c sl := by rw [hx]; exact k
theorem zr_heap {h' : zH} (hx : h = h') (k : zAW G M XF QF pc lo st n h' c sl) : zAW G M XF QF pc lo st n h c sl := by rw [hx]; exact k
theorem zr_cs {c' sl' : Nat} (hx : c = c') (hy : sl = sl') (k : zAW G M XF QF pc lo st n h c' sl') : zAW G M XF QF pc lo st n h c sl := by rw [hx, hy]; exact k
theorem zr_goto {off : Int} {tgt : Nat} (ht : (pc : Int) + off = (tgt : Int)) (hd : decode M.2.1 pc = .ok (.goto off, 3)) (k : zAW G M XF QF tgt lo st n h c sl) : zAW G M XF QF pc lo st n h c sl := by
  intro p e s m args below meth cd F H locs ls hz hw hs hl
  exact lv_goto F.1 F.2.1 hd ht (k p e s m args below meth cd F H locs ls hz hw hs hl)
theorem zR0 : iR 0 := ⟨by decide, by decide⟩
theorem zr_if_eq {a : Int} {off : Int} {tgt : Nat} (ha : iR a) (ht : (pc : Int) + off = (tgt : Int)) (hd : decode M.2.1 pc = .ok (.ifCond .eq off, 3))
    (kt : a = 0 → zAW G M XF QF tgt lo st n h c sl) (kf : ¬ a = 0 → zAW G M XF QF (pc + 3) lo st n h c sl) : zAW G M XF QF pc lo (vi a :: st) n h c sl := by
  intro p e s m args below meth cd F H locs ls hz hw hs hl
  exact lv_if_eq F.1 F.2.1 hd ht (fun q => kt ((iZ_eq ha zR0).mp q) p e s m args below meth cd F H locs ls hz hw hs hl) (fun q => kf ((not_congr (iZ_eq ha zR0)).mp q) p e s m args below meth cd F H locs ls hz hw hs hl)
theorem zr_if_ne {a : Int} {off : Int} {tgt : Nat} (ha : iR a) (ht : (pc : Int) + off = (tgt : Int)) (hd : decode M.2.1 pc = .ok (.ifCond .ne off, 3))
    (kt : ¬ a = 0 → zAW G M XF QF tgt lo st n h c sl) (kf : a = 0 → zAW G M XF QF (pc + 3) lo st n h c sl) : zAW G M XF QF pc lo (vi a :: st) n h c sl := by
  intro p e s m args below meth cd F H locs ls hz hw hs hl
  exact lv_if_ne F.1 F.2.1 hd ht (fun q => kt ((not_congr (iZ_eq ha zR0)).mp q) p e s m args below meth cd F H locs ls hz hw hs hl) (fun q => kf ((iZ_eq ha zR0).mp q) p e s m args below meth cd F H locs ls hz hw hs hl)
theorem zr_if_lt {a : Int} {off : Int} {tgt : Nat} (ha : iR a) (ht : (pc : Int) + off = (tgt : Int)) (hd : decode M.2.1 pc = .ok (.ifCond .lt off, 3))
    (kt : a < 0 → zAW G M XF QF tgt lo st n h c sl) (kf : ¬ a < 0 → zAW G M XF QF (pc + 3) lo st n h c sl) : zAW G M XF QF pc lo (vi a :: st) n h c sl := by
  intro p e s m args below meth cd F H locs ls hz hw hs hl
  exact lv_if_lt F.1 F.2.1 hd ht (fun q => kt ((iZ_lt ha zR0).mp q) p e s m args below meth cd F H locs ls hz hw hs hl) (fun q => kf ((not_congr (iZ_lt ha zR0)).mp q) p e s m args below meth cd F H locs ls hz hw hs hl)
theorem zr_if_ge {a : Int} {off : Int} {tgt : Nat} (ha : iR a) (ht : (pc : Int) + off = (tgt : Int)) (hd : decode M.2.1 pc = .ok (.ifCond .ge off, 3))
    (kt : 0 ≤ a → zAW G M XF QF tgt lo st n h c sl) (kf : ¬ 0 ≤ a → zAW G M XF QF (pc + 3) lo st n h c sl) : zAW G M XF QF pc lo (vi a :: st) n h c sl := by
  intro p e s m args below meth cd F H locs ls hz hw hs hl
  exact lv_if_ge F.1 F.2.1 hd ht (fun q => kt ((iZ_le zR0 ha).mp q) p e s m args below meth cd F H locs ls hz hw hs hl) (fun q => kf ((not_congr (iZ_le zR0 ha)).mp q) p e s m args below meth cd F H locs ls hz hw hs hl)
theorem zr_if_gt {a : Int} {off : Int} {tgt : Nat} (ha : iR a) (ht : (pc : Int) + off = (tgt : Int)) (hd : decode M.2.1 pc = .ok (.ifCond .gt off, 3))
    (kt : 0 < a → zAW G M XF QF tgt lo st n h c sl) (kf : ¬ 0 < a → zAW G M XF QF (pc + 3) lo st n h c sl) : zAW G M XF QF pc lo (vi a :: st) n h c sl := by
  intro p e s m args below meth cd F H locs ls hz hw hs hl
  exact lv_if_gt F.1 F.2.1 hd ht (fun q => kt ((iZ_lt zR0 ha).mp q) p e s m args below meth cd F H locs ls hz hw hs hl) (fun q => kf ((not_congr (iZ_lt zR0 ha)).mp q) p e s m args below meth cd F H locs ls hz hw hs hl)
theorem zr_if_le {a : Int} {off : Int} {tgt : Nat} (ha : iR a) (ht : (pc : Int) + off = (tgt : Int)) (hd : decode M.2.1 pc = .ok (.ifCond .le off, 3))
    (kt : a ≤ 0 → zAW G M XF QF tgt lo st n h c sl) (kf : ¬ a ≤ 0 → zAW G M XF QF (pc + 3) lo st n h c sl) : zAW G M XF QF pc lo (vi a :: st) n h c sl := by
  intro p e s m args below meth cd F H locs ls hz hw hs hl
  exact lv_if_le F.1 F.2.1 hd ht (fun q => kt ((iZ_le ha zR0).mp q) p e s m args below meth cd F H locs ls hz hw hs hl) (fun q => kf ((not_congr (iZ_le ha zR0)).mp q) p e s m args below meth cd F H locs ls hz hw hs hl)
theorem zr_icmp_eq {a b : Int} {off : Int} {tgt : Nat} (ha : iR a) (hb : iR b) (ht : (pc : Int) + off = (tgt : Int)) (hd : decode M.2.1 pc = .ok (.if_icmp .eq off, 3))
    (kt : a = b → zAW G M XF QF tgt lo st n h c sl) (kf : ¬ a = b → zAW G M XF QF (pc + 3) lo st n h c sl) : zAW G M XF QF pc lo (vi b :: vi a :: st) n h c sl := by
  intro p e s m args below meth cd F H locs ls hz hw hs hl
  exact lv_icmp_eq F.1 F.2.1 hd ht (fun q => kt ((iZ_eq ha hb).mp q) p e s m args below meth cd F H locs ls hz hw hs hl) (fun q => kf ((not_congr (iZ_eq ha hb)).mp q) p e s m args below meth cd F H locs ls hz hw hs hl)
theorem zr_icmp_ne {a b : Int} {off : Int} {tgt : Nat} (ha : iR a) (hb : iR b) (ht : (pc : Int) + off = (tgt : Int)) (hd : decode M.2.1 pc = .ok (.if_icmp .ne off, 3))
    (kt : ¬ a = b → zAW G M XF QF tgt lo st n h c sl) (kf : a = b → zAW G M XF QF (pc + 3) lo st n h c sl) : zAW G M XF QF pc lo (vi b :: vi a :: st) n h c sl := by
  intro p e s m args below meth cd F H locs ls hz hw hs hl
  exact lv_icmp_ne F.1 F.2.1 hd ht (fun q => kt ((not_congr (iZ_eq ha hb)).mp q) p e s m args below meth cd F H locs ls hz hw hs hl) (fun q => kf ((iZ_eq ha hb).mp q) p e s m args below meth cd F H locs ls hz hw hs hl)
theorem zr_icmp_lt {a b : Int} {off : Int} {tgt : Nat} (ha : iR a) (hb : iR b) (ht : (pc : Int) + off = (tgt : Int)) (hd : decode M.2.1 pc = .ok (.if_icmp .lt off, 3))
    (kt : a < b → zAW G M XF QF tgt lo st n h c sl) (kf : ¬ a < b → zAW G M XF QF (pc + 3) lo st n h c sl) : zAW G M XF QF pc lo (vi b :: vi a :: st) n h c sl := by
  intro p e s m args below meth cd F H locs ls hz hw hs hl
  exact lv_icmp_lt F.1 F.2.1 hd ht (fun q => kt ((iZ_lt ha hb).mp q) p e s m args below meth cd F H locs ls hz hw hs hl) (fun q => kf ((not_congr (iZ_lt ha hb)).mp q) p e s m args below meth cd F H locs ls hz hw hs hl)
theorem zr_icmp_ge {a b : Int} {off : Int} {tgt : Nat} (ha : iR a) (hb : iR b) (ht : (pc : Int) + off = (tgt : Int)) (hd : decode M.2.1 pc = .ok (.if_icmp .ge off, 3))
    (kt : b ≤ a → zAW G M XF QF tgt lo st n h c sl) (kf : ¬ b ≤ a → zAW G M XF QF (pc + 3) lo st n h c sl) : zAW G M XF QF pc lo (vi b :: vi a :: st) n h c sl := by
  intro p e s m args below meth cd F H locs ls hz hw hs hl
  exact lv_icmp_ge F.1 F.2.1 hd ht (fun q => kt ((iZ_le hb ha).mp q) p e s m args below meth cd F H locs ls hz hw hs hl) (fun q => kf ((not_congr (iZ_le hb ha)).mp q) p e s m args below meth cd F H locs ls hz hw hs hl)
theorem zr_icmp_gt {a b : Int} {off : Int} {tgt : Nat} (ha : iR a) (hb : iR b) (ht : (pc : Int) + off = (tgt : Int)) (hd : decode M.2.1 pc = .ok (.if_icmp .gt off, 3))
    (kt : b < a → zAW G M XF QF tgt lo st n h c sl) (kf : ¬ b < a → zAW G M XF QF (pc + 3) lo st n h c sl) : zAW G M XF QF pc lo (vi b :: vi a :: st) n h c sl := by
  intro p e s m args below meth cd F H locs ls hz hw hs hl
  exact lv_icmp_gt F.1 F.2.1 hd ht (fun q => kt ((iZ_lt hb ha).mp q) p e s m args below meth cd F H locs ls hz hw hs hl) (fun q => kf ((not_congr (iZ_lt hb ha)).mp q) p e s m args below meth cd F H locs ls hz hw hs hl)
theorem zr_icmp_le {a b : Int} {off : Int} {tgt : Nat} (ha : iR a) (hb : iR b) (ht : (pc : Int) + off = (tgt : Int)) (hd : decode M.2.1 pc = .ok (.if_icmp .le off, 3))
    (kt : a ≤ b → zAW G M XF QF tgt lo st n h c sl) (kf : ¬ a ≤ b → zAW G M XF QF (pc + 3) lo st n h c sl) : zAW G M XF QF pc lo (vi b :: vi a :: st) n h c sl := by
  intro p e s m args below meth cd F H locs ls hz hw hs hl
  exact lv_icmp_le F.1 F.2.1 hd ht (fun q => kt ((iZ_le ha hb).mp q) p e s m args below meth cd F H locs ls hz hw hs hl) (fun q => kf ((not_congr (iZ_le ha hb)).mp q) p e s m args below meth cd F H locs ls hz hw hs hl)
theorem zr_lcmp {a b : Int} (ha : lR a) (hb : lR b) (hd : decode M.2.1 pc = .ok (.lcmp, 1))
    (k : zAW G M XF QF (pc + 1) lo (vi (zcmp a b) :: st) n h c sl) : zAW G M XF QF pc lo (vl b :: vl a :: st) n h c sl := by
  intro p e s m args below meth cd F H locs ls hz hw hs hl
  refine W.lcmp F.1 F.2.1 hd ?_
  rw [lZ_cmp ha hb]
  exact k p e s m args below meth cd F H locs ls hz hw hs hl
theorem zr_lcmp_eq {a b : Int} {off : Int} {tgt : Nat} (ha : lR a) (hb : lR b) (ht : ((pc + 1 : Nat) : Int) + off = (tgt : Int)) (hd : decode M.2.1 pc = .ok (.lcmp, 1)) (hd2 : decode M.2.1 (pc + 1) = .ok (.ifCond .eq off, 3))
    (kt : a = b → zAW G M XF QF tgt lo st n h c sl) (kf : ¬ a = b → zAW G M XF QF (pc + 1 + 3) lo st n h c sl) : zAW G M XF QF pc lo (vl b :: vl a :: st) n h c sl :=
  zr_lcmp ha hb hd (zr_if_eq zcmp_R ht hd2 (fun q => kt (zcmp_eq.mp q)) (fun q => kf ((not_congr zcmp_eq).mp q)))
theorem zr_lcmp_ne {a b : Int} {off : Int} {tgt : Nat} (ha : lR a) (hb : lR b) (ht : ((pc + 1 : Nat) : Int) + off = (tgt : Int)) (hd : decode M.2.1 pc = .ok (.lcmp, 1)) (hd2 : decode M.2.1 (pc + 1) = .ok (.ifCond .ne off, 3))
    (kt : ¬ a = b → zAW G M XF QF tgt lo st n h c sl) (kf : a = b → zAW G M XF QF (pc + 1 + 3) lo st n h c sl) : zAW G M XF QF pc lo (vl b :: vl a :: st) n h c sl :=
  zr_lcmp ha hb hd (zr_if_ne zcmp_R ht hd2 (fun q => kt ((not_congr zcmp_eq).mp q)) (fun q => kf (zcmp_eq.mp q)))
theorem zr_lcmp_lt {a b : Int} {off : Int} {tgt : Nat} (ha : lR a) (hb : lR b) (ht : ((pc + 1 : Nat) : Int) + off = (tgt : Int)) (hd : decode M.2.1 pc = .ok (.lcmp, 1)) (hd2 : decode M.2.1 (pc + 1) = .ok (.ifCond .lt off, 3))
    (kt : a < b → zAW G M XF QF tgt lo st n h c sl) (kf : ¬ a < b → zAW G M XF QF (pc + 1 + 3) lo st n h c sl) : zAW G M XF QF pc lo (vl b :: vl a :: st) n h c sl :=
  zr_lcmp ha hb hd (zr_if_lt zcmp_R ht hd2 (fun q => kt (zcmp_lt.mp q)) (fun q => kf ((not_congr zcmp_lt).mp q)))
theorem zr_lcmp_ge {a b : Int} {off : Int} {tgt : Nat} (ha : lR a) (hb : lR b) (ht : ((pc + 1 : Nat) : Int) + off = (tgt : Int)) (hd : decode M.2.1 pc = .ok (.lcmp, 1)) (hd2 : decode M.2.1 (pc + 1) = .ok (.ifCond .ge off, 3))
    (kt : b ≤ a → zAW G M XF QF tgt lo st n h c sl) (kf : ¬ b ≤ a → zAW G M XF QF (pc + 1 + 3) lo st n h c sl) : zAW G M XF QF pc lo (vl b :: vl a :: st) n h c sl :=
  zr_lcmp ha hb hd (zr_if_ge zcmp_R ht hd2 (fun q => kt (zcmp_ge.mp q)) (fun q => kf ((not_congr zcmp_ge).mp q)))
theorem zr_lcmp_gt {a b : Int} {off : Int} {tgt : Nat} (ha : lR a) (hb : lR b) (ht : ((pc + 1 : Nat) : Int) + off = (tgt : Int)) (hd : decode M.2.1 pc = .ok (.lcmp, 1)) (hd2 : decode M.2.1 (pc + 1) = .ok (.ifCond .gt off, 3))
    (kt : b < a → zAW G M XF QF tgt lo st n h c sl) (kf : ¬ b < a → zAW G M XF QF (pc + 1 + 3) lo st n h c sl) : zAW G M XF QF pc lo (vl b :: vl a :: st) n h c sl :=
  zr_lcmp ha hb hd (zr_if_gt zcmp_R ht hd2 (fun q => kt (zcmp_gt.mp q)) (fun q => kf ((not_congr zcmp_gt).mp q)))
theorem zr_lcmp_le {a b : Int} {off : Int} {tgt : Nat} (ha : lR a) (hb : lR b) (ht : ((pc + 1 : Nat) : Int) + off = (tgt : Int)) (hd : decode M.2.1 pc = .ok (.lcmp, 1)) (hd2 : decode M.2.1 (pc + 1) = .ok (.ifCond .le off, 3))
    (kt : a ≤ b → zAW G M XF QF tgt lo st n h c sl) (kf : ¬ a ≤ b → zAW G M XF QF (pc + 1 + 3) lo st n h c sl) : zAW G M XF QF pc lo (vl b :: vl a :: st) n h c sl :=
  zr_lcmp ha hb hd (zr_if_le zcmp_R ht hd2 (fun q => kt (zcmp_le.mp q)) (fun q => kf ((not_congr zcmp_le).mp q)))
theorem zr_tblIn {z dflt lw hi : Int} {offs : Array Int} {len : Nat} {off : Int} {tgt : Nat} (hz : iR z) (h1 : lw ≤ z) (h2 : z ≤ hi) (ho : offs[(z - lw).toNat]? = some off) (ht : (pc : Int) + off = (tgt : Int)) (hd : decode M.2.1 pc = .ok (.tableswitch dflt lw hi offs, len)) (k : zAW G M XF QF tgt lo st n h c sl) : zAW G M XF QF pc lo (vi z :: st) n h c sl := by
  intro p e s m args below meth cd F H locs ls hz2 hw hs hl
  exact lv_tableIn F.1 F.2.1 hd (by rw [iZ_toInt hz]; omega) (by rw [iZ_toInt hz]; omega) (by rw [iZ_toInt hz]; exact ho) ht (k p e s m args below meth cd F H locs ls hz2 hw hs hl)
theorem zr_tblOut {z dflt lw hi : Int} {offs : Array Int} {len : Nat} {tgt : Nat} (hz : iR z) (h1 : z < lw ∨ hi < z) (ht : (pc : Int) + dflt = (tgt : Int)) (hd : decode M.2.1 pc = .ok (.tableswitch dflt lw hi offs, len)) (k : zAW G M XF QF tgt lo st n h c sl) : zAW G M XF QF pc lo (vi z :: st) n h c sl := by
  intro p e s m args below meth cd F H locs ls hz2 hw hs hl
  exact lv_tableOut F.1 F.2.1 hd (by rw [iZ_toInt hz]; exact h1) ht (k p e s m args below meth cd F H locs ls hz2 hw hs hl)
/-- rows of arrays, by their kinds -/
def aI (len : Nat) (g : Int → Int) : va_E := .inl (0, len, .inl (fI g))
def aJ (len : Nat) (g : Int → Int) : va_E := .inl (1, len, .inr (.inl (fJ g)))
def aZ (len : Nat) (g : Int → Int) : va_E := .inl (2, len, .inl (fI g))
def aB (len : Nat) (g : Int → Int) : va_E := .inl (3, len, .inl (fI g))
def aR (len : Nat) (f : Nat → Option Nat) : va_E := .inl (4, len, .inr (.inr (.inr (.inr f))))
theorem zW.set {G : zG} {h : zH} {H H1 : Heap} {a : Nat} {e2 : va_E} (hw : zW G h H) (h1 : va_at (zgD G) vwCl (zgb G + a, ze (zgb G) (zgT G) e2) H1) (ho : ∀ q : Nat, q ≠ zgb G + a → H1[q]? = H[q]?) : zW G (zup h a e2) H1 := by
  intro k e he
  unfold zup at he
  by_cases hk : k = a
  · rw [if_pos hk] at he
    cases he
    rw [hk]
    exact h1
  · rw [if_neg hk] at he
    exact (hw k e he).kept (ho _ (fun q => hk (Nat.add_left_cancel q)))
theorem zW.push {G : zG} {h : zH} {H H1 : Heap} {e2 : va_E} {n : Nat} (hw : zW G h H) (hz : H.size = zgb G + n) (h1 : va_at (zgD G) vwCl (zgb G + n, ze (zgb G) (zgT G) e2) H1) (ho : ∀ q : Nat, q < H.size → H1[q]? = H[q]?) : zW G (zup h n e2) H1 := by
  intro k e he
  unfold zup at he
  by_cases hk : k = n
  · rw [if_pos hk] at he
    cases he
    rw [hk]
    exact h1
  · rw [if_neg hk] at he
    exact (hw k e he).kept (ho _ (hw k e he).lt)
theorem zAr_at {G : zG} (a : Nat) : zAr G (zgb G + a) := Nat.le_add_right _ _
theorem zS_push {G : zG} {s : State} {H H1 : Heap} {locs : List Loc} (hs : va_S (zAr G) s.heap H locs) (hz : H.size ≤ H1.size) (ho : ∀ q : Nat, q < H.size → H1[q]? = H[q]?) : va_S (zAr G) s.heap H1 locs := ⟨Nat.le_trans hs.1 hz, fun q h1 h2 => (ho q (Nat.lt_of_lt_of_le h1 hs.1)).trans (hs.2.1 q h1 h2), hs.2.2⟩
/-- what a field instruction of class own links to: class ci, slot k -/
def zFL (own : String) (idx ci k : Nat) : Prop := ∃ (C : String) (T : u_T) (N : Nat), vwCl[ci]? = some (C, T, N) ∧ k < N ∧ Cond.fieldLink own idx C (T k).2.1 (T k).2.2.1 ∈ TG ∧ (T k).1 = C ∧ ∀ w ∈ u_ws C T N, w ∈ TG
theorem zr_get {ci k idx a : Nat} {fs : List Value} {v : Value} (hf : zFL M.1.cls idx ci k) (hh : h a = some (.inr (ci, fs))) (hv : fs[k]? = some v) (hd : decode M.2.1 pc = .ok (.getfield idx, 3))
    (k : zAW G M XF QF (pc + 3) lo (v :: st) n h c sl) : zAW G M XF QF pc lo (.ref a :: st) n h c sl := by
  intro p e s m args below meth cd F H locs ls hz hw hs hl
  obtain ⟨C, T, N, h1, h2, h3, h4, h5⟩ := hf
  have hP : va_P (zgD G) vwCl [(zgb G + a, .inr (ci, fs.map (zv (zgb G))))] H := fun i q hq => by
    have h0 : i < 1 := (List.getElem?_eq_some_iff.mp hq).1
    rw [show i = 0 by omega] at hq
    cases hq
    exact hw a _ hh
  exact va_get (Ts := TG) F.1 F.2.1 F.2.2.2.2.1 h5 F.2.2.2.1 F.2.2.2.2.2.1.2.1 hP 0 rfl h1 _ h2 (F.2.2.2.2.1 _ h3) (fun x hx => by rw [h4] at hx; exact hx) (by rw [List.getElem?_map, hv]; rfl) hd (k p e s m args below meth cd F H locs ls hz hw hs hl)
theorem zfit_v (b : Nat) {ty : FieldType} {v : Value} (h : fits ty v = true) : fits ty (zv b v) = true := by
  cases v <;> first | exact h | (cases ty <;> first | exact h | exact absurd h Bool.false_ne_true)
theorem znar_v (b : Nat) {ty : FieldType} {v : Value} (h : narrow ty v = v) : narrow ty (zv b v) = zv b v := by
  cases v <;> first | exact h | (cases ty <;> rfl)
/-- a field that may be written anywhere, or (final) in a constructor -/
def zFP (M : zM) (idx ci k : Nat) (ty : FieldType) : Prop := ∃ (C : String) (T : u_T) (N : Nat) (tys : Nat → FieldType), vwCl[ci]? = some (C, T, N) ∧ k < N ∧ Cond.fieldLink M.1.cls idx C (T k).2.1 (T k).2.2.1 ∈ TG ∧ (T k).1 = C ∧ (∀ w ∈ u_ws C T N, w ∈ TG) ∧ (∀ k, k < N → parseFieldDescriptor (T k).2.2.1 = some (tys k)) ∧ (∀ a, a < N → ∀ b, b < N → a ≠ b → (T a).2.1 ≠ (T b).2.1) ∧ tys k = ty ∧ ((T k).2.2.2 = false ∨ ((T k).2.2.2 = true ∧ M.1.name = "<init>" ∧ C = M.1.cls))
theorem zr_put {ci k idx a : Nat} {fs : List Value} {v : Value} {ty : FieldType} (e' : va_E) (hf : zFP M idx ci k ty) (hh : h a = some (.inr (ci, fs))) (hk : k < fs.length) (hn : narrow ty v = v) (hfit : fits ty v = true) (he : (.inr (ci, fs.set k v) : va_E) = e') (hd : decode M.2.1 pc = .ok (.putfield idx, 3))
    (kk : zAW G M XF QF (pc + 3) lo st n (zup h a e') c sl) : zAW G M XF QF pc lo (v :: .ref a :: st) n h c sl := by
  intro p e s m args below meth cd F H locs ls hz hw hs hl
  subst he
  obtain ⟨C, T, N, tys, h1, h2, h3, h4, h5, h6, h7, h8, h9⟩ := hf
  have hfs := F.2.2.2.2.2.1.2.1
  have hap := va_apart (own := M.1.cls) F.2.2.2.2.1 h5 tys h6 h7 hfs h1
  obtain ⟨r, r1, cell, q1, q2, q3, q4⟩ := hw a _ hh
  have hr : r = (C, T, N) := Option.some.inj (r1.symm.trans h1)
  subst hr
  obtain ⟨hS, hfc, kC, hkC, hkind⟩ := hfs.1 ci _ h1
  obtain ⟨cf, kf, fi, f, hi, hsl⟩ := hS k h2
  have hlay := F.2.2.2.2.1 _ (h5 _ (u_in_lay h2))
  have hst := (u_facts hfc hkC (u_lays F.2.2.2.2.1 h5 h2) hi).1
  have hd2 : parseFieldDescriptor (T k).2.2.1 = some ty := by rw [h6 k h2, h8]
  have hlink := F.2.2.2.2.1 _ h3
  have hsame : s.fieldFound? C (T k).2.1 (T k).2.2.1 = some (cf, kf, fi, f) := by rw [h4] at hi; exact hi
  unfold u_lay at hlay
  have fin : ∀ H' : Heap, H'[zgb G + a]? = some (cell.setSlot f.slot (zv (zgb G) v)) → H'.size = H.size → (∀ q, q ≠ zgb G + a → H'[q]? = H[q]?) → W p (zgl G) e (zmr M) s m args below meth cd H' (locs ++ [⟨zgb G + a, f.slot⟩]) c sl (QF below args s) (F0 m (pc + 3) ls (st.map (zv (zgb G)))) := by
    intro H' e1 e2 e3
    rw [hsl] at e1
    refine kk p e s m args below meth cd F H' _ ls (by rw [e2]; exact hz) (hw.set ?_ e3) (hs.put e2 e3 (zAr_at a)) hl
    refine ⟨_, h1, ?_⟩
    have hset : (fs.set k v).map (zv (zgb G)) = (fs.map (zv (zgb G))).set k (zv (zgb G) v) := by rw [List.map_set]
    show t_OB (zgb G + a) _ N _ H' (vp_V ((fs.set k v).map (zv (zgb G))))
    rw [hset]
    exact t_OB.to (V := updV (vp_V (fs.map (zv (zgb G)))) k (zv (zgb G) v)) ⟨_, e1, q2, q3, t_set q4 hap h2 _⟩ (fun j _ => vp_updV_set (by rw [List.length_map]; exact hk) _ j)
  rcases h9 with h9 | ⟨h9, h10, h11⟩
  · rw [if_neg (by rw [h9]; decide)] at hlay
    have hsd := u_store hfc hkC hkind hlay hi hd2 (znar_v (zgb G) hn) (zfit_v (zgb G) hfit)
    exact W.putK F.1 F.2.1 (f := f) ⟨F.2.2.2.1, hlink, ⟨_, _, _, hsame⟩, hst⟩ (by rw [q2]; exact hsd) q1 q3 (by rw [hsl]; exact k2_hasslot (q4 k h2)) rfl rfl hd fin
  · rw [if_pos h9] at hlay
    have hcf : m.cls = cf := by
      obtain ⟨_, _, c', _, _, _, -, -, hf', -, -, -, hown2, -⟩ := Cond.laysFinal_spec hlay
      have e1 : c' = cf := by have := hi.symm.trans hf'; simp at this; exact this.1.symm
      rw [h4, h11] at hown2
      rw [← e1]; exact Option.some.inj (F.2.2.2.1.symm.trans hown2)
    have hsd := u_fits hfc hkC hkind (Or.inr hlay) hi hd2 (znar_v (zgb G) hn) (zfit_v (zgb G) hfit)
    exact W.putFinK F.1 F.2.1 F.2.2.2.1 hlink hsame hst hcf (F.2.2.2.2.2.2.2.2.1.trans h10) (by rw [q2]; exact hsd) q1 q3 (by rw [hsl]; exact k2_hasslot (q4 k h2)) rfl rfl hd fin
theorem zr_iald {a len : Nat} {g : Int → Int} {i : Int} (hh : h a = some (aI len g)) (hi : 0 ≤ i ∧ i < len) (hn : len < 2147483648) (hd : decode M.2.1 pc = .ok (.iaload, 1))
    (k : zAW G M XF QF (pc + 1) lo (vi (g i) :: st) n h c sl) : zAW G M XF QF pc lo (vi i :: .ref a :: st) n h c sl := by
  intro p e s m args below meth cd F H locs ls hz hw hs hl
  have hP : va_P (zgD G) vwCl [(zgb G + a, ze (zgb G) (zgT G) (aI len g))] H := fun j q hq => by
    have h0 : j < 1 := (List.getElem?_eq_some_iff.mp hq).1
    rw [show j = 0 by omega] at hq
    cases hq
    exact hw a _ hh
  have hir : iR i := ⟨by omega, by omega⟩
  refine va_iald F.1 F.2.1 F.2.2.2.2.2.1.2.1 hP 0 0 (f := fI g) (n := len) rfl rfl (iZ_ix hi.1 hi.2 hn) hd ?_
  rw [iZ_clamp hir, fI_at hi.1]
  exact k p e s m args below meth cd F H locs ls hz hw hs hl
theorem zr_zald {a len : Nat} {g : Int → Int} {i : Int} (hh : h a = some (aZ len g)) (hi : 0 ≤ i ∧ i < len) (hn : len < 2147483648) (hd : decode M.2.1 pc = .ok (.baload, 1))
    (k : zAW G M XF QF (pc + 1) lo (vi (g i) :: st) n h c sl) : zAW G M XF QF pc lo (vi i :: .ref a :: st) n h c sl := by
  intro p e s m args below meth cd F H locs ls hz hw hs hl
  have hP : va_P (zgD G) vwCl [(zgb G + a, ze (zgb G) (zgT G) (aZ len g))] H := fun j q hq => by
    have h0 : j < 1 := (List.getElem?_eq_some_iff.mp hq).1
    rw [show j = 0 by omega] at hq
    cases hq
    exact hw a _ hh
  have hir : iR i := ⟨by omega, by omega⟩
  refine va_zald F.1 F.2.1 F.2.2.2.2.2.1.2.1 hP 0 2 (f := fI g) (n := len) rfl rfl (iZ_ix hi.1 hi.2 hn) hd ?_
  rw [iZ_clamp hir, fI_at hi.1]
  exact k p e s m args below meth cd F H locs ls hz hw hs hl
theorem zr_bald {a len : Nat} {g : Int → Int} {i : Int} (hh : h a = some (aB len g)) (hi : 0 ≤ i ∧ i < len) (hn : len < 2147483648) (hd : decode M.2.1 pc = .ok (.baload, 1))
    (k : zAW G M XF QF (pc + 1) lo (vi (g i) :: st) n h c sl) : zAW G M XF QF pc lo (vi i :: .ref a :: st) n h c sl := by
  intro p e s m args below meth cd F H locs ls hz hw hs hl
  have hP : va_P (zgD G) vwCl [(zgb G + a, ze (zgb G) (zgT G) (aB len g))] H := fun j q hq => by
    have h0 : j < 1 := (List.getElem?_eq_some_iff.mp hq).1
    rw [show j = 0 by omega] at hq
    cases hq
    exact hw a _ hh
  have hir : iR i := ⟨by omega, by omega⟩
  refine va_bald F.1 F.2.1 F.2.2.2.2.2.1.2.1 hP 0 3 (f := fI g) (n := len) rfl rfl (iZ_ix hi.1 hi.2 hn) hd ?_
  rw [iZ_clamp hir, fI_at hi.1]
  exact k p e s m args below meth cd F H locs ls hz hw hs hl
theorem zr_lald {a len : Nat} {g : Int → Int} {i : Int} (hh : h a = some (aJ len g)) (hi : 0 ≤ i ∧ i < len) (hn : len < 2147483648) (hd : decode M.2.1 pc = .ok (.laload, 1))
    (k : zAW G M XF QF (pc + 1) lo (vl (g i) :: st) n h c sl) : zAW G M XF QF pc lo (vi i :: .ref a :: st) n h c sl := by
  intro p e s m args below meth cd F H locs ls hz hw hs hl
  have hP : va_P (zgD G) vwCl [(zgb G + a, ze (zgb G) (zgT G) (aJ len g))] H := fun j q hq => by
    have h0 : j < 1 := (List.getElem?_eq_some_iff.mp hq).1
    rw [show j = 0 by omega] at hq
    cases hq
    exact hw a _ hh
  have hir : iR i := ⟨by omega, by omega⟩
  refine va_lald F.1 F.2.1 F.2.2.2.2.2.1.2.1 hP 0 1 (f := fJ g) (n := len) rfl rfl (iZ_ix hi.1 hi.2 hn) hd ?_
  rw [iZ_clamp hir, fJ_at hi.1]
  exact k p e s m args below meth cd F H locs ls hz hw hs hl
theorem zr_iast {a len : Nat} {g : Int → Int} {i v : Int} (hh : h a = some (aI len g)) (hi : 0 ≤ i ∧ i < len) (hn : len < 2147483648) (hd : decode M.2.1 pc = .ok (.iastore, 1))
    (k : zAW G M XF QF (pc + 1) lo st n (zup h a (aI len (uZ g i v))) c sl) : zAW G M XF QF pc lo (vi v :: vi i :: .ref a :: st) n h c sl := by
  intro p e s m args below meth cd F H locs ls hz hw hs hl
  have hir : iR i := ⟨by omega, by omega⟩
  have hin : vp_in (iZ i) len := iZ_ix hi.1 hi.2 hn
  have hcell : H[zgb G + a]? = some (arrV (zgT G 0) len (fun j => .int (fI g j))) := hw a _ hh
  refine W.iast F.1 F.2.1 hcell ((F.2.2.2.2.2.1.2.1.2 0 _ rfl).1 len (fun j => .int (fI g j))) (fun q => by cases q) (by rw [arrV_size]; exact hin) rfl rfl hd fun H1 e1 z1 o1 => ?_
  refine k p e s m args below meth cd F H1 _ ls (by rw [z1]; exact hz) (hw.set ?_ o1) (hs.put z1 o1 (zAr_at a)) hl
  · show H1[zgb G + a]? = some (arrV (zgT G 0) len (fun j => .int (fI (uZ g i v) j)))
    rw [e1, arrV_store]
    congr 2
    funext q
    rw [iZ_clamp hir, ← fI_u hi.1 i.toNat rfl]
    by_cases hq : q = i.toNat
    · subst hq
      simp [updV, upd, vp_updL]
    · simp [updV, upd, vp_updL, hq]
theorem zr_zast {a len : Nat} {g : Int → Int} {i v : Int} (hh : h a = some (aZ len g)) (hi : 0 ≤ i ∧ i < len) (hn : len < 2147483648) (hv : v = 0 ∨ v = 1) (hd : decode M.2.1 pc = .ok (.bastore, 1))
    (k : zAW G M XF QF (pc + 1) lo st n (zup h a (aZ len (uZ g i v))) c sl) : zAW G M XF QF pc lo (vi v :: vi i :: .ref a :: st) n h c sl := by
  intro p e s m args below meth cd F H locs ls hz hw hs hl
  have hir : iR i := ⟨by omega, by omega⟩
  have hin : vp_in (iZ i) len := iZ_ix hi.1 hi.2 hn
  have hnar : narrow .boolean (.int (iZ v)) = .int (iZ v) := by rcases hv with rfl | rfl <;> rfl
  have hcell : H[zgb G + a]? = some (arrV (zgT G 2) len (fun j => .int (fI g j))) := hw a _ hh
  refine W.zast F.1 F.2.1 hcell ((F.2.2.2.2.2.1.2.1.2 2 _ rfl).1 len (fun j => .int (fI g j))) (fun q => by cases q) (by rw [arrV_size]; exact hin) rfl rfl hd fun H1 e1 z1 o1 => ?_
  refine k p e s m args below meth cd F H1 _ ls (by rw [z1]; exact hz) (hw.set ?_ o1) (hs.put z1 o1 (zAr_at a)) hl
  · show H1[zgb G + a]? = some (arrV (zgT G 2) len (fun j => .int (fI (uZ g i v) j)))
    rw [hnar] at e1
    rw [e1, arrV_store]
    congr 2
    funext q
    rw [iZ_clamp hir, ← fI_u hi.1 i.toNat rfl]
    by_cases hq : q = i.toNat
    · subst hq
      simp [updV, upd, vp_updL]
    · simp [updV, upd, vp_updL, hq]
theorem zbyte_id {v : Int} (hv : -128 ≤ v ∧ v ≤ 127) : (iZ v).toInt8.toInt32 = iZ v := by
  apply Int32.toInt_inj.mp
  rw [Int8.toInt_toInt32, Int32.toInt_toInt8, iZ_toInt ⟨by omega, by omega⟩]
  have h1 := hv.1
  have h2 := hv.2
  rw [Int.bmod_def]
  split <;> omega
theorem zbyte_nar {v : Int} (hv : -128 ≤ v ∧ v ≤ 127) : narrow .byte (.int (iZ v)) = .int (iZ v) := by
  show Value.int ((iZ v).toInt8.toInt32) = _
  rw [zbyte_id hv]
theorem zr_bast {a len : Nat} {g : Int → Int} {i v : Int} (hh : h a = some (aB len g)) (hi : 0 ≤ i ∧ i < len) (hn : len < 2147483648) (hv : -128 ≤ v ∧ v ≤ 127) (hd : decode M.2.1 pc = .ok (.bastore, 1))
    (k : zAW G M XF QF (pc + 1) lo st n (zup h a (aB len (uZ g i v))) c sl) : zAW G M XF QF pc lo (vi v :: vi i :: .ref a :: st) n h c sl := by
  intro p e s m args below meth cd F H locs ls hz hw hs hl
  have hir : iR i := ⟨by omega, by omega⟩
  have hin : vp_in (iZ i) len := iZ_ix hi.1 hi.2 hn
  have hnar : narrow .byte (.int (iZ v)) = .int (iZ v) := zbyte_nar hv
  have hcell : H[zgb G + a]? = some (arrV (zgT G 3) len (fun j => .int (fI g j))) := hw a _ hh
  refine W.bast F.1 F.2.1 hcell ((F.2.2.2.2.2.1.2.1.2 3 _ rfl).1 len (fun j => .int (fI g j))) (fun q => by cases q) (by rw [arrV_size]; exact hin) rfl rfl hd fun H1 e1 z1 o1 => ?_
  refine k p e s m args below meth cd F H1 _ ls (by rw [z1]; exact hz) (hw.set ?_ o1) (hs.put z1 o1 (zAr_at a)) hl
  · show H1[zgb G + a]? = some (arrV (zgT G 3) len (fun j => .int (fI (uZ g i v) j)))
    rw [hnar] at e1
    rw [e1, arrV_store]
    congr 2
    funext q
    rw [iZ_clamp hir, ← fI_u hi.1 i.toNat rfl]
    by_cases hq : q = i.toNat
    · subst hq
      simp [updV, upd, vp_updL]
    · simp [updV, upd, vp_updL, hq]
theorem zr_last {a len : Nat} {g : Int → Int} {i v : Int} (hh : h a = some (aJ len g)) (hi : 0 ≤ i ∧ i < len) (hn : len < 2147483648) (hd : decode M.2.1 pc = .ok (.lastore, 1))
    (k : zAW G M XF QF (pc + 1) lo st n (zup h a (aJ len (uZ g i v))) c sl) : zAW G M XF QF pc lo (vl v :: vi i :: .ref a :: st) n h c sl := by
  intro p e s m args below meth cd F H locs ls hz hw hs hl
  have hir : iR i := ⟨by omega, by omega⟩
  have hin : vp_in (iZ i) len := iZ_ix hi.1 hi.2 hn
  have hcell : H[zgb G + a]? = some (arrV (zgT G 1) len (fun j => .long (fJ g j))) := hw a _ hh
  refine W.last F.1 F.2.1 hcell ((F.2.2.2.2.2.1.2.1.2 1 _ rfl).1 len (fun j => .long (fJ g j))) (fun q => by cases q) (by rw [arrV_size]; exact hin) rfl rfl hd fun H1 e1 z1 o1 => ?_
  refine k p e s m args below meth cd F H1 _ ls (by rw [z1]; exact hz) (hw.set ?_ o1) (hs.put z1 o1 (zAr_at a)) hl
  · show H1[zgb G + a]? = some (arrV (zgT G 1) len (fun j => .long (fJ (uZ g i v) j)))
    rw [e1, arrV_store]
    congr 2
    funext q
    rw [iZ_clamp hir, ← fJ_u hi.1 i.toNat rfl]
    by_cases hq : q = i.toNat
    · subst hq
      simp [updV, upd, vp_updL]
    · simp [updV, upd, vp_updL, hq]
theorem zr_alen {a len : Nat} {x : vp_A} {t : Nat} {ty : FieldType} (hh : h a = some (.inl (t, x))) (ht : (ztys (zgT G))[t]? = some (zgT G t, ty)) (hl2 : x.1 = len) (hn : len < 2147483648) (hd : decode M.2.1 pc = .ok (.arraylength, 1))
    (k : zAW G M XF QF (pc + 1) lo (vi (len : Int) :: st) n h c sl) : zAW G M XF QF pc lo (.ref a :: st) n h c sl := by
  intro p e s m args below meth cd F H locs ls hz hw hs hl
  have hP : va_P (zgD G) vwCl [(zgb G + a, .inl (zgT G t, zarr (zgb G) x))] H := fun j q hq => by
    have h0 : j < 1 := (List.getElem?_eq_some_iff.mp hq).1
    rw [show j = 0 by omega] at hq
    cases hq
    exact hw a _ hh
  refine va_alen (v := iZ (len : Int)) F.1 F.2.1 F.2.2.2.2.2.1.2.1 hP 0 t (cA := zgT G t) (x := zarr (zgb G) x) rfl ht ?_ hd (k p e s m args below meth cd F H locs ls hz hw hs hl)
  show Int32.ofNat x.1 = iZ (len : Int)
  rw [hl2]
  rfl
theorem zr_aald {a len b : Nat} {f : Nat → Option Nat} {i : Int} (hh : h a = some (aR len f)) (hi : 0 ≤ i ∧ i < len) (hn : len < 2147483648) (hf : f i.toNat = some b) (hd : decode M.2.1 pc = .ok (.aaload, 1))
    (k : zAW G M XF QF (pc + 1) lo (.ref b :: st) n h c sl) : zAW G M XF QF pc lo (vi i :: .ref a :: st) n h c sl := by
  intro p e s m args below meth cd F H locs ls hz hw hs hl
  have hir : iR i := ⟨by omega, by omega⟩
  have hin : vp_in (iZ i) len := iZ_ix hi.1 hi.2 hn
  have hcell : H[zgb G + a]? = some (arrV (zgT G 4) len (fun j => va_rf ((f j).map (fun a => zgb G + a)))) := hw a _ hh
  refine W.aald (v := .ref (zgb G + b)) (ty := .array .long) F.1 F.2.1 hcell ((F.2.2.2.2.2.1.2.1.2 4 _ rfl).1 len (fun j => va_rf ((f j).map (fun a => zgb G + a)))) rfl (fun q => by cases q) (by rw [arrV_size]; exact hin) ?_ rfl rfl hd (k p e s m args below meth cd F H locs ls hz hw hs hl)
  rw [iZ_clamp hir, arrV_read _ _ (by omega), hf]
  rfl
end ZB
