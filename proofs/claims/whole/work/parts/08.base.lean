/-! booleans as answers -/
noncomputable def vb (P : Prop) : Value := by classical exact vi (if P then 1 else 0)
theorem vb_t {P : Prop} (h : P) : vb P = vi 1 := by unfold vb; rw [if_pos h]
theorem vb_f {P : Prop} (h : ¬ P) : vb P = vi 0 := by unfold vb; rw [if_neg h]
theorem zb_t {P : Prop} {Post : Option Value → Nat → zH → Prop} {n : Nat} {h : zH} (hp : P) (k : Post (some (vb P)) n h) : Post (some (vi 1)) n h := by rw [← vb_t hp]; exact k
theorem zb_f {P : Prop} {Post : Option Value → Nat → zH → Prop} {n : Nat} {h : zH} (hp : ¬ P) (k : Post (some (vb P)) n h) : Post (some (vi 0)) n h := by rw [← vb_f hp]; exact k
section BB
variable {G : zG} {M : zM} {XF : Array Value → State → Code → Prop} {QF : List Frame → Array Value → State → State → Prop} {pc : Nat} {lo : List (Option Value)} {st : List Value} {n : Nat} {h : zH} {c sl : Nat}
theorem zb_eq {P : Prop} {off : Int} {tgt : Nat} (ht : (pc : Int) + off = (tgt : Int)) (hd : decode M.2.1 pc = .ok (.ifCond .eq off, 3)) (kt : ¬ P → zAW G M XF QF tgt lo st n h c sl) (kf : P → zAW G M XF QF (pc + 3) lo st n h c sl) : zAW G M XF QF pc lo (vb P :: st) n h c sl := by
  by_cases hp : P
  · rw [vb_t hp]; exact zr_if_eq ⟨by decide, by decide⟩ ht hd (fun q => absurd q (by decide)) (fun _ => kf hp)
  · rw [vb_f hp]; exact zr_if_eq ⟨by decide, by decide⟩ ht hd (fun _ => kt hp) (fun q => absurd rfl q)
theorem zb_ne {P : Prop} {off : Int} {tgt : Nat} (ht : (pc : Int) + off = (tgt : Int)) (hd : decode M.2.1 pc = .ok (.ifCond .ne off, 3)) (kt : P → zAW G M XF QF tgt lo st n h c sl) (kf : ¬ P → zAW G M XF QF (pc + 3) lo st n h c sl) : zAW G M XF QF pc lo (vb P :: st) n h c sl := by
  by_cases hp : P
  · rw [vb_t hp]; exact zr_if_ne ⟨by decide, by decide⟩ ht hd (fun _ => kt hp) (fun q => absurd q (by decide))
  · rw [vb_f hp]; exact zr_if_ne ⟨by decide, by decide⟩ ht hd (fun q => absurd rfl q) (fun _ => kf hp)
theorem zk_eq0 {off : Int} {tgt : Nat} (ht : (pc : Int) + off = (tgt : Int)) (hd : decode M.2.1 pc = .ok (.ifCond .eq off, 3)) (k : zAW G M XF QF tgt lo st n h c sl) : zAW G M XF QF pc lo (vi 0 :: st) n h c sl := zr_if_eq ⟨by decide, by decide⟩ ht hd (fun _ => k) (fun q => absurd rfl q)
theorem zk_ne1 {off : Int} {tgt : Nat} (ht : (pc : Int) + off = (tgt : Int)) (hd : decode M.2.1 pc = .ok (.ifCond .ne off, 3)) (k : zAW G M XF QF tgt lo st n h c sl) : zAW G M XF QF pc lo (vi 1 :: st) n h c sl := zr_if_ne ⟨by decide, by decide⟩ ht hd (fun _ => k) (fun q => absurd q (by decide))
theorem zb_return {P : Prop} {Post : Option Value → Nat → zH → Prop} (hr : zmt M = some .boolean) (hc : c ≤ (zmr M).cells) (hsl : sl ≤ (zmr M).slots) (hd : decode M.2.1 pc = .ok (.ireturn, 1)) (hp : Post (some (vb P)) n h) : zAW G M XF (zF G M Post) pc lo [vb P] n h c sl := by
  by_cases q : P
  · rw [vb_t q] at hp ⊢; exact zr_zreturn hr (Or.inr rfl) hc hsl hd hp
  · rw [vb_f q] at hp ⊢; exact zr_zreturn hr (Or.inl rfl) hc hsl hd hp
end BB
/-! the objects, by what may change in them; cells lie where the law makes them -/
def oOff (now : Int) : va_E := .inr (7, [.ref 1, .ref 3, .ref 8, .ref 15, .ref 29, .ref 37, vi now])
def oTape (len : Int) : va_E := .inr (5, [.ref 2, vi len])
def oRoads (num : Int) : va_E := .inr (3, [.ref 4, .ref 5, .ref 6, .ref 7, vi num])
def oBooks (num : Int) : va_E := .inr (1, [.ref 9, .ref 10, .ref 11, .ref 12, .ref 13, .ref 14, vi num])
def oTal : va_E := .inr (4, [.ref 17, .ref 18, .ref 19, .ref 20])
def oView (ssz fnd time : Int) : va_E := .inr (6, [.ref 3, .ref 8, .ref 16, .ref 21, .ref 22, .ref 23, vi ssz, .ref 24, .ref 25, .ref 26, .ref 27, .ref 28, vi fnd, vi time])
def oBal (dv : Int) : va_E := .inr (0, [.ref 30, .ref 35, .ref 36, vl dv])
def oFrac (u l : Int) : va_E := .inr (2, [vl u, vl l])
def oMod (thrown len ents now all pm prod sq up low : Int) : va_E := .inr (8, [vi thrown, .ref 39, vi len, .ref 40, .ref 41, .ref 42, .ref 43, .ref 44, .ref 45, .ref 46, .ref 47, .ref 48, .ref 49, vi ents, vi now, .ref 50, .ref 51, .ref 52, .ref 53, vl all, vi pm, vl prod, vl sq, .ref 54, .ref 55, .ref 56, vl up, vl low, .ref 57, .ref 58, .ref 59, .ref 60, .ref 61, .ref 62, .ref 63, .ref 64])
/-- RoadOffice.isBelow -/
theorem k_X7_isBelow {G : zG} {n : Nat} {h : zH} {Post : Option Value → Nat → zH → Prop} {a b : Int} (ha : iR a) (hb : iR b) (k : Post (some (vb (0 ≤ a ∧ a < b))) n h) : zMP G mX7_isBelow [vi a, vi b] n h Post := by
  refine zMP_of (by decide) [some _, some _] (Nat.le_of_ble_eq_true rfl) rfl ?_
  refine zr_iload_n (pc := 0)  (i := 0) rfl rfl dX7_isBelow_0 ?_
  refine zr_if_lt (pc := 1)  (tgt := 13) ⟨by omega, by omega⟩ (by decide) dX7_isBelow_1 (fun q1 => ?_) (fun q1 => ?_)
  · refine zr_iconst (pc := 13)  dX7_isBelow_13 ?_
    refine zr_zreturn (pc := 14)  rfl (by omega) (by decide) (by decide) dX7_isBelow_14 ?_
    first | exact zb_t (by omega) k | exact zb_f (by omega) k
  · refine zr_iload_n (pc := 4)  (i := 0) rfl rfl dX7_isBelow_4 ?_
    refine zr_iload_n (pc := 5)  (i := 1) rfl rfl dX7_isBelow_5 ?_
    refine zr_icmp_ge (pc := 6)  (tgt := 13) ⟨by omega, by omega⟩ ⟨by omega, by omega⟩ (by decide) dX7_isBelow_6 (fun q6 => ?_) (fun q6 => ?_)
    · refine zr_iconst (pc := 13)  dX7_isBelow_13 ?_
      refine zr_zreturn (pc := 14)  rfl (by omega) (by decide) (by decide) dX7_isBelow_14 ?_
      first | exact zb_t (by omega) k | exact zb_f (by omega) k
    · refine zr_iconst (pc := 9)  dX7_isBelow_9 ?_
      refine zr_goto (pc := 10)  (tgt := 14) (by decide) dX7_isBelow_10 ?_
      refine zr_zreturn (pc := 14)  rfl (by omega) (by decide) (by decide) dX7_isBelow_14 ?_
      first | exact zb_t (by omega) k | exact zb_f (by omega) k
theorem k_X7_isPart {G : zG} {n : Nat} {h : zH} {Post : Option Value → Nat → zH → Prop} {a : Int} (ha : iR a) (k : Post (some (vb (a = 0 ∨ a = 1))) n h) : zMP G mX7_isPart [vi a] n h Post := by
  refine zMP_of (by decide) [some _] (Nat.le_of_ble_eq_true rfl) rfl ?_
  refine zr_iload_n (pc := 0)  (i := 0) rfl rfl dX7_isPart_0 ?_
  refine zr_if_eq (pc := 1)  (tgt := 9) ⟨by omega, by omega⟩ (by decide) dX7_isPart_1 (fun q1 => ?_) (fun q1 => ?_)
  · refine zr_iconst (pc := 9)  dX7_isPart_9 ?_
    refine zr_goto (pc := 10)  (tgt := 14) (by decide) dX7_isPart_10 ?_
    refine zr_zreturn (pc := 14)  rfl (by omega) (by decide) (by decide) dX7_isPart_14 ?_
    first | exact zb_t (by omega) k | exact zb_f (by omega) k
  · refine zr_iload_n (pc := 4)  (i := 0) rfl rfl dX7_isPart_4 ?_
    refine zr_iconst (pc := 5)  dX7_isPart_5 ?_
    refine zr_icmp_ne (pc := 6)  (tgt := 13) ⟨by omega, by omega⟩ ⟨by omega, by omega⟩ (by decide) dX7_isPart_6 (fun q6 => ?_) (fun q6 => ?_)
    · refine zr_iconst (pc := 13)  dX7_isPart_13 ?_
      refine zr_zreturn (pc := 14)  rfl (by omega) (by decide) (by decide) dX7_isPart_14 ?_
      first | exact zb_t (by omega) k | exact zb_f (by omega) k
    · refine zr_iconst (pc := 9)  dX7_isPart_9 ?_
      refine zr_goto (pc := 10)  (tgt := 14) (by decide) dX7_isPart_10 ?_
      refine zr_zreturn (pc := 14)  rfl (by omega) (by decide) (by decide) dX7_isPart_14 ?_
      first | exact zb_t (by omega) k | exact zb_f (by omega) k
