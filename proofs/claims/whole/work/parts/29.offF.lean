/-- how many more come than go at crossing c, by the first m roads -/
def exZ (fl rs rg : Int → Int) (c : Int) (m : Nat) : Int := sumZ (fun r => if fl r = -1 then 0 else (if rg r = c then fl r else 0) - (if rs r = c then fl r else 0)) m
theorem l_X7_excessAt {G : zG} {n : Nat} {h : zH} {Post : Option Value → Nat → zH → Prop} {now num ssz fnd tm c : Int} {fl rs rg : Int → Int} (g0 : h 0 = some (oOff now)) (g3 : h 3 = some (oRoads num)) (g5 : h 5 = some (aI 16 rs)) (g6 : h 6 = some (aI 16 rg)) (g15 : h 15 = some (oView ssz fnd tm)) (g26 : h 26 = some (aI 16 fl)) (hf : ∀ i, 0 ≤ i → i < 16 → -1 ≤ fl i ∧ fl i ≤ 100000) (hs : ∀ i, 0 ≤ rs i ∧ rs i < 8) (hg : ∀ i, 0 ≤ rg i ∧ rg i < 8) (hc : iR c) (kk : Post (some (vi (exZ fl rs rg c 16))) n h) : ∀ (k m : Nat) (ct : Int), 16 - m ≤ k → m ≤ 16 → ct = exZ fl rs rg c m → zAW G mX7_excessAt zTT (zF G mX7_excessAt Post) 4 [some (.ref 0), some (vi c), some (vi ct), some (vi m)] [] n h 0 0 := by
  intro k
  induction k with
  | zero =>
    intro m ct hk hm hT
    obtain rfl : m = 16 := by omega
    rw [← hT] at kk
    refine zr_iload_n (pc := 4)  (i := 3) rfl rfl dX7_excessAt_4 ?_
    refine zr_bipush (pc := 5)  (by decide) dX7_excessAt_5 ?_
    refine zr_icmp_ge (pc := 7)  (tgt := 74) ⟨by omega, by omega⟩ ⟨by omega, by omega⟩ (by decide) dX7_excessAt_7 (fun q7 => ?_) (fun q7 => ?_)
    · refine zr_iload_n (pc := 74)  (i := 2) rfl rfl dX7_excessAt_74 ?_
      refine zr_ireturn (pc := 75)  rfl (by decide) (by decide) dX7_excessAt_75 ?_
      exact kk
    · exact absurd q7 (by omega)
  | succ k ih =>
    intro m ct hk hm hT
    have es : exZ fl rs rg c (m + 1) = ct + (if fl m = -1 then 0 else (if rg m = c then fl m else 0) - (if rs m = c then fl m else 0)) := by rw [hT]; rfl
    have h1 := hs m
    have h2 := hg m
    refine zr_iload_n (pc := 4)  (i := 3) rfl rfl dX7_excessAt_4 ?_
    refine zr_bipush (pc := 5)  (by decide) dX7_excessAt_5 ?_
    refine zr_icmp_ge (pc := 7)  (tgt := 74) ⟨by omega, by omega⟩ ⟨by omega, by omega⟩ (by decide) dX7_excessAt_7 (fun q7 => ?_) (fun q7 => ?_)
    · refine zr_iload_n (pc := 74)  (i := 2) rfl rfl dX7_excessAt_74 ?_
      refine zr_ireturn (pc := 75)  rfl (by decide) (by decide) dX7_excessAt_75 ?_
      obtain rfl : m = 16 := by omega
      rw [← hT] at kk
      exact kk
    · have hfm := hf m (by omega) (by omega)
      refine zr_aload_n (pc := 10)  (i := 0) rfl rfl dX7_excessAt_10 ?_
      refine zr_get (pc := 11)  fl_X7_35 (by first | assumption | rfl | (repeat (first | assumption | exact zup_s | refine zup_g (by decide) ?_))) rfl dX7_excessAt_11 ?_
      refine zr_iload_n (pc := 14)  (i := 3) rfl rfl dX7_excessAt_14 ?_
      refine zv_call1 (pc := 15)  cv_X7_excessAt_158 (by first | assumption | rfl | (repeat (first | assumption | exact zup_s | refine zup_g (by decide) ?_))) ⟨_, rfl, rfl⟩ (Nat.le_of_ble_eq_true rfl) (by decide) dX7_excessAt_15 ?_
      refine k_X6_flowOf (by first | assumption | omega | (refine ⟨?_, ?_⟩ <;> omega) | rfl | (repeat (first | assumption | exact zup_s | refine zup_g (by decide) ?_))) (by first | assumption | omega | (refine ⟨?_, ?_⟩ <;> omega) | rfl | (repeat (first | assumption | exact zup_s | refine zup_g (by decide) ?_))) (by first | assumption | omega | (refine ⟨?_, ?_⟩ <;> omega) | rfl | (repeat (first | assumption | exact zup_s | refine zup_g (by decide) ?_))) ?_
      dsimp only [Option.toList, List.cons_append, List.nil_append]
      refine zr_iconst (pc := 18)  dX7_excessAt_18 ?_
      refine zr_icmp_eq (pc := 19)  (tgt := 68) ⟨by omega, by omega⟩ ⟨by omega, by omega⟩ (by decide) dX7_excessAt_19 (fun q19 => ?_) (fun q19 => ?_)
      · refine zs_iinc_3 (pc := 68)  (by first | exact zn_i | exact zn_r | exact zn_0) (by decide) dX7_excessAt_68 ?_
        refine zr_goto (pc := 71)  (tgt := 4) (by decide) dX7_excessAt_71 ?_
        exact ih (m + 1) _ (by omega) (by omega) (by rw [es]; (repeat' split) <;> omega)
      · refine zr_aload_n (pc := 22)  (i := 0) rfl rfl dX7_excessAt_22 ?_
        refine zr_get (pc := 23)  fl_X7_19 (by first | assumption | rfl | (repeat (first | assumption | exact zup_s | refine zup_g (by decide) ?_))) rfl dX7_excessAt_23 ?_
        refine zr_iload_n (pc := 26)  (i := 3) rfl rfl dX7_excessAt_26 ?_
        refine zv_call1 (pc := 27)  cv_X7_excessAt_174 (by first | assumption | rfl | (repeat (first | assumption | exact zup_s | refine zup_g (by decide) ?_))) ⟨_, rfl, rfl⟩ (Nat.le_of_ble_eq_true rfl) (by decide) dX7_excessAt_27 ?_
        refine k_X3_goal (by first | assumption | omega | (refine ⟨?_, ?_⟩ <;> omega) | rfl | (repeat (first | assumption | exact zup_s | refine zup_g (by decide) ?_))) (by first | assumption | omega | (refine ⟨?_, ?_⟩ <;> omega) | rfl | (repeat (first | assumption | exact zup_s | refine zup_g (by decide) ?_))) (by first | assumption | omega | (refine ⟨?_, ?_⟩ <;> omega) | rfl | (repeat (first | assumption | exact zup_s | refine zup_g (by decide) ?_))) ?_
        dsimp only [Option.toList, List.cons_append, List.nil_append]
        refine zr_iload_n (pc := 30)  (i := 1) rfl rfl dX7_excessAt_30 ?_
        refine zr_icmp_ne (pc := 31)  (tgt := 45) ⟨by omega, by omega⟩ ⟨by omega, by omega⟩ (by decide) dX7_excessAt_31 (fun q31 => ?_) (fun q31 => ?_)
        · refine zr_aload_n (pc := 45)  (i := 0) rfl rfl dX7_excessAt_45 ?_
          refine zr_get (pc := 46)  fl_X7_19 (by first | assumption | rfl | (repeat (first | assumption | exact zup_s | refine zup_g (by decide) ?_))) rfl dX7_excessAt_46 ?_
          refine zr_iload_n (pc := 49)  (i := 3) rfl rfl dX7_excessAt_49 ?_
          refine zv_call1 (pc := 50)  cv_X7_excessAt_171 (by first | assumption | rfl | (repeat (first | assumption | exact zup_s | refine zup_g (by decide) ?_))) ⟨_, rfl, rfl⟩ (Nat.le_of_ble_eq_true rfl) (by decide) dX7_excessAt_50 ?_
          refine k_X3_start (by first | assumption | omega | (refine ⟨?_, ?_⟩ <;> omega) | rfl | (repeat (first | assumption | exact zup_s | refine zup_g (by decide) ?_))) (by first | assumption | omega | (refine ⟨?_, ?_⟩ <;> omega) | rfl | (repeat (first | assumption | exact zup_s | refine zup_g (by decide) ?_))) (by first | assumption | omega | (refine ⟨?_, ?_⟩ <;> omega) | rfl | (repeat (first | assumption | exact zup_s | refine zup_g (by decide) ?_))) ?_
          dsimp only [Option.toList, List.cons_append, List.nil_append]
          refine zr_iload_n (pc := 53)  (i := 1) rfl rfl dX7_excessAt_53 ?_
          refine zr_icmp_ne (pc := 54)  (tgt := 68) ⟨by omega, by omega⟩ ⟨by omega, by omega⟩ (by decide) dX7_excessAt_54 (fun q54 => ?_) (fun q54 => ?_)
          · refine zs_iinc_3 (pc := 68)  (by first | exact zn_i | exact zn_r | exact zn_0) (by decide) dX7_excessAt_68 ?_
            refine zr_goto (pc := 71)  (tgt := 4) (by decide) dX7_excessAt_71 ?_
            exact ih (m + 1) _ (by omega) (by omega) (by rw [es]; (repeat' split) <;> omega)
          · refine zr_iload_n (pc := 57)  (i := 2) rfl rfl dX7_excessAt_57 ?_
            refine zr_aload_n (pc := 58)  (i := 0) rfl rfl dX7_excessAt_58 ?_
            refine zr_get (pc := 59)  fl_X7_35 (by first | assumption | rfl | (repeat (first | assumption | exact zup_s | refine zup_g (by decide) ?_))) rfl dX7_excessAt_59 ?_
            refine zr_iload_n (pc := 62)  (i := 3) rfl rfl dX7_excessAt_62 ?_
            refine zv_call1 (pc := 63)  cv_X7_excessAt_158 (by first | assumption | rfl | (repeat (first | assumption | exact zup_s | refine zup_g (by decide) ?_))) ⟨_, rfl, rfl⟩ (Nat.le_of_ble_eq_true rfl) (by decide) dX7_excessAt_63 ?_
            refine k_X6_flowOf (by first | assumption | omega | (refine ⟨?_, ?_⟩ <;> omega) | rfl | (repeat (first | assumption | exact zup_s | refine zup_g (by decide) ?_))) (by first | assumption | omega | (refine ⟨?_, ?_⟩ <;> omega) | rfl | (repeat (first | assumption | exact zup_s | refine zup_g (by decide) ?_))) (by first | assumption | omega | (refine ⟨?_, ?_⟩ <;> omega) | rfl | (repeat (first | assumption | exact zup_s | refine zup_g (by decide) ?_))) ?_
            dsimp only [Option.toList, List.cons_append, List.nil_append]
            refine zr_isub (pc := 66)  dX7_excessAt_66 ?_
            refine zs_istore_n_2 (pc := 67)  (by first | exact zn_i | exact zn_r | exact zn_0) (by decide) dX7_excessAt_67 ?_
            refine zs_iinc_3 (pc := 68)  (by first | exact zn_i | exact zn_r | exact zn_0) (by decide) dX7_excessAt_68 ?_
            refine zr_goto (pc := 71)  (tgt := 4) (by decide) dX7_excessAt_71 ?_
            exact ih (m + 1) _ (by omega) (by omega) (by rw [es]; (repeat' split) <;> omega)
        · refine zr_iload_n (pc := 34)  (i := 2) rfl rfl dX7_excessAt_34 ?_
          refine zr_aload_n (pc := 35)  (i := 0) rfl rfl dX7_excessAt_35 ?_
          refine zr_get (pc := 36)  fl_X7_35 (by first | assumption | rfl | (repeat (first | assumption | exact zup_s | refine zup_g (by decide) ?_))) rfl dX7_excessAt_36 ?_
          refine zr_iload_n (pc := 39)  (i := 3) rfl rfl dX7_excessAt_39 ?_
          refine zv_call1 (pc := 40)  cv_X7_excessAt_158 (by first | assumption | rfl | (repeat (first | assumption | exact zup_s | refine zup_g (by decide) ?_))) ⟨_, rfl, rfl⟩ (Nat.le_of_ble_eq_true rfl) (by decide) dX7_excessAt_40 ?_
          refine k_X6_flowOf (by first | assumption | omega | (refine ⟨?_, ?_⟩ <;> omega) | rfl | (repeat (first | assumption | exact zup_s | refine zup_g (by decide) ?_))) (by first | assumption | omega | (refine ⟨?_, ?_⟩ <;> omega) | rfl | (repeat (first | assumption | exact zup_s | refine zup_g (by decide) ?_))) (by first | assumption | omega | (refine ⟨?_, ?_⟩ <;> omega) | rfl | (repeat (first | assumption | exact zup_s | refine zup_g (by decide) ?_))) ?_
          dsimp only [Option.toList, List.cons_append, List.nil_append]
          refine zr_iadd (pc := 43)  dX7_excessAt_43 ?_
          refine zs_istore_n_2 (pc := 44)  (by first | exact zn_i | exact zn_r | exact zn_0) (by decide) dX7_excessAt_44 ?_
          refine zr_aload_n (pc := 45)  (i := 0) rfl rfl dX7_excessAt_45 ?_
          refine zr_get (pc := 46)  fl_X7_19 (by first | assumption | rfl | (repeat (first | assumption | exact zup_s | refine zup_g (by decide) ?_))) rfl dX7_excessAt_46 ?_
          refine zr_iload_n (pc := 49)  (i := 3) rfl rfl dX7_excessAt_49 ?_
          refine zv_call1 (pc := 50)  cv_X7_excessAt_171 (by first | assumption | rfl | (repeat (first | assumption | exact zup_s | refine zup_g (by decide) ?_))) ⟨_, rfl, rfl⟩ (Nat.le_of_ble_eq_true rfl) (by decide) dX7_excessAt_50 ?_
          refine k_X3_start (by first | assumption | omega | (refine ⟨?_, ?_⟩ <;> omega) | rfl | (repeat (first | assumption | exact zup_s | refine zup_g (by decide) ?_))) (by first | assumption | omega | (refine ⟨?_, ?_⟩ <;> omega) | rfl | (repeat (first | assumption | exact zup_s | refine zup_g (by decide) ?_))) (by first | assumption | omega | (refine ⟨?_, ?_⟩ <;> omega) | rfl | (repeat (first | assumption | exact zup_s | refine zup_g (by decide) ?_))) ?_
          dsimp only [Option.toList, List.cons_append, List.nil_append]
          refine zr_iload_n (pc := 53)  (i := 1) rfl rfl dX7_excessAt_53 ?_
          refine zr_icmp_ne (pc := 54)  (tgt := 68) ⟨by omega, by omega⟩ ⟨by omega, by omega⟩ (by decide) dX7_excessAt_54 (fun q54 => ?_) (fun q54 => ?_)
          · refine zs_iinc_3 (pc := 68)  (by first | exact zn_i | exact zn_r | exact zn_0) (by decide) dX7_excessAt_68 ?_
            refine zr_goto (pc := 71)  (tgt := 4) (by decide) dX7_excessAt_71 ?_
            exact ih (m + 1) _ (by omega) (by omega) (by rw [es]; (repeat' split) <;> omega)
          · refine zr_iload_n (pc := 57)  (i := 2) rfl rfl dX7_excessAt_57 ?_
            refine zr_aload_n (pc := 58)  (i := 0) rfl rfl dX7_excessAt_58 ?_
            refine zr_get (pc := 59)  fl_X7_35 (by first | assumption | rfl | (repeat (first | assumption | exact zup_s | refine zup_g (by decide) ?_))) rfl dX7_excessAt_59 ?_
            refine zr_iload_n (pc := 62)  (i := 3) rfl rfl dX7_excessAt_62 ?_
            refine zv_call1 (pc := 63)  cv_X7_excessAt_158 (by first | assumption | rfl | (repeat (first | assumption | exact zup_s | refine zup_g (by decide) ?_))) ⟨_, rfl, rfl⟩ (Nat.le_of_ble_eq_true rfl) (by decide) dX7_excessAt_63 ?_
            refine k_X6_flowOf (by first | assumption | omega | (refine ⟨?_, ?_⟩ <;> omega) | rfl | (repeat (first | assumption | exact zup_s | refine zup_g (by decide) ?_))) (by first | assumption | omega | (refine ⟨?_, ?_⟩ <;> omega) | rfl | (repeat (first | assumption | exact zup_s | refine zup_g (by decide) ?_))) (by first | assumption | omega | (refine ⟨?_, ?_⟩ <;> omega) | rfl | (repeat (first | assumption | exact zup_s | refine zup_g (by decide) ?_))) ?_
            dsimp only [Option.toList, List.cons_append, List.nil_append]
            refine zr_isub (pc := 66)  dX7_excessAt_66 ?_
            refine zs_istore_n_2 (pc := 67)  (by first | exact zn_i | exact zn_r | exact zn_0) (by decide) dX7_excessAt_67 ?_
            refine zs_iinc_3 (pc := 68)  (by first | exact zn_i | exact zn_r | exact zn_0) (by decide) dX7_excessAt_68 ?_
            refine zr_goto (pc := 71)  (tgt := 4) (by decide) dX7_excessAt_71 ?_
            exact ih (m + 1) _ (by omega) (by omega) (by rw [es]; (repeat' split) <;> omega)
theorem k_X7_excessAt {G : zG} {n : Nat} {h : zH} {Post : Option Value → Nat → zH → Prop} {now num ssz fnd tm c : Int} {fl rs rg : Int → Int} (g0 : h 0 = some (oOff now)) (g3 : h 3 = some (oRoads num)) (g5 : h 5 = some (aI 16 rs)) (g6 : h 6 = some (aI 16 rg)) (g15 : h 15 = some (oView ssz fnd tm)) (g26 : h 26 = some (aI 16 fl)) (hf : ∀ i, 0 ≤ i → i < 16 → -1 ≤ fl i ∧ fl i ≤ 100000) (hs : ∀ i, 0 ≤ rs i ∧ rs i < 8) (hg : ∀ i, 0 ≤ rg i ∧ rg i < 8) (hc : iR c) (k : Post (some (vi (exZ fl rs rg c 16))) n h) : zMP G mX7_excessAt [.ref 0, vi c] n h Post := by
  refine zMP_of (by decide) [some _, some _, none, none] (Nat.le_of_ble_eq_true rfl) rfl ?_
  refine zr_iconst (pc := 0)  dX7_excessAt_0 ?_
  refine zs_istore_n_2 (pc := 1)  (by first | exact zn_i | exact zn_r | exact zn_0) (by decide) dX7_excessAt_1 ?_
  refine zr_iconst (pc := 2)  dX7_excessAt_2 ?_
  refine zs_istore_n_3 (pc := 3)  (by first | exact zn_i | exact zn_r | exact zn_0) (by decide) dX7_excessAt_3 ?_
  exact l_X7_excessAt g0 g3 g5 g6 g15 g26 hf hs hg hc k 16 0 0 (by omega) (by omega) rfl
theorem exZ_R {fl rs rg : Int → Int} (hf : ∀ i, 0 ≤ i → i < 16 → -1 ≤ fl i ∧ fl i ≤ 100000) {c : Int} : ∀ m : Nat, m ≤ 16 → -(100000 * (m : Int)) ≤ exZ fl rs rg c m ∧ exZ fl rs rg c m ≤ 100000 * (m : Int)
  | 0, _ => by simp [exZ, sumZ]
  | m + 1, h => by
    have h1 := exZ_R (rs := rs) (rg := rg) hf (c := c) m (by omega)
    have h2 := hf m (by omega) (by omega)
    have e : exZ fl rs rg c (m + 1) = exZ fl rs rg c m + (if fl m = -1 then 0 else (if rg m = c then fl m else 0) - (if rs m = c then fl m else 0)) := rfl
    rw [e]
    (repeat' split) <;> omega
/-- the table of doubts, and what turns it over beside it -/
def lpZ (fl rs rg db : Int → Int) (m : Nat) : Int → Int → Int := fun c j => (if j = 4 + c then 1 else 0) + (if j < 4 then sumZ (fun r => if fl r = -1 then 0 else arZ (rs r) (rg r) (db r) c j) m else 0)
theorem itT_congr {T T2 : Int → Int → Int} {dv : Int} (h : eqT T T2) : ∀ k : Nat, k ≤ 4 → (itT T dv k).2 = (itT T2 dv k).2 ∧ eqT (itT T dv k).1 (itT T2 dv k).1
  | 0, _ => ⟨rfl, h⟩
  | k + 1, hk => by
    obtain ⟨h1, h2⟩ := itT_congr h k (by omega)
    have e := h2 k k (by omega) (by omega) (by omega) (by omega)
    show (stT (itT T dv k) k).2 = (stT (itT T2 dv k) k).2 ∧ eqT (stT (itT T dv k) k).1 (stT (itT T2 dv k) k).1
    unfold stT
    by_cases q : 0 < (itT T dv k).1 k k
    · rw [if_pos q, if_pos (by rw [← e]; exact q)]
      exact ⟨e, by rw [h1]; exact toT_congr ⟨by omega, by omega⟩ h2⟩
    · rw [if_neg q, if_neg (by rw [← e]; exact q)]
      exact ⟨h1, h2⟩
theorem seB_congr {T T2 : Int → Int → Int} (h : eqT T T2) (hb : seB T2) : seB T := by
  refine ⟨fun k hk => ?_, fun c a b => ?_⟩
  · obtain ⟨h1, h2⟩ := itT_congr (dv := 1) h k (by omega)
    have hb1 := hb.1 k hk
    have e := h2 k k (by omega) (by omega) (by omega) (by omega)
    rw [e, h1]
    refine ⟨hb1.1, fun q => ⟨(hb1.2 q).1, fun r i a b a2 b2 => ?_⟩⟩
    rw [h2 r i a b a2 b2, h2 r k a b (by omega) (by omega), h2 k i (by omega) (by omega) a2 b2]
    exact (hb1.2 q).2 r i a b a2 b2
  · rw [(itT_congr (dv := 1) h 4 (by omega)).2 c c a b a (by omega)]
    exact hb.2 c a b
theorem plZ_congr {T T2 : Int → Int → Int} {ex ex2 : Int → Int} (h : eqT T T2) (he : ∀ c, 0 ≤ c → c < 4 → ex c = ex2 c) {c : Int} (hc : 0 ≤ c ∧ c < 4) : plZ T ex c = plZ T2 ex2 c := by
  unfold plZ
  rw [h c c hc.1 hc.2 hc.1 (by omega), sumZ_congr 4 (fun j a b => by rw [h c (4 + j) hc.1 hc.2 (by omega) (by omega), he j a (by omega)])]
section SB
variable {G : zG} {n : Nat} {h : zH} {Post : Option Value → Nat → zH → Prop} {now num ssz fnd tm : Int} {fl rs rg db : Int → Int}
theorem l_X7_settle2 {dv : Int} {T : Int → Int → Int} {pu : Int → Int} (g0 : h 0 = some (oOff now)) (g3 : h 3 = some (oRoads num)) (g5 : h 5 = some (aI 16 rs)) (g6 : h 6 = some (aI 16 rg)) (g15 : h 15 = some (oView ssz fnd tm)) (g26 : h 26 = some (aI 16 fl)) (g30 : h 30 = some oTb) (hf : ∀ i, 0 ≤ i → i < 16 → -1 ≤ fl i ∧ fl i ≤ 100000) (hs : ∀ i, 0 ≤ rs i ∧ rs i < 8) (hg : ∀ i, 0 ≤ rg i ∧ rg i < 8) (hdv : dv = 1) (hT : eqT T (lpZ fl rs rg db 16)) (hb : seB (lpZ fl rs rg db 16)) (kk : ∀ (T2 : Int → Int → Int) (ex pu2 : Int → Int), eqT T2 (itT (lpZ fl rs rg db 16) 1 4).1 → (∀ c, 0 ≤ c → c < 4 → pu2 c = plZ (itT (lpZ fl rs rg db 16) 1 4).1 (fun c => exZ fl rs rg c 16) c) → (∀ c, 4 ≤ c → pu2 c = pu c) → Post none n (hB h (itT (lpZ fl rs rg db 16) 1 4).2 T2 ex pu2)) : ∀ (k : Nat) (m : Int) (ex : Int → Int), 4 - m ≤ k → 0 ≤ m → m ≤ 4 → (∀ c, 0 ≤ c → c < m → ex c = exZ fl rs rg c 16) → zAW G mX7_settleBalance zTT (zF G mX7_settleBalance Post) 66 [some (.ref 0), some (vi m)] [] n (hB h dv T ex pu) 0 0 := by
  subst hdv
  have hit := itT_congr (dv := 1) hT 4 (by omega)
  intro k
  induction k with
  | zero =>
    intro m ex hk h0 hm he
    obtain rfl : m = 4 := by omega
    refine zr_iload_n (pc := 66)  (i := 1) rfl rfl dX7_settleBalance_66 ?_
    refine zr_iconst (pc := 67)  dX7_settleBalance_67 ?_
    refine zr_icmp_ge (pc := 68)  (tgt := 90) ⟨by omega, by omega⟩ ⟨by omega, by omega⟩ (by decide) dX7_settleBalance_68 (fun q68 => ?_) (fun q68 => ?_)
    · refine zr_aload_n (pc := 90)  (i := 0) rfl rfl dX7_settleBalance_90 ?_
      refine zr_get (pc := 91)  fl_X7_42 (by first | assumption | rfl | (repeat (first | assumption | exact zup_s | refine zup_g (by decide) ?_))) rfl dX7_settleBalance_91 ?_
      refine zv_call0 (pc := 94)  cv_X7_settleBalance_215 (by first | assumption | rfl | (repeat (first | assumption | exact zup_s | refine zup_g (by decide) ?_))) ⟨_, rfl, rfl⟩ (Nat.le_of_ble_eq_true rfl) (by decide) dX7_settleBalance_94 ?_
      refine k_X0_settle g30 (seB_congr hT hb) (fun T2 pu2 a b c => ?_)
      dsimp only [Option.toList, List.cons_append, List.nil_append]
      refine zr_vreturn (pc := 97)  rfl (by decide) (by decide) dX7_settleBalance_97 ?_
      rw [hit.1]
      exact kk _ _ _ (eqT_trans a hit.2) (fun c2 x y => (b c2 x y).trans (plZ_congr hit.2 he ⟨x, y⟩)) c
    · exact absurd q68 (by omega)
  | succ k ih =>
    intro m ex hk h0 hm he
    refine zr_iload_n (pc := 66)  (i := 1) rfl rfl dX7_settleBalance_66 ?_
    refine zr_iconst (pc := 67)  dX7_settleBalance_67 ?_
    refine zr_icmp_ge (pc := 68)  (tgt := 90) ⟨by omega, by omega⟩ ⟨by omega, by omega⟩ (by decide) dX7_settleBalance_68 (fun q68 => ?_) (fun q68 => ?_)
    · refine zr_aload_n (pc := 90)  (i := 0) rfl rfl dX7_settleBalance_90 ?_
      refine zr_get (pc := 91)  fl_X7_42 (by first | assumption | rfl | (repeat (first | assumption | exact zup_s | refine zup_g (by decide) ?_))) rfl dX7_settleBalance_91 ?_
      refine zv_call0 (pc := 94)  cv_X7_settleBalance_215 (by first | assumption | rfl | (repeat (first | assumption | exact zup_s | refine zup_g (by decide) ?_))) ⟨_, rfl, rfl⟩ (Nat.le_of_ble_eq_true rfl) (by decide) dX7_settleBalance_94 ?_
      refine k_X0_settle g30 (seB_congr hT hb) (fun T2 pu2 a b c => ?_)
      dsimp only [Option.toList, List.cons_append, List.nil_append]
      refine zr_vreturn (pc := 97)  rfl (by decide) (by decide) dX7_settleBalance_97 ?_
      rw [hit.1]
      exact kk _ _ _ (eqT_trans a hit.2) (fun c2 x y => (b c2 x y).trans (plZ_congr hit.2 (fun c3 x3 y3 => he c3 x3 (by omega)) ⟨x, y⟩)) c
    · refine zr_aload_n (pc := 71)  (i := 0) rfl rfl dX7_settleBalance_71 ?_
      refine zr_get (pc := 72)  fl_X7_42 (by first | assumption | rfl | (repeat (first | assumption | exact zup_s | refine zup_g (by decide) ?_))) rfl dX7_settleBalance_72 ?_
      refine zr_iload_n (pc := 75)  (i := 1) rfl rfl dX7_settleBalance_75 ?_
      refine zr_aload_n (pc := 76)  (i := 0) rfl rfl dX7_settleBalance_76 ?_
      refine zr_iload_n (pc := 77)  (i := 1) rfl rfl dX7_settleBalance_77 ?_
      refine zv_call1 (pc := 78)  cv_X7_settleBalance_163 (by first | assumption | rfl | (repeat (first | assumption | exact zup_s | refine zup_g (by decide) ?_))) ⟨_, rfl, rfl⟩ (Nat.le_of_ble_eq_true rfl) (by decide) dX7_settleBalance_78 ?_
      refine k_X7_excessAt g0 g3 g5 g6 g15 g26 hf hs hg ⟨by omega, by omega⟩ ?_
      have hex := exZ_R (rs := rs) (rg := rg) hf (c := m) 16 (by omega)
      dsimp only [Option.toList, List.cons_append, List.nil_append]
      refine zv_call2 (pc := 81)  cv_X7_settleBalance_211 (by first | assumption | rfl | (repeat (first | assumption | exact zup_s | refine zup_g (by decide) ?_))) ⟨_, rfl, rfl⟩ (Nat.le_of_ble_eq_true rfl) (by decide) dX7_settleBalance_81 ?_
      refine k_X0_setExcess (by omega) ⟨by omega, by omega⟩ ?_
      dsimp only [Option.toList, List.cons_append, List.nil_append]
      refine zs_iinc_1 (pc := 84)  (by first | exact zn_i | exact zn_r | exact zn_0) (by decide) dX7_settleBalance_84 ?_
      refine zr_goto (pc := 87)  (tgt := 66) (by decide) dX7_settleBalance_87 ?_
      exact ih (m + 1) _ (by omega) (by omega) (by omega) (fun c a b => by by_cases e : c = m; (rw [e, uZ_s]); (rw [uZ_n e]; exact he c a (by omega)))
theorem l_X7_settle1 {dv : Int} {ex pu : Int → Int} (g0 : h 0 = some (oOff now)) (g3 : h 3 = some (oRoads num)) (g5 : h 5 = some (aI 16 rs)) (g6 : h 6 = some (aI 16 rg)) (g15 : h 15 = some (oView ssz fnd tm)) (g26 : h 26 = some (aI 16 fl)) (g27 : h 27 = some (aI 16 db)) (g30 : h 30 = some oTb) (hf : ∀ i, 0 ≤ i → i < 16 → -1 ≤ fl i ∧ fl i ≤ 100000) (hs : ∀ i, 0 ≤ rs i ∧ rs i < 8) (hg : ∀ i, 0 ≤ rg i ∧ rg i < 8) (hne : ∀ i, 0 ≤ i → i < 16 → fl i ≠ -1 → rs i ≠ rg i) (hd : ∀ i, 0 ≤ i → i < 16 → iR (db i)) (hdv : dv = 1) (hb : seB (lpZ fl rs rg db 16)) (hpu : ∀ c, 0 ≤ c → c < 8 → pu c = 0) (kk : ∀ (T2 : Int → Int → Int) (ex pu2 : Int → Int), eqT T2 (itT (lpZ fl rs rg db 16) 1 4).1 → (∀ c, 0 ≤ c → c < 4 → pu2 c = plZ (itT (lpZ fl rs rg db 16) 1 4).1 (fun c => exZ fl rs rg c 16) c) → (∀ c, 4 ≤ c → c < 8 → pu2 c = 0) → Post none n (hB h (itT (lpZ fl rs rg db 16) 1 4).2 T2 ex pu2)) : ∀ (k m : Nat) (T : Int → Int → Int), 16 - m ≤ k → m ≤ 16 → eqT T (lpZ fl rs rg db m) → zAW G mX7_settleBalance zTT (zF G mX7_settleBalance Post) 9 [some (.ref 0), some (vi m)] [] n (hB h dv T ex pu) 0 0 := by
  intro k
  induction k with
  | zero =>
    intro m T hk hm hT
    obtain rfl : m = 16 := by omega
    refine zr_iload_n (pc := 9)  (i := 1) rfl rfl dX7_settleBalance_9 ?_
    refine zr_bipush (pc := 10)  (by decide) dX7_settleBalance_10 ?_
    refine zr_icmp_ge (pc := 12)  (tgt := 64) ⟨by omega, by omega⟩ ⟨by omega, by omega⟩ (by decide) dX7_settleBalance_12 (fun q12 => ?_) (fun q12 => ?_)
    · refine zr_iconst (pc := 64)  dX7_settleBalance_64 ?_
      refine zs_istore_n_1 (pc := 65)  (by first | exact zn_i | exact zn_r | exact zn_0) (by decide) dX7_settleBalance_65 ?_
      exact l_X7_settle2 g0 g3 g5 g6 g15 g26 g30 hf hs hg hdv hT hb (fun T2 ex2 pu2 a b c => kk T2 ex2 pu2 a b (fun c2 x y => (c c2 x).trans (hpu c2 (by omega) y))) 4 0 ex (by omega) (by omega) (by omega) (fun c a b => by omega)
    · exact absurd q12 (by omega)
  | succ k ih =>
    intro m T hk hm hT
    have hsm := hs m
    have hgm := hg m
    have est : ∀ c j : Int, lpZ fl rs rg db (m + 1) c j = lpZ fl rs rg db m c j + (if j < 4 then (if fl m = -1 then 0 else arZ (rs m) (rg m) (db m) c j) else 0) := fun c j => by
      unfold lpZ
      by_cases q : j < 4
      · rw [if_pos q, if_pos q, if_pos q, Int.add_assoc]; rfl
      · rw [if_neg q, if_neg q, if_neg q, Int.add_zero, Int.add_zero]
    refine zr_iload_n (pc := 9)  (i := 1) rfl rfl dX7_settleBalance_9 ?_
    refine zr_bipush (pc := 10)  (by decide) dX7_settleBalance_10 ?_
    refine zr_icmp_ge (pc := 12)  (tgt := 64) ⟨by omega, by omega⟩ ⟨by omega, by omega⟩ (by decide) dX7_settleBalance_12 (fun q12 => ?_) (fun q12 => ?_)
    · obtain rfl : m = 16 := by omega
      refine zr_iconst (pc := 64)  dX7_settleBalance_64 ?_
      refine zs_istore_n_1 (pc := 65)  (by first | exact zn_i | exact zn_r | exact zn_0) (by decide) dX7_settleBalance_65 ?_
      exact l_X7_settle2 g0 g3 g5 g6 g15 g26 g30 hf hs hg hdv hT hb (fun T2 ex2 pu2 a b c => kk T2 ex2 pu2 a b (fun c2 x y => (c c2 x).trans (hpu c2 (by omega) y))) 4 0 ex (by omega) (by omega) (by omega) (fun c a b => by omega)
    · have hfm := hf m (by omega) (by omega)
      have hdm := hd m (by omega) (by omega)
      refine zr_aload_n (pc := 15)  (i := 0) rfl rfl dX7_settleBalance_15 ?_
      refine zr_get (pc := 16)  fl_X7_35 (by first | assumption | rfl | (repeat (first | assumption | exact zup_s | refine zup_g (by decide) ?_))) rfl dX7_settleBalance_16 ?_
      refine zr_iload_n (pc := 19)  (i := 1) rfl rfl dX7_settleBalance_19 ?_
      refine zv_call1 (pc := 20)  cv_X7_settleBalance_158 (by first | assumption | rfl | (repeat (first | assumption | exact zup_s | refine zup_g (by decide) ?_))) ⟨_, rfl, rfl⟩ (Nat.le_of_ble_eq_true rfl) (by decide) dX7_settleBalance_20 ?_
      refine k_X6_flowOf (by first | assumption | omega | (refine ⟨?_, ?_⟩ <;> omega) | rfl | (repeat (first | assumption | exact zup_s | refine zup_g (by decide) ?_))) (by first | assumption | omega | (refine ⟨?_, ?_⟩ <;> omega) | rfl | (repeat (first | assumption | exact zup_s | refine zup_g (by decide) ?_))) (by first | assumption | omega | (refine ⟨?_, ?_⟩ <;> omega) | rfl | (repeat (first | assumption | exact zup_s | refine zup_g (by decide) ?_))) ?_
      dsimp only [Option.toList, List.cons_append, List.nil_append]
      refine zr_iconst (pc := 23)  dX7_settleBalance_23 ?_
      refine zr_icmp_eq (pc := 24)  (tgt := 58) ⟨by omega, by omega⟩ ⟨by omega, by omega⟩ (by decide) dX7_settleBalance_24 (fun q24 => ?_) (fun q24 => ?_)
      · refine zs_iinc_1 (pc := 58)  (by first | exact zn_i | exact zn_r | exact zn_0) (by decide) dX7_settleBalance_58 ?_
        refine zr_goto (pc := 61)  (tgt := 9) (by decide) dX7_settleBalance_61 ?_
        first | exact ih (m + 1) T (by omega) (by omega) (fun c j a b a2 b2 => by rw [hT c j a b a2 b2, est, if_pos q24]; split <;> omega) | exact ih (m + 1) T2 (by omega) (by omega) (fun c j a b a2 b2 => by rw [hT2 c j a b a2 b2, hT c j a b a2 b2, est, if_neg q24])
      · refine zr_aload_n (pc := 27)  (i := 0) rfl rfl dX7_settleBalance_27 ?_
        refine zr_get (pc := 28)  fl_X7_42 (by first | assumption | rfl | (repeat (first | assumption | exact zup_s | refine zup_g (by decide) ?_))) rfl dX7_settleBalance_28 ?_
        refine zr_aload_n (pc := 31)  (i := 0) rfl rfl dX7_settleBalance_31 ?_
        refine zr_get (pc := 32)  fl_X7_19 (by first | assumption | rfl | (repeat (first | assumption | exact zup_s | refine zup_g (by decide) ?_))) rfl dX7_settleBalance_32 ?_
        refine zr_iload_n (pc := 35)  (i := 1) rfl rfl dX7_settleBalance_35 ?_
        refine zv_call1 (pc := 36)  cv_X7_settleBalance_171 (by first | assumption | rfl | (repeat (first | assumption | exact zup_s | refine zup_g (by decide) ?_))) ⟨_, rfl, rfl⟩ (Nat.le_of_ble_eq_true rfl) (by decide) dX7_settleBalance_36 ?_
        refine k_X3_start (by first | assumption | omega | (refine ⟨?_, ?_⟩ <;> omega) | rfl | (repeat (first | assumption | exact zup_s | refine zup_g (by decide) ?_))) (by first | assumption | omega | (refine ⟨?_, ?_⟩ <;> omega) | rfl | (repeat (first | assumption | exact zup_s | refine zup_g (by decide) ?_))) (by first | assumption | omega | (refine ⟨?_, ?_⟩ <;> omega) | rfl | (repeat (first | assumption | exact zup_s | refine zup_g (by decide) ?_))) ?_
        dsimp only [Option.toList, List.cons_append, List.nil_append]
        refine zr_aload_n (pc := 39)  (i := 0) rfl rfl dX7_settleBalance_39 ?_
        refine zr_get (pc := 40)  fl_X7_19 (by first | assumption | rfl | (repeat (first | assumption | exact zup_s | refine zup_g (by decide) ?_))) rfl dX7_settleBalance_40 ?_
        refine zr_iload_n (pc := 43)  (i := 1) rfl rfl dX7_settleBalance_43 ?_
        refine zv_call1 (pc := 44)  cv_X7_settleBalance_174 (by first | assumption | rfl | (repeat (first | assumption | exact zup_s | refine zup_g (by decide) ?_))) ⟨_, rfl, rfl⟩ (Nat.le_of_ble_eq_true rfl) (by decide) dX7_settleBalance_44 ?_
        refine k_X3_goal (by first | assumption | omega | (refine ⟨?_, ?_⟩ <;> omega) | rfl | (repeat (first | assumption | exact zup_s | refine zup_g (by decide) ?_))) (by first | assumption | omega | (refine ⟨?_, ?_⟩ <;> omega) | rfl | (repeat (first | assumption | exact zup_s | refine zup_g (by decide) ?_))) (by first | assumption | omega | (refine ⟨?_, ?_⟩ <;> omega) | rfl | (repeat (first | assumption | exact zup_s | refine zup_g (by decide) ?_))) ?_
        dsimp only [Option.toList, List.cons_append, List.nil_append]
        refine zr_aload_n (pc := 47)  (i := 0) rfl rfl dX7_settleBalance_47 ?_
        refine zr_get (pc := 48)  fl_X7_35 (by first | assumption | rfl | (repeat (first | assumption | exact zup_s | refine zup_g (by decide) ?_))) rfl dX7_settleBalance_48 ?_
        refine zr_iload_n (pc := 51)  (i := 1) rfl rfl dX7_settleBalance_51 ?_
        refine zv_call1 (pc := 52)  cv_X7_settleBalance_177 (by first | assumption | rfl | (repeat (first | assumption | exact zup_s | refine zup_g (by decide) ?_))) ⟨_, rfl, rfl⟩ (Nat.le_of_ble_eq_true rfl) (by decide) dX7_settleBalance_52 ?_
        refine k_X6_doubtOf (by first | assumption | omega | (refine ⟨?_, ?_⟩ <;> omega) | rfl | (repeat (first | assumption | exact zup_s | refine zup_g (by decide) ?_))) (by first | assumption | omega | (refine ⟨?_, ?_⟩ <;> omega) | rfl | (repeat (first | assumption | exact zup_s | refine zup_g (by decide) ?_))) (by first | assumption | omega | (refine ⟨?_, ?_⟩ <;> omega) | rfl | (repeat (first | assumption | exact zup_s | refine zup_g (by decide) ?_))) ?_
        dsimp only [Option.toList, List.cons_append, List.nil_append]
        refine zv_call3 (pc := 55)  cv_X7_settleBalance_208 (by first | assumption | rfl | (repeat (first | assumption | exact zup_s | refine zup_g (by decide) ?_))) ⟨_, rfl, rfl⟩ (Nat.le_of_ble_eq_true rfl) (by decide) dX7_settleBalance_55 ?_
        refine k_X0_addRoad g30 hsm hgm (hne m (by omega) (by omega) (by omega)) hdm (fun T2 hT2 => ?_)
        dsimp only [Option.toList, List.cons_append, List.nil_append]
        refine zs_iinc_1 (pc := 58)  (by first | exact zn_i | exact zn_r | exact zn_0) (by decide) dX7_settleBalance_58 ?_
        refine zr_goto (pc := 61)  (tgt := 9) (by decide) dX7_settleBalance_61 ?_
        first | exact ih (m + 1) T (by omega) (by omega) (fun c j a b a2 b2 => by rw [hT c j a b a2 b2, est, if_pos q24]; split <;> omega) | exact ih (m + 1) T2 (by omega) (by omega) (fun c j a b a2 b2 => by rw [hT2 c j a b a2 b2, hT c j a b a2 b2, est, if_neg q24])
theorem k_X7_settleBalance {dv : Int} {T : Int → Int → Int} {ex pu : Int → Int} (g0 : h 0 = some (oOff now)) (g3 : h 3 = some (oRoads num)) (g5 : h 5 = some (aI 16 rs)) (g6 : h 6 = some (aI 16 rg)) (g15 : h 15 = some (oView ssz fnd tm)) (g26 : h 26 = some (aI 16 fl)) (g27 : h 27 = some (aI 16 db)) (g30 : h 30 = some oTb) (hf : ∀ i, 0 ≤ i → i < 16 → -1 ≤ fl i ∧ fl i ≤ 100000) (hs : ∀ i, 0 ≤ rs i ∧ rs i < 8) (hg : ∀ i, 0 ≤ rg i ∧ rg i < 8) (hne : ∀ i, 0 ≤ i → i < 16 → fl i ≠ -1 → rs i ≠ rg i) (hd : ∀ i, 0 ≤ i → i < 16 → iR (db i)) (hb : seB (lpZ fl rs rg db 16)) (k : ∀ (T2 : Int → Int → Int) (ex pu2 : Int → Int), eqT T2 (itT (lpZ fl rs rg db 16) 1 4).1 → (∀ c, 0 ≤ c → c < 4 → pu2 c = plZ (itT (lpZ fl rs rg db 16) 1 4).1 (fun c => exZ fl rs rg c 16) c) → (∀ c, 4 ≤ c → c < 8 → pu2 c = 0) → Post none n (hB h (itT (lpZ fl rs rg db 16) 1 4).2 T2 ex pu2)) : zMP G mX7_settleBalance [.ref 0] n (hB h dv T ex pu) Post := by
  refine zMP_of (by decide) [some _, none] (Nat.le_of_ble_eq_true rfl) rfl ?_
  refine zr_aload_n (pc := 0)  (i := 0) rfl rfl dX7_settleBalance_0 ?_
  refine zr_get (pc := 1)  fl_X7_42 (by first | assumption | rfl | (repeat (first | assumption | exact zup_s | refine zup_g (by decide) ?_))) rfl dX7_settleBalance_1 ?_
  refine zv_call0 (pc := 4)  cv_X7_settleBalance_205 (by first | assumption | rfl | (repeat (first | assumption | exact zup_s | refine zup_g (by decide) ?_))) ⟨_, rfl, rfl⟩ (Nat.le_of_ble_eq_true rfl) (by decide) dX7_settleBalance_4 ?_
  refine k_X0_clear g30 (fun T2 pu2 hT hp => ?_)
  dsimp only [Option.toList, List.cons_append, List.nil_append]
  refine zr_iconst (pc := 7)  dX7_settleBalance_7 ?_
  refine zs_istore_n_1 (pc := 8)  (by first | exact zn_i | exact zn_r | exact zn_0) (by decide) dX7_settleBalance_8 ?_
  exact l_X7_settle1 g0 g3 g5 g6 g15 g26 g27 g30 hf hs hg hne hd rfl hb hp k 16 0 T2 (by omega) (by omega) (fun c j a b a2 b2 => by rw [hT c j a b a2 b2]; unfold lpZ; split <;> split <;> simp [sumZ])
end SB
