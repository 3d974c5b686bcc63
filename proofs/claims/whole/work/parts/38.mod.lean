/-! the reference's cells -/
def sbZ (b : Int) : Int := if b < 128 then b else b - 256
def sbR (g : Int → Int) : Int → Int := fun i => sbZ (g i)
theorem sbZ_R {b : Int} (h : 0 ≤ b ∧ b ≤ 255) : -128 ≤ sbZ b ∧ sbZ b ≤ 127 := by unfold sbZ; split <;> omega
theorem sb_u {g : Int → Int} {i b : Int} : uZ (sbR g) i (sbZ b) = sbR (uZ g i b) := by
  funext j
  unfold sbR uZ
  split <;> rfl
theorem sb_and {b : Int} (h : 0 ≤ b ∧ b ≤ 255) : iZ (sbZ b) &&& iZ 255 = iZ b := by
  have hr := sbZ_R h
  rw [pk_and _ 8 (show (iZ 255).toBitVec.toNat = 2 ^ 8 - 1 by decide), nI_iZ]
  congr 1
  have e2 := bv_toNat (iZ (sbZ b))
  rw [iZ_toInt ⟨by omega, by omega⟩] at e2
  have hs : (b < 128 ∧ sbZ b = b) ∨ (¬ b < 128 ∧ sbZ b = b - 256) := by unfold sbZ; split <;> omega
  generalize (iZ (sbZ b)).toBitVec.toNat = y at e2 ⊢
  omega
theorem shr_sb (z : Int) (hz : iR z) (k : Nat) (hk : k < 4) : (iZ z >>> (iZ ((8 * k : Nat) : Int) &&& 31)).toInt8.toInt32 = iZ (sbZ (byteZ z k)) := by
  have e := sshr_byte z hz k hk
  have hb := byteZ_R z k
  generalize (iZ z >>> (iZ ((8 * k : Nat) : Int) &&& 31)).toInt8 = x at e ⊢
  have h1 : x.toInt32.toInt = x.toInt := Int8.toInt_toInt32 x
  have h2 := Int8.le_toInt x
  have h3 := Int8.toInt_lt x
  rw [pk_and _ 8 (show (iZ 255).toBitVec.toNat = 2 ^ 8 - 1 by decide), nI_iZ] at e
  have e3 := (iZ_eq (by constructor <;> omega) (by constructor <;> omega)).mp e
  have e2 := bv_toNat x.toInt32
  rw [h1] at e2
  rw [← iZ_self x.toInt32, h1]
  congr 1
  unfold sbZ
  split <;> omega
/-- what lasts in the reference -/
def mA (h : zH) (tb rk rs rg gr bt bc ek ap pl : Int → Int) : Prop := h 39 = some (aB 200 (sbR tb)) ∧ h 40 = some (aZ 16 rk) ∧ h 41 = some (aZ 1344 ap) ∧ h 42 = some (aI 16 rs) ∧ h 43 = some (aI 16 rg) ∧ h 44 = some (aI 16 gr) ∧ h 45 = some (aI 600 (fun e => pl e / 84)) ∧ h 46 = some (aI 600 (fun e => pl e % 84)) ∧ h 47 = some (aI 600 bt) ∧ h 48 = some (aI 600 bc) ∧ h 49 = some (aI 1800 ek)
/-- its rows for counting -/
def mL (h : zH) (sn iw : Int → Int) : Prop := h 50 = some (aI 1344 sn) ∧ h 51 = some (aZ 16 iw)
def mW (h : zH) (bw bm : Int → Int) : Prop := h 52 = some (aJ 7 bw) ∧ h 53 = some (aJ 12 bm)
def mF (h : zH) (od fp fq : Int → Int) : Prop := h 54 = some (aI 4 od) ∧ h 55 = some (aJ 4 fp) ∧ h 56 = some (aJ 4 fq)
def mG (h : zH) (fl db : Int → Int) : Prop := h 57 = some (aI 16 fl) ∧ h 58 = some (aI 16 db)
def mB (h : zH) (pc co ma si sh op : Int → Int) : Prop := h 59 = some (aI 8 pc) ∧ h 60 = some (aI 4 co) ∧ h 61 = some (aJ 16 ma) ∧ h 62 = some (aJ 4 si) ∧ h 63 = some (aJ 8 sh) ∧ h 64 = some (aZ 8 op) ∧ ∀ i, op i = 0 ∨ op i = 1
def mT (h : zH) : Prop := (∃ sn iw, mL h sn iw ∧ ∀ i, iw i = 0 ∨ iw i = 1) ∧ (∃ bw bm, mW h bw bm) ∧ (∃ od fp fq, mF h od fp fq) ∧ (∃ fl db, mG h fl db) ∧ ∃ pc co ma si sh op, mB h pc co ma si sh op
/-- kinds are the same where a count holds -/
def ekR (N : Nat) (bc bk ek : Int → Int) : Prop := ∀ e : Int, 0 ≤ e → e < N → 0 ≤ bc e → ∀ c : Int, 0 ≤ c → c < 3 → ek (e * 3 + c) = bk (e * 3 + c)
def mK (h : zH) (th now len : Int) (tb rk rs rg gr : Int → Int) (N : Nat) (bt bc bk ap pl : Int → Int) : Prop := (∃ al pm pd sq up lw, h 38 = some (oMod th len N now al pm pd sq up lw)) ∧ (∃ ek, mA h tb rk rs rg gr bt bc ek ap pl ∧ ekR N bc bk ek) ∧ mT h ∧ ∀ e, 0 ≤ pl e ∧ pl e < 1344
theorem mT_fr {h h' : zH} (hM : mT h) (hf : ∀ j, 50 ≤ j → j ≤ 64 → h' j = h j) : mT h' := by
  obtain ⟨⟨sn, iw, ⟨a1, a2⟩, a3⟩, ⟨bw, bm, b1, b2⟩, ⟨od, fp, fq, c1, c2, c3⟩, ⟨fl, db, d1, d2⟩, pc, co, ma, si, sh, op, e1, e2, e3, e4, e5, e6, e7⟩ := hM
  have f := fun (j : Nat) (a : 50 ≤ j) (b : j ≤ 64) => hf j a b
  exact ⟨⟨sn, iw, ⟨(f 50 (by omega) (by omega)).trans a1, (f 51 (by omega) (by omega)).trans a2⟩, a3⟩, ⟨bw, bm, (f 52 (by omega) (by omega)).trans b1, (f 53 (by omega) (by omega)).trans b2⟩, ⟨od, fp, fq, (f 54 (by omega) (by omega)).trans c1, (f 55 (by omega) (by omega)).trans c2, (f 56 (by omega) (by omega)).trans c3⟩, ⟨fl, db, (f 57 (by omega) (by omega)).trans d1, (f 58 (by omega) (by omega)).trans d2⟩, pc, co, ma, si, sh, op, (f 59 (by omega) (by omega)).trans e1, (f 60 (by omega) (by omega)).trans e2, (f 61 (by omega) (by omega)).trans e3, (f 62 (by omega) (by omega)).trans e4, (f 63 (by omega) (by omega)).trans e5, (f 64 (by omega) (by omega)).trans e6, e7⟩
theorem mA_fr {h h' : zH} {tb rk rs rg gr bt bc ek ap pl : Int → Int} (hM : mA h tb rk rs rg gr bt bc ek ap pl) (hf : ∀ j, 39 ≤ j → j ≤ 49 → h' j = h j) : mA h' tb rk rs rg gr bt bc ek ap pl := by
  obtain ⟨a1, a2, a3, a4, a5, a6, a7, a8, a9, a10, a11⟩ := hM
  have f := fun (j : Nat) (a : 39 ≤ j) (b : j ≤ 49) => hf j a b
  exact ⟨(f 39 (by omega) (by omega)).trans a1, (f 40 (by omega) (by omega)).trans a2, (f 41 (by omega) (by omega)).trans a3, (f 42 (by omega) (by omega)).trans a4, (f 43 (by omega) (by omega)).trans a5, (f 44 (by omega) (by omega)).trans a6, (f 45 (by omega) (by omega)).trans a7, (f 46 (by omega) (by omega)).trans a8, (f 47 (by omega) (by omega)).trans a9, (f 48 (by omega) (by omega)).trans a10, (f 49 (by omega) (by omega)).trans a11⟩
section MOD
variable {G : zG} {n : Nat} {h : zH} {Post : Option Value → Nat → zH → Prop} {th len now al pm pd sq up lw : Int} {tb rk rs rg gr bt bc ek ap pl : Int → Int} {N : Nat}
theorem k_X8_thrown (m38 : h 38 = some (oMod th len N now al pm pd sq up lw)) (k : Post (some (vi th)) n h) : zMP G mX8_thrown [.ref 38] n h Post := by
  refine zMP_of (by decide) [some _] (Nat.le_of_ble_eq_true rfl) rfl ?_
  refine zr_aload_n (pc := 0)  (i := 0) rfl rfl dX8_thrown_0 ?_
  refine zr_get (pc := 1)  fl_X8_91 (by first | assumption | rfl | (repeat (first | assumption | exact zup_s | refine zup_g (by decide) ?_))) rfl dX8_thrown_1 ?_
  refine zr_ireturn (pc := 4)  rfl (by decide) (by decide) dX8_thrown_4 ?_
  exact k
theorem k_X8_throwsIf {x : Int} (m38 : h 38 = some (oMod th len N now al pm pd sq up lw)) (hx : x = 0 ∨ x = 1) (k : Post (some (vi x)) n (zup h 38 (oMod x len N now al pm pd sq up lw))) : zMP G mX8_throwsIf [.ref 38, vi x] n h Post := by
  refine zMP_of (by decide) [some _, some _] (Nat.le_of_ble_eq_true rfl) rfl ?_
  refine zr_aload_n (pc := 0)  (i := 0) rfl rfl dX8_throwsIf_0 ?_
  refine zr_iload_n (pc := 1)  (i := 1) rfl rfl dX8_throwsIf_1 ?_
  refine zr_if_eq (pc := 2)  (tgt := 9) ⟨by omega, by omega⟩ (by decide) dX8_throwsIf_2 (fun q2 => ?_) (fun q2 => ?_)
  · refine zr_iconst (pc := 9)  dX8_throwsIf_9 ?_
    refine zr_put (pc := 10)  (oMod _ _ _ _ _ _ _ _ _ _) (fp_X8_91 rfl) (by first | assumption | rfl | (repeat (first | assumption | exact zup_s | refine zup_g (by decide) ?_))) (Nat.le_of_ble_eq_true rfl) rfl rfl rfl dX8_throwsIf_10 ?_
    refine zr_iload_n (pc := 13)  (i := 1) rfl rfl dX8_throwsIf_13 ?_
    refine zr_zreturn (pc := 14)  rfl (by omega) (by decide) (by decide) dX8_throwsIf_14 ?_
    first | (have e : x = 0 := (by omega); rw [e] at k; rw [e]; exact k) | (have e : x = 1 := (by omega); rw [e] at k; rw [e]; exact k)
  · refine zr_iconst (pc := 5)  dX8_throwsIf_5 ?_
    refine zr_goto (pc := 6)  (tgt := 10) (by decide) dX8_throwsIf_6 ?_
    refine zr_put (pc := 10)  (oMod _ _ _ _ _ _ _ _ _ _) (fp_X8_91 rfl) (by first | assumption | rfl | (repeat (first | assumption | exact zup_s | refine zup_g (by decide) ?_))) (Nat.le_of_ble_eq_true rfl) rfl rfl rfl dX8_throwsIf_10 ?_
    refine zr_iload_n (pc := 13)  (i := 1) rfl rfl dX8_throwsIf_13 ?_
    refine zr_zreturn (pc := 14)  rfl (by omega) (by decide) (by decide) dX8_throwsIf_14 ?_
    first | (have e : x = 0 := (by omega); rw [e] at k; rw [e]; exact k) | (have e : x = 1 := (by omega); rw [e] at k; rw [e]; exact k)
theorem k_X8_isWhat {x : Int} (hx : iR x) (k : Post (some (vb (x = 0 ∨ x = 1))) n h) : zMP G mX8_isWhat [vi x] n h Post := by
  refine zMP_of (by decide) [some _] (Nat.le_of_ble_eq_true rfl) rfl ?_
  refine zr_iload_n (pc := 0)  (i := 0) rfl rfl dX8_isWhat_0 ?_
  refine zr_if_eq (pc := 1)  (tgt := 9) ⟨by omega, by omega⟩ (by decide) dX8_isWhat_1 (fun q1 => ?_) (fun q1 => ?_)
  · refine zr_iconst (pc := 9)  dX8_isWhat_9 ?_
    refine zr_goto (pc := 10)  (tgt := 14) (by decide) dX8_isWhat_10 ?_
    refine zr_zreturn (pc := 14)  rfl (by omega) (by decide) (by decide) dX8_isWhat_14 ?_
    first | exact zb_t (by omega) k | exact zb_f (by omega) k
  · refine zr_iload_n (pc := 4)  (i := 0) rfl rfl dX8_isWhat_4 ?_
    refine zr_iconst (pc := 5)  dX8_isWhat_5 ?_
    refine zr_icmp_ne (pc := 6)  (tgt := 13) ⟨by omega, by omega⟩ ⟨by omega, by omega⟩ (by decide) dX8_isWhat_6 (fun q6 => ?_) (fun q6 => ?_)
    · refine zr_iconst (pc := 13)  dX8_isWhat_13 ?_
      refine zr_zreturn (pc := 14)  rfl (by omega) (by decide) (by decide) dX8_isWhat_14 ?_
      first | exact zb_t (by omega) k | exact zb_f (by omega) k
    · refine zr_iconst (pc := 9)  dX8_isWhat_9 ?_
      refine zr_goto (pc := 10)  (tgt := 14) (by decide) dX8_isWhat_10 ?_
      refine zr_zreturn (pc := 14)  rfl (by omega) (by decide) (by decide) dX8_isWhat_14 ?_
      first | exact zb_t (by omega) k | exact zb_f (by omega) k
theorem k_X8_isGroup {x : Int} (hx : iR x) (k : Post (some (vb (0 ≤ x ∧ x < 4))) n h) : zMP G mX8_isGroup [vi x] n h Post := by
  refine zMP_of (by decide) [some _] (Nat.le_of_ble_eq_true rfl) rfl ?_
  refine zr_iload_n (pc := 0)  (i := 0) rfl rfl dX8_isGroup_0 ?_
  refine zr_if_lt (pc := 1)  (tgt := 13) ⟨by omega, by omega⟩ (by decide) dX8_isGroup_1 (fun q1 => ?_) (fun q1 => ?_)
  · refine zr_iconst (pc := 13)  dX8_isGroup_13 ?_
    refine zr_zreturn (pc := 14)  rfl (by omega) (by decide) (by decide) dX8_isGroup_14 ?_
    first | exact zb_t (by omega) k | exact zb_f (by omega) k
  · refine zr_iload_n (pc := 4)  (i := 0) rfl rfl dX8_isGroup_4 ?_
    refine zr_iconst (pc := 5)  dX8_isGroup_5 ?_
    refine zr_icmp_ge (pc := 6)  (tgt := 13) ⟨by omega, by omega⟩ ⟨by omega, by omega⟩ (by decide) dX8_isGroup_6 (fun q6 => ?_) (fun q6 => ?_)
    · refine zr_iconst (pc := 13)  dX8_isGroup_13 ?_
      refine zr_zreturn (pc := 14)  rfl (by omega) (by decide) (by decide) dX8_isGroup_14 ?_
      first | exact zb_t (by omega) k | exact zb_f (by omega) k
    · refine zr_iconst (pc := 9)  dX8_isGroup_9 ?_
      refine zr_goto (pc := 10)  (tgt := 14) (by decide) dX8_isGroup_10 ?_
      refine zr_zreturn (pc := 14)  rfl (by omega) (by decide) (by decide) dX8_isGroup_14 ?_
      first | exact zb_t (by omega) k | exact zb_f (by omega) k
theorem k_X8_isDay {x : Int} (hx : iR x) (k : Post (some (vb (0 ≤ x ∧ x < 84))) n h) : zMP G mX8_isDay [vi x] n h Post := by
  refine zMP_of (by decide) [some _] (Nat.le_of_ble_eq_true rfl) rfl ?_
  refine zr_iload_n (pc := 0)  (i := 0) rfl rfl dX8_isDay_0 ?_
  refine zr_if_lt (pc := 1)  (tgt := 14) ⟨by omega, by omega⟩ (by decide) dX8_isDay_1 (fun q1 => ?_) (fun q1 => ?_)
  · refine zr_iconst (pc := 14)  dX8_isDay_14 ?_
    refine zr_zreturn (pc := 15)  rfl (by omega) (by decide) (by decide) dX8_isDay_15 ?_
    first | exact zb_t (by omega) k | exact zb_f (by omega) k
  · refine zr_iload_n (pc := 4)  (i := 0) rfl rfl dX8_isDay_4 ?_
    refine zr_bipush (pc := 5)  (by decide) dX8_isDay_5 ?_
    refine zr_icmp_ge (pc := 7)  (tgt := 14) ⟨by omega, by omega⟩ ⟨by omega, by omega⟩ (by decide) dX8_isDay_7 (fun q7 => ?_) (fun q7 => ?_)
    · refine zr_iconst (pc := 14)  dX8_isDay_14 ?_
      refine zr_zreturn (pc := 15)  rfl (by omega) (by decide) (by decide) dX8_isDay_15 ?_
      first | exact zb_t (by omega) k | exact zb_f (by omega) k
    · refine zr_iconst (pc := 10)  dX8_isDay_10 ?_
      refine zr_goto (pc := 11)  (tgt := 15) (by decide) dX8_isDay_11 ?_
      refine zr_zreturn (pc := 15)  rfl (by omega) (by decide) (by decide) dX8_isDay_15 ?_
      first | exact zb_t (by omega) k | exact zb_f (by omega) k
theorem k_X8_isRoad {r : Int} (m38 : h 38 = some (oMod th len N now al pm pd sq up lw)) (m40 : h 40 = some (aZ 16 rk)) (i4 : ∀ i, rk i = 0 ∨ rk i = 1) (hr : iR r) (k : Post (some (vb ((0 ≤ r ∧ r < 16) ∧ rk r = 1))) n h) : zMP G mX8_isRoad [.ref 38, vi r] n h Post := by
  have i4r := i4 r
  refine zMP_of (by decide) [some _, some _] (Nat.le_of_ble_eq_true rfl) rfl ?_
  refine zr_iload_n (pc := 0)  (i := 1) rfl rfl dX8_isRoad_0 ?_
  refine zr_if_lt (pc := 1)  (tgt := 23) ⟨by omega, by omega⟩ (by decide) dX8_isRoad_1 (fun q1 => ?_) (fun q1 => ?_)
  · refine zr_iconst (pc := 23)  dX8_isRoad_23 ?_
    refine zr_zreturn (pc := 24)  rfl (by omega) (by decide) (by decide) dX8_isRoad_24 ?_
    first | exact zb_t (by omega) k | exact zb_f (by omega) k
  · refine zr_iload_n (pc := 4)  (i := 1) rfl rfl dX8_isRoad_4 ?_
    refine zr_bipush (pc := 5)  (by decide) dX8_isRoad_5 ?_
    refine zr_icmp_ge (pc := 7)  (tgt := 23) ⟨by omega, by omega⟩ ⟨by omega, by omega⟩ (by decide) dX8_isRoad_7 (fun q7 => ?_) (fun q7 => ?_)
    · refine zr_iconst (pc := 23)  dX8_isRoad_23 ?_
      refine zr_zreturn (pc := 24)  rfl (by omega) (by decide) (by decide) dX8_isRoad_24 ?_
      first | exact zb_t (by omega) k | exact zb_f (by omega) k
    · refine zr_aload_n (pc := 10)  (i := 0) rfl rfl dX8_isRoad_10 ?_
      refine zr_get (pc := 11)  fl_X8_13 (by first | assumption | rfl | (repeat (first | assumption | exact zup_s | refine zup_g (by decide) ?_))) rfl dX8_isRoad_11 ?_
      refine zr_iload_n (pc := 14)  (i := 1) rfl rfl dX8_isRoad_14 ?_
      refine zr_zald (pc := 15)  (by first | assumption | rfl | (repeat (first | assumption | exact zup_s | refine zup_g (by decide) ?_))) ⟨by omega, by omega⟩ (by decide) dX8_isRoad_15 ?_
      refine zr_if_eq (pc := 16)  (tgt := 23) ⟨by omega, by omega⟩ (by decide) dX8_isRoad_16 (fun q16 => ?_) (fun q16 => ?_)
      · refine zr_iconst (pc := 23)  dX8_isRoad_23 ?_
        refine zr_zreturn (pc := 24)  rfl (by omega) (by decide) (by decide) dX8_isRoad_24 ?_
        first | exact zb_t (by omega) k | exact zb_f (by omega) k
      · refine zr_iconst (pc := 19)  dX8_isRoad_19 ?_
        refine zr_goto (pc := 20)  (tgt := 24) (by decide) dX8_isRoad_20 ?_
        refine zr_zreturn (pc := 24)  rfl (by omega) (by decide) (by decide) dX8_isRoad_24 ?_
        first | exact zb_t (by omega) k | exact zb_f (by omega) k
theorem k_X8_taken (m38 : h 38 = some (oMod th len N now al pm pd sq up lw)) (k : Post (some (vi len)) n (zup h 38 (oMod th 0 N now al pm pd sq up lw))) : zMP G mX8_taken [.ref 38] n h Post := by
  refine zMP_of (by decide) [some _, none] (Nat.le_of_ble_eq_true rfl) rfl ?_
  refine zr_aload_n (pc := 0)  (i := 0) rfl rfl dX8_taken_0 ?_
  refine zr_get (pc := 1)  fl_X8_95 (by first | assumption | rfl | (repeat (first | assumption | exact zup_s | refine zup_g (by decide) ?_))) rfl dX8_taken_1 ?_
  refine zs_istore_n_1 (pc := 4)  (by first | exact zn_i | exact zn_r | exact zn_0) (by decide) dX8_taken_4 ?_
  refine zr_aload_n (pc := 5)  (i := 0) rfl rfl dX8_taken_5 ?_
  refine zr_iconst (pc := 6)  dX8_taken_6 ?_
  refine zr_put (pc := 7)  (oMod _ _ _ _ _ _ _ _ _ _) (fp_X8_95 rfl) (by first | assumption | rfl | (repeat (first | assumption | exact zup_s | refine zup_g (by decide) ?_))) (Nat.le_of_ble_eq_true rfl) rfl rfl rfl dX8_taken_7 ?_
  refine zr_iload_n (pc := 10)  (i := 1) rfl rfl dX8_taken_10 ?_
  refine zr_ireturn (pc := 11)  rfl (by decide) (by decide) dX8_taken_11 ?_
  exact k
theorem k_X8_at {i en : Int} (m38 : h 38 = some (oMod th len en now al pm pd sq up lw)) (m39 : h 39 = some (aB 200 (sbR tb))) (i3 : ∀ i, 0 ≤ tb i ∧ tb i ≤ 255) (hi : 0 ≤ i ∧ i < 200) (k : Post (some (vi (tb i))) n h) : zMP G mX8_at [.ref 38, vi i] n h Post := by
  refine zMP_of (by decide) [some _, some _] (Nat.le_of_ble_eq_true rfl) rfl ?_
  refine zr_aload_n (pc := 0)  (i := 0) rfl rfl dX8_at_0 ?_
  refine zr_get (pc := 1)  fl_X8_7 (by first | assumption | rfl | (repeat (first | assumption | exact zup_s | refine zup_g (by decide) ?_))) rfl dX8_at_1 ?_
  refine zr_iload_n (pc := 4)  (i := 1) rfl rfl dX8_at_4 ?_
  refine zr_bald (pc := 5)  (by first | assumption | rfl | (repeat (first | assumption | exact zup_s | refine zup_g (by decide) ?_))) ⟨by omega, by omega⟩ (by decide) dX8_at_5 ?_
  refine zr_sipush (pc := 6)  (by decide) dX8_at_6 ?_
  refine zr_iand (pc := 9) (z := tb i) (sb_and (i3 i)) dX8_at_9 ?_
  refine zr_ireturn (pc := 10)  rfl (by decide) (by decide) dX8_at_10 ?_
  exact k
/-- the reference's tape -/
def hQ (h : zH) (o : va_E) (g : Int → Int) : zH := zup (zup h 39 (aB 200 (sbR g))) 38 o
theorem hQ_39 {o : va_E} {g g2 : Int → Int} : zup (hQ h o g) 39 (aB 200 (sbR g2)) = hQ h o g2 := by unfold hQ; rw [zup_comm (by decide), zup_zup]
theorem hQ_38 {o o2 : va_E} {g : Int → Int} : zup (hQ h o g) 38 o2 = hQ h o2 g := by unfold hQ; rw [zup_zup]
theorem hQ_Q {o o2 : va_E} {g g2 : Int → Int} : hQ (hQ h o g) o2 g2 = hQ h o2 g2 := by rw [show hQ (hQ h o g) o2 g2 = zup (zup (hQ h o g) 39 (aB 200 (sbR g2))) 38 o2 from rfl, hQ_39, hQ_38]
theorem hQ_o {o o2 : va_E} {g : Int → Int} : hQ (zup h 38 o) o2 g = hQ h o2 g := by unfold hQ; rw [show zup (zup h 38 o) 39 (aB 200 (sbR g)) = zup (zup h 39 (aB 200 (sbR g))) 38 o from zup_comm (by decide), zup_zup]
theorem l_X8_four {z : Int} (hz : iR z) : ∀ (k : Nat) (sh len : Int) (g : Int → Int), sh = 8 * (k : Int) - 8 → k ≤ 4 → 0 ≤ len → len + k ≤ 200 → Post none n (hQ h (oMod th (len + k) N now al pm pd sq up lw) (appG z k g len)) → zAW G mX8_four zTT (zF G mX8_four Post) 3 [some (.ref 38), some (vi z), some (vi sh)] [] n (hQ h (oMod th len N now al pm pd sq up lw) g) 0 0 := by
  intro k
  induction k with
  | zero =>
    intro sh len g hsh hk h0 hl hp
    have e : len + ((0 : Nat) : Int) = len := by omega
    rw [e] at hp
    refine zr_iload_n (pc := 3)  (i := 2) rfl rfl dX8_four_3 ?_
    refine zr_if_lt (pc := 4)  (tgt := 36) ⟨by omega, by omega⟩ (by decide) dX8_four_4 (fun q4 => ?_) (fun q4 => ?_)
    · refine zr_vreturn (pc := 36)  rfl (by decide) (by decide) dX8_four_36 ?_
      exact hp
    · exact absurd q4 (by omega)
  | succ k ih =>
    intro sh len g hsh hk h0 hl hp
    have hb := sbZ_R (byteZ_R z k)
    obtain rfl : sh = ((8 * k : Nat) : Int) := by omega
    refine zr_iload_n (pc := 3)  (i := 2) rfl rfl dX8_four_3 ?_
    refine zr_if_lt (pc := 4)  (tgt := 36) ⟨by omega, by omega⟩ (by decide) dX8_four_4 (fun q4 => ?_) (fun q4 => ?_)
    · exact absurd q4 (by omega)
    · refine zr_aload_n (pc := 7)  (i := 0) rfl rfl dX8_four_7 ?_
      refine zr_get (pc := 8)  fl_X8_7 (by first | assumption | rfl | (repeat (first | assumption | exact zup_s | refine zup_g (by decide) ?_))) rfl dX8_four_8 ?_
      refine zr_aload_n (pc := 11)  (i := 0) rfl rfl dX8_four_11 ?_
      refine zr_get (pc := 12)  fl_X8_95 (by first | assumption | rfl | (repeat (first | assumption | exact zup_s | refine zup_g (by decide) ?_))) rfl dX8_four_12 ?_
      refine zr_iload_n (pc := 15)  (i := 1) rfl rfl dX8_four_15 ?_
      refine zr_iload_n (pc := 16)  (i := 2) rfl rfl dX8_four_16 ?_
      refine zr_ishr (pc := 17)  dX8_four_17 ?_
      refine zr_i2b (pc := 18) (z := sbZ (byteZ z k)) (shr_sb z hz k (by omega)) dX8_four_18 ?_
      refine zr_bast (pc := 19)  (by first | assumption | rfl | (repeat (first | assumption | exact zup_s | refine zup_g (by decide) ?_))) ⟨by omega, by omega⟩ (by decide) ⟨by omega, by omega⟩ dX8_four_19 ?_
      refine zr_heap (show _ = hQ h (oMod th len N now al pm pd sq up lw) (uZ g len (byteZ z k)) from by rw [sb_u, hQ_39]) ?_
      refine zr_aload_n (pc := 20)  (i := 0) rfl rfl dX8_four_20 ?_
      refine zr_dup (pc := 21)  rfl dX8_four_21 ?_
      refine zr_get (pc := 22)  fl_X8_95 (by first | assumption | rfl | (repeat (first | assumption | exact zup_s | refine zup_g (by decide) ?_))) rfl dX8_four_22 ?_
      refine zr_iconst (pc := 25)  dX8_four_25 ?_
      refine zr_iadd (pc := 26)  dX8_four_26 ?_
      refine zr_put (pc := 27)  (oMod _ _ _ _ _ _ _ _ _ _) (fp_X8_95 rfl) (by first | assumption | rfl | (repeat (first | assumption | exact zup_s | refine zup_g (by decide) ?_))) (Nat.le_of_ble_eq_true rfl) rfl rfl rfl dX8_four_27 ?_
      refine zr_heap hQ_38 ?_
      refine zs_iinc_2 (pc := 30)  (by first | exact zn_i | exact zn_r | exact zn_0) (by decide) dX8_four_30 ?_
      refine zr_goto (pc := 33)  (tgt := 3) (by decide) dX8_four_33 ?_
      exact ih _ _ _ (by omega) (by omega) (by omega) (by omega) (by rw [show len + 1 + (k : Int) = len + ((k + 1 : Nat) : Int) by omega]; exact hp)
theorem k_X8_four {z : Int} (m38 : h 38 = some (oMod th len N now al pm pd sq up lw)) (m39 : h 39 = some (aB 200 (sbR tb))) (hz : iR z) (hl : 0 ≤ len ∧ len + 4 ≤ 200) (k : Post none n (hQ h (oMod th (len + 4) N now al pm pd sq up lw) (appG z 4 tb len))) : zMP G mX8_four [.ref 38, vi z] n h Post := by
  refine zMP_of (by decide) [some _, some _, none] (Nat.le_of_ble_eq_true rfl) rfl ?_
  refine zr_bipush (pc := 0)  (by decide) dX8_four_0 ?_
  refine zs_istore_n_2 (pc := 2)  (by first | exact zn_i | exact zn_r | exact zn_0) (by decide) dX8_four_2 ?_
  refine zr_heap (show h = hQ h (oMod th len N now al pm pd sq up lw) tb from by unfold hQ; rw [zup_self m39, zup_self m38]) ?_
  exact l_X8_four hz 4 24 len tb (by decide) (by decide) hl.1 (by omega) k
end MOD
section MOD2
variable {G : zG} {n : Nat} {h : zH} {Post : Option Value → Nat → zH → Prop} {th len now num : Int} {tb rk rs rg gr bt bc bk be bn ap pl : Int → Int} {N : Nat}
theorem k_X8_feed {a b c d e : Int} (hM : mK h th now len tb rk rs rg gr N bt bc bk ap pl) (hI : oI now len tb rk rs rg gr num N bt bc be bn ap pl) (ha : iR a) (hb : iR b) (hc : iR c) (hd : iR d) (he : iR e) (k1 : len + 20 ≤ 200 → ∀ h', mK h' 0 now (len + 20) (appG e 4 (appG d 4 (appG c 4 (appG b 4 (appG a 4 tb len) (len + 4)) (len + 4 + 4)) (len + 4 + 4 + 4)) (len + 4 + 4 + 4 + 4)) rk rs rg gr N bt bc bk ap pl → (∀ j, j < 38 ∨ 64 < j → h' j = h j) → Post (some (vi (len + 20))) n h') (k0 : ¬ len + 20 ≤ 200 → ∀ h', mK h' 0 now len tb rk rs rg gr N bt bc bk ap pl → (∀ j, j < 38 ∨ 64 < j → h' j = h j) → Post (some (vi (-1))) n h') : zMP G mX8_feed [.ref 38, vi a, vi b, vi c, vi d, vi e] n h Post := by
  obtain ⟨⟨al, pm, pd, sq, up, lw, m38⟩, ⟨ek, hA, hE⟩, hT, hp⟩ := hM
  have hA' := hA
  obtain ⟨m39, -⟩ := hA'
  have i2 := hI.2.1
  refine zMP_of (by decide) [some _, some _, some _, some _, some _, some _] (Nat.le_of_ble_eq_true rfl) rfl ?_
  refine zr_aload_n (pc := 0)  (i := 0) rfl rfl dX8_feed_0 ?_
  refine zr_iconst (pc := 1)  dX8_feed_1 ?_
  refine zr_put (pc := 2)  (oMod _ _ _ _ _ _ _ _ _ _) (fp_X8_91 rfl) (by first | assumption | rfl | (repeat (first | assumption | exact zup_s | refine zup_g (by decide) ?_))) (Nat.le_of_ble_eq_true rfl) rfl rfl rfl dX8_feed_2 ?_
  refine zr_aload_n (pc := 5)  (i := 0) rfl rfl dX8_feed_5 ?_
  refine zr_get (pc := 6)  fl_X8_95 (by first | assumption | rfl | (repeat (first | assumption | exact zup_s | refine zup_g (by decide) ?_))) rfl dX8_feed_6 ?_
  refine zr_bipush (pc := 9)  (by decide) dX8_feed_9 ?_
  refine zr_iadd (pc := 11)  dX8_feed_11 ?_
  refine zr_sipush (pc := 12)  (by decide) dX8_feed_12 ?_
  refine zr_icmp_le (pc := 15)  (tgt := 20) ⟨by omega, by omega⟩ ⟨by omega, by omega⟩ (by decide) dX8_feed_15 (fun q15 => ?_) (fun q15 => ?_)
  · refine zr_aload_n (pc := 20)  (i := 0) rfl rfl dX8_feed_20 ?_
    refine zr_iload_n (pc := 21)  (i := 1) rfl rfl dX8_feed_21 ?_
    refine zv_call1 (pc := 22)  cv_X8_feed_98 (by first | assumption | rfl | (repeat (first | assumption | exact zup_s | refine zup_g (by decide) ?_))) ⟨_, rfl, rfl⟩ (Nat.le_of_ble_eq_true rfl) (by decide) dX8_feed_22 ?_
    refine k_X8_four zup_s m39 ha (by omega) ?_
    rw [hQ_o]
    dsimp only [Option.toList, List.cons_append, List.nil_append]
    refine zr_aload_n (pc := 25)  (i := 0) rfl rfl dX8_feed_25 ?_
    refine zr_iload_n (pc := 26)  (i := 2) rfl rfl dX8_feed_26 ?_
    refine zv_call1 (pc := 27)  cv_X8_feed_98 (by first | assumption | rfl | (repeat (first | assumption | exact zup_s | refine zup_g (by decide) ?_))) ⟨_, rfl, rfl⟩ (Nat.le_of_ble_eq_true rfl) (by decide) dX8_feed_27 ?_
    refine k_X8_four rfl rfl hb (by omega) ?_
    rw [hQ_Q]
    dsimp only [Option.toList, List.cons_append, List.nil_append]
    refine zr_aload_n (pc := 30)  (i := 0) rfl rfl dX8_feed_30 ?_
    refine zr_iload_n (pc := 31)  (i := 3) rfl rfl dX8_feed_31 ?_
    refine zv_call1 (pc := 32)  cv_X8_feed_98 (by first | assumption | rfl | (repeat (first | assumption | exact zup_s | refine zup_g (by decide) ?_))) ⟨_, rfl, rfl⟩ (Nat.le_of_ble_eq_true rfl) (by decide) dX8_feed_32 ?_
    refine k_X8_four rfl rfl hc (by omega) ?_
    rw [hQ_Q]
    dsimp only [Option.toList, List.cons_append, List.nil_append]
    refine zr_aload_n (pc := 35)  (i := 0) rfl rfl dX8_feed_35 ?_
    refine zr_iload (pc := 36)  rfl dX8_feed_36 ?_
    refine zv_call1 (pc := 38)  cv_X8_feed_98 (by first | assumption | rfl | (repeat (first | assumption | exact zup_s | refine zup_g (by decide) ?_))) ⟨_, rfl, rfl⟩ (Nat.le_of_ble_eq_true rfl) (by decide) dX8_feed_38 ?_
    refine k_X8_four rfl rfl hd (by omega) ?_
    rw [hQ_Q]
    dsimp only [Option.toList, List.cons_append, List.nil_append]
    refine zr_aload_n (pc := 41)  (i := 0) rfl rfl dX8_feed_41 ?_
    refine zr_iload (pc := 42)  rfl dX8_feed_42 ?_
    refine zv_call1 (pc := 44)  cv_X8_feed_98 (by first | assumption | rfl | (repeat (first | assumption | exact zup_s | refine zup_g (by decide) ?_))) ⟨_, rfl, rfl⟩ (Nat.le_of_ble_eq_true rfl) (by decide) dX8_feed_44 ?_
    refine k_X8_four rfl rfl he (by omega) ?_
    rw [hQ_Q, show len + 4 + 4 + 4 + 4 + 4 = len + 20 by omega]
    dsimp only [Option.toList, List.cons_append, List.nil_append]
    refine zr_aload_n (pc := 47)  (i := 0) rfl rfl dX8_feed_47 ?_
    refine zr_get (pc := 48)  fl_X8_95 (by first | assumption | rfl | (repeat (first | assumption | exact zup_s | refine zup_g (by decide) ?_))) rfl dX8_feed_48 ?_
    refine zr_ireturn (pc := 51)  rfl (by decide) (by decide) dX8_feed_51 ?_
    refine k1 (by omega) _ ⟨⟨_, _, _, _, _, _, rfl⟩, ⟨ek, ?_, hE⟩, mT_fr hT (fun j a b => by unfold hQ; rw [zup_n (by omega), zup_n (by omega)]), hp⟩ (fun j hj => by unfold hQ; rw [zup_n (by omega), zup_n (by omega)])
    exact ⟨rfl, hA.2⟩
  · refine zr_iconst (pc := 18)  dX8_feed_18 ?_
    refine zr_ireturn (pc := 19)  rfl (by decide) (by decide) dX8_feed_19 ?_
    exact k0 (by omega) _ ⟨⟨_, _, _, _, _, _, rfl⟩, ⟨ek, mA_fr hA (fun j a b => zup_n (by omega)), hE⟩, mT_fr hT (fun j a b => zup_n (by omega)), hp⟩ (fun j hj => zup_n (by omega))
theorem k_X8_end {z : Int} (hM : mK h th now len tb rk rs rg gr N bt bc bk ap pl) (hI : oI now len tb rk rs rg gr num N bt bc be bn ap pl) (hz : iR z) (k1 : 0 ≤ z ∧ z ≤ len → ∀ h', mK h' 0 now z tb rk rs rg gr N bt bc bk ap pl → (∀ j, j < 38 ∨ 64 < j → h' j = h j) → Post (some (vi 1)) n h') (k0 : ¬ (0 ≤ z ∧ z ≤ len) → ∀ h', mK h' 0 now len tb rk rs rg gr N bt bc bk ap pl → (∀ j, j < 38 ∨ 64 < j → h' j = h j) → Post (some (vi 0)) n h') : zMP G mX8_end [.ref 38, vi z] n h Post := by
  obtain ⟨⟨al, pm, pd, sq, up, lw, m38⟩, ⟨ek, hA, hE⟩, hT, hp⟩ := hM
  have i2 := hI.2.1
  refine zMP_of (by decide) [some _, some _] (Nat.le_of_ble_eq_true rfl) rfl ?_
  refine zr_aload_n (pc := 0)  (i := 0) rfl rfl dX8_end_0 ?_
  refine zr_iconst (pc := 1)  dX8_end_1 ?_
  refine zr_put (pc := 2)  (oMod _ _ _ _ _ _ _ _ _ _) (fp_X8_91 rfl) (by first | assumption | rfl | (repeat (first | assumption | exact zup_s | refine zup_g (by decide) ?_))) (Nat.le_of_ble_eq_true rfl) rfl rfl rfl dX8_end_2 ?_
  refine zr_iload_n (pc := 5)  (i := 1) rfl rfl dX8_end_5 ?_
  refine zr_if_lt (pc := 6)  (tgt := 17) ⟨by omega, by omega⟩ (by decide) dX8_end_6 (fun q6 => ?_) (fun q6 => ?_)
  · refine zr_iconst (pc := 17)  dX8_end_17 ?_
    refine zr_zreturn (pc := 18)  rfl (by omega) (by decide) (by decide) dX8_end_18 ?_
    exact k0 (by omega) _ ⟨⟨_, _, _, _, _, _, rfl⟩, ⟨ek, mA_fr hA (fun j a b => zup_n (by omega)), hE⟩, mT_fr hT (fun j a b => zup_n (by omega)), hp⟩ (fun j hj => zup_n (by omega))
  · refine zr_iload_n (pc := 9)  (i := 1) rfl rfl dX8_end_9 ?_
    refine zr_aload_n (pc := 10)  (i := 0) rfl rfl dX8_end_10 ?_
    refine zr_get (pc := 11)  fl_X8_95 (by first | assumption | rfl | (repeat (first | assumption | exact zup_s | refine zup_g (by decide) ?_))) rfl dX8_end_11 ?_
    refine zr_icmp_le (pc := 14)  (tgt := 19) ⟨by omega, by omega⟩ ⟨by omega, by omega⟩ (by decide) dX8_end_14 (fun q14 => ?_) (fun q14 => ?_)
    · refine zr_aload_n (pc := 19)  (i := 0) rfl rfl dX8_end_19 ?_
      refine zr_iload_n (pc := 20)  (i := 1) rfl rfl dX8_end_20 ?_
      refine zr_put (pc := 21)  (oMod _ _ _ _ _ _ _ _ _ _) (fp_X8_95 rfl) (by first | assumption | rfl | (repeat (first | assumption | exact zup_s | refine zup_g (by decide) ?_))) (Nat.le_of_ble_eq_true rfl) rfl rfl rfl dX8_end_21 ?_
      refine zr_iconst (pc := 24)  dX8_end_24 ?_
      refine zr_zreturn (pc := 25)  rfl (by omega) (by decide) (by decide) dX8_end_25 ?_
      exact k1 (by omega) _ ⟨⟨_, _, _, _, _, _, rfl⟩, ⟨ek, mA_fr hA (fun j a b => by rw [zup_n (by omega), zup_n (by omega)]), hE⟩, mT_fr hT (fun j a b => by rw [zup_n (by omega), zup_n (by omega)]), hp⟩ (fun j hj => by rw [zup_n (by omega), zup_n (by omega)])
    · refine zr_iconst (pc := 17)  dX8_end_17 ?_
      refine zr_zreturn (pc := 18)  rfl (by omega) (by decide) (by decide) dX8_end_18 ?_
      exact k0 (by omega) _ ⟨⟨_, _, _, _, _, _, rfl⟩, ⟨ek, mA_fr hA (fun j a b => zup_n (by omega)), hE⟩, mT_fr hT (fun j a b => zup_n (by omega)), hp⟩ (fun j hj => zup_n (by omega))
theorem k_X8_later (hM : mK h th now len tb rk rs rg gr N bt bc bk ap pl) (hI : oI now len tb rk rs rg gr num N bt bc be bn ap pl) (k1 : now < 99 → ∀ h', mK h' 0 (now + 1) len tb rk rs rg gr N bt bc bk ap pl → (∀ j, j < 38 ∨ 64 < j → h' j = h j) → Post (some (vi (now + 1))) n h') (k0 : ¬ now < 99 → ∀ h', mK h' 0 now len tb rk rs rg gr N bt bc bk ap pl → (∀ j, j < 38 ∨ 64 < j → h' j = h j) → Post (some (vi (-1))) n h') : zMP G mX8_later [.ref 38] n h Post := by
  obtain ⟨⟨al, pm, pd, sq, up, lw, m38⟩, ⟨ek, hA, hE⟩, hT, hp⟩ := hM
  have i2 := hI.1
  refine zMP_of (by decide) [some _] (Nat.le_of_ble_eq_true rfl) rfl ?_
  refine zr_aload_n (pc := 0)  (i := 0) rfl rfl dX8_later_0 ?_
  refine zr_iconst (pc := 1)  dX8_later_1 ?_
  refine zr_put (pc := 2)  (oMod _ _ _ _ _ _ _ _ _ _) (fp_X8_91 rfl) (by first | assumption | rfl | (repeat (first | assumption | exact zup_s | refine zup_g (by decide) ?_))) (Nat.le_of_ble_eq_true rfl) rfl rfl rfl dX8_later_2 ?_
  refine zr_aload_n (pc := 5)  (i := 0) rfl rfl dX8_later_5 ?_
  refine zr_get (pc := 6)  fl_X8_105 (by first | assumption | rfl | (repeat (first | assumption | exact zup_s | refine zup_g (by decide) ?_))) rfl dX8_later_6 ?_
  refine zr_bipush (pc := 9)  (by decide) dX8_later_9 ?_
  refine zr_icmp_ne (pc := 11)  (tgt := 16) ⟨by omega, by omega⟩ ⟨by omega, by omega⟩ (by decide) dX8_later_11 (fun q11 => ?_) (fun q11 => ?_)
  · refine zr_aload_n (pc := 16)  (i := 0) rfl rfl dX8_later_16 ?_
    refine zr_dup (pc := 17)  rfl dX8_later_17 ?_
    refine zr_get (pc := 18)  fl_X8_105 (by first | assumption | rfl | (repeat (first | assumption | exact zup_s | refine zup_g (by decide) ?_))) rfl dX8_later_18 ?_
    refine zr_iconst (pc := 21)  dX8_later_21 ?_
    refine zr_iadd (pc := 22)  dX8_later_22 ?_
    refine zr_put (pc := 23)  (oMod _ _ _ _ _ _ _ _ _ _) (fp_X8_105 rfl) (by first | assumption | rfl | (repeat (first | assumption | exact zup_s | refine zup_g (by decide) ?_))) (Nat.le_of_ble_eq_true rfl) rfl rfl rfl dX8_later_23 ?_
    refine zr_aload_n (pc := 26)  (i := 0) rfl rfl dX8_later_26 ?_
    refine zr_get (pc := 27)  fl_X8_105 (by first | assumption | rfl | (repeat (first | assumption | exact zup_s | refine zup_g (by decide) ?_))) rfl dX8_later_27 ?_
    refine zr_ireturn (pc := 30)  rfl (by decide) (by decide) dX8_later_30 ?_
    exact k1 (by omega) _ ⟨⟨_, _, _, _, _, _, rfl⟩, ⟨ek, mA_fr hA (fun j a b => by rw [zup_n (by omega), zup_n (by omega)]), hE⟩, mT_fr hT (fun j a b => by rw [zup_n (by omega), zup_n (by omega)]), hp⟩ (fun j hj => by rw [zup_n (by omega), zup_n (by omega)])
  · refine zr_iconst (pc := 14)  dX8_later_14 ?_
    refine zr_ireturn (pc := 15)  rfl (by decide) (by decide) dX8_later_15 ?_
    exact k0 (by omega) _ ⟨⟨_, _, _, _, _, _, rfl⟩, ⟨ek, mA_fr hA (fun j a b => zup_n (by omega)), hE⟩, mT_fr hT (fun j a b => zup_n (by omega)), hp⟩ (fun j hj => zup_n (by omega))
theorem k_X8_road {r a b c : Int} (hM : mK h th now len tb rk rs rg gr N bt bc bk ap pl) (hI : oI now len tb rk rs rg gr num N bt bc be bn ap pl) (hr : iR r) (ha : iR a) (hb : iR b) (hc : iR c) (k1 : ((0 ≤ r ∧ r < 16) ∧ rk r = 0) ∧ ((0 ≤ a ∧ a < 8) ∧ (0 ≤ b ∧ b < 8) ∧ a ≠ b) ∧ (-1 ≤ c ∧ c < 4) → ∀ h', mK h' 0 now len tb (uZ rk r 1) (uZ rs r a) (uZ rg r b) (uZ gr r c) N bt bc bk ap pl → (∀ j, j < 38 ∨ 64 < j → h' j = h j) → Post (some (vi 1)) n h') (k0 : ¬ (((0 ≤ r ∧ r < 16) ∧ rk r = 0) ∧ ((0 ≤ a ∧ a < 8) ∧ (0 ≤ b ∧ b < 8) ∧ a ≠ b) ∧ (-1 ≤ c ∧ c < 4)) → ∀ h', mK h' 0 now len tb rk rs rg gr N bt bc bk ap pl → (∀ j, j < 38 ∨ 64 < j → h' j = h j) → Post (some (vi 0)) n h') : zMP G mX8_road [.ref 38, vi r, vi a, vi b, vi c] n h Post := by
  obtain ⟨⟨al, pm, pd, sq, up, lw, m38⟩, ⟨ek, hA, hE⟩, hT, hp⟩ := hM
  have i4r := hI.2.2.2.1 r
  have hA' := hA
  obtain ⟨m39, m40, m41, m42, m43, m44, m45, m46, m47, m48, m49⟩ := hA'
  refine zMP_of (by decide) [some _, some _, some _, some _, some _] (Nat.le_of_ble_eq_true rfl) rfl ?_
  refine zr_aload_n (pc := 0)  (i := 0) rfl rfl dX8_road_0 ?_
  refine zr_iconst (pc := 1)  dX8_road_1 ?_
  refine zr_put (pc := 2)  (oMod _ _ _ _ _ _ _ _ _ _) (fp_X8_91 rfl) (by first | assumption | rfl | (repeat (first | assumption | exact zup_s | refine zup_g (by decide) ?_))) (Nat.le_of_ble_eq_true rfl) rfl rfl rfl dX8_road_2 ?_
  refine zr_iload_n (pc := 5)  (i := 1) rfl rfl dX8_road_5 ?_
  refine zr_if_lt (pc := 6)  (tgt := 61) ⟨by omega, by omega⟩ (by decide) dX8_road_6 (fun q6 => ?_) (fun q6 => ?_)
  · refine zr_iconst (pc := 61)  dX8_road_61 ?_
    refine zr_zreturn (pc := 62)  rfl (by omega) (by decide) (by decide) dX8_road_62 ?_
    exact k0 (by omega) _ ⟨⟨_, _, _, _, _, _, rfl⟩, ⟨ek, mA_fr hA (fun j a b => zup_n (by omega)), hE⟩, mT_fr hT (fun j a b => zup_n (by omega)), hp⟩ (fun j hj => zup_n (by omega))
  · refine zr_iload_n (pc := 9)  (i := 1) rfl rfl dX8_road_9 ?_
    refine zr_bipush (pc := 10)  (by decide) dX8_road_10 ?_
    refine zr_icmp_ge (pc := 12)  (tgt := 61) ⟨by omega, by omega⟩ ⟨by omega, by omega⟩ (by decide) dX8_road_12 (fun q12 => ?_) (fun q12 => ?_)
    · refine zr_iconst (pc := 61)  dX8_road_61 ?_
      refine zr_zreturn (pc := 62)  rfl (by omega) (by decide) (by decide) dX8_road_62 ?_
      exact k0 (by omega) _ ⟨⟨_, _, _, _, _, _, rfl⟩, ⟨ek, mA_fr hA (fun j a b => zup_n (by omega)), hE⟩, mT_fr hT (fun j a b => zup_n (by omega)), hp⟩ (fun j hj => zup_n (by omega))
    · refine zr_aload_n (pc := 15)  (i := 0) rfl rfl dX8_road_15 ?_
      refine zr_get (pc := 16)  fl_X8_13 (by first | assumption | rfl | (repeat (first | assumption | exact zup_s | refine zup_g (by decide) ?_))) rfl dX8_road_16 ?_
      refine zr_iload_n (pc := 19)  (i := 1) rfl rfl dX8_road_19 ?_
      refine zr_zald (pc := 20)  (by first | assumption | rfl | (repeat (first | assumption | exact zup_s | refine zup_g (by decide) ?_))) ⟨by omega, by omega⟩ (by decide) dX8_road_20 ?_
      refine zr_if_ne (pc := 21)  (tgt := 61) ⟨by omega, by omega⟩ (by decide) dX8_road_21 (fun q21 => ?_) (fun q21 => ?_)
      · refine zr_iconst (pc := 61)  dX8_road_61 ?_
        refine zr_zreturn (pc := 62)  rfl (by omega) (by decide) (by decide) dX8_road_62 ?_
        exact k0 (by omega) _ ⟨⟨_, _, _, _, _, _, rfl⟩, ⟨ek, mA_fr hA (fun j a b => zup_n (by omega)), hE⟩, mT_fr hT (fun j a b => zup_n (by omega)), hp⟩ (fun j hj => zup_n (by omega))
      · refine zr_iload_n (pc := 24)  (i := 2) rfl rfl dX8_road_24 ?_
        refine zr_if_lt (pc := 25)  (tgt := 61) ⟨by omega, by omega⟩ (by decide) dX8_road_25 (fun q25 => ?_) (fun q25 => ?_)
        · refine zr_iconst (pc := 61)  dX8_road_61 ?_
          refine zr_zreturn (pc := 62)  rfl (by omega) (by decide) (by decide) dX8_road_62 ?_
          exact k0 (by omega) _ ⟨⟨_, _, _, _, _, _, rfl⟩, ⟨ek, mA_fr hA (fun j a b => zup_n (by omega)), hE⟩, mT_fr hT (fun j a b => zup_n (by omega)), hp⟩ (fun j hj => zup_n (by omega))
        · refine zr_iload_n (pc := 28)  (i := 2) rfl rfl dX8_road_28 ?_
          refine zr_bipush (pc := 29)  (by decide) dX8_road_29 ?_
          refine zr_icmp_ge (pc := 31)  (tgt := 61) ⟨by omega, by omega⟩ ⟨by omega, by omega⟩ (by decide) dX8_road_31 (fun q31 => ?_) (fun q31 => ?_)
          · refine zr_iconst (pc := 61)  dX8_road_61 ?_
            refine zr_zreturn (pc := 62)  rfl (by omega) (by decide) (by decide) dX8_road_62 ?_
            exact k0 (by omega) _ ⟨⟨_, _, _, _, _, _, rfl⟩, ⟨ek, mA_fr hA (fun j a b => zup_n (by omega)), hE⟩, mT_fr hT (fun j a b => zup_n (by omega)), hp⟩ (fun j hj => zup_n (by omega))
          · refine zr_iload_n (pc := 34)  (i := 3) rfl rfl dX8_road_34 ?_
            refine zr_if_lt (pc := 35)  (tgt := 61) ⟨by omega, by omega⟩ (by decide) dX8_road_35 (fun q35 => ?_) (fun q35 => ?_)
            · refine zr_iconst (pc := 61)  dX8_road_61 ?_
              refine zr_zreturn (pc := 62)  rfl (by omega) (by decide) (by decide) dX8_road_62 ?_
              exact k0 (by omega) _ ⟨⟨_, _, _, _, _, _, rfl⟩, ⟨ek, mA_fr hA (fun j a b => zup_n (by omega)), hE⟩, mT_fr hT (fun j a b => zup_n (by omega)), hp⟩ (fun j hj => zup_n (by omega))
            · refine zr_iload_n (pc := 38)  (i := 3) rfl rfl dX8_road_38 ?_
              refine zr_bipush (pc := 39)  (by decide) dX8_road_39 ?_
              refine zr_icmp_ge (pc := 41)  (tgt := 61) ⟨by omega, by omega⟩ ⟨by omega, by omega⟩ (by decide) dX8_road_41 (fun q41 => ?_) (fun q41 => ?_)
              · refine zr_iconst (pc := 61)  dX8_road_61 ?_
                refine zr_zreturn (pc := 62)  rfl (by omega) (by decide) (by decide) dX8_road_62 ?_
                exact k0 (by omega) _ ⟨⟨_, _, _, _, _, _, rfl⟩, ⟨ek, mA_fr hA (fun j a b => zup_n (by omega)), hE⟩, mT_fr hT (fun j a b => zup_n (by omega)), hp⟩ (fun j hj => zup_n (by omega))
              · refine zr_iload_n (pc := 44)  (i := 2) rfl rfl dX8_road_44 ?_
                refine zr_iload_n (pc := 45)  (i := 3) rfl rfl dX8_road_45 ?_
                refine zr_icmp_eq (pc := 46)  (tgt := 61) ⟨by omega, by omega⟩ ⟨by omega, by omega⟩ (by decide) dX8_road_46 (fun q46 => ?_) (fun q46 => ?_)
                · refine zr_iconst (pc := 61)  dX8_road_61 ?_
                  refine zr_zreturn (pc := 62)  rfl (by omega) (by decide) (by decide) dX8_road_62 ?_
                  exact k0 (by omega) _ ⟨⟨_, _, _, _, _, _, rfl⟩, ⟨ek, mA_fr hA (fun j a b => zup_n (by omega)), hE⟩, mT_fr hT (fun j a b => zup_n (by omega)), hp⟩ (fun j hj => zup_n (by omega))
                · refine zr_iload (pc := 49)  rfl dX8_road_49 ?_
                  refine zr_iconst (pc := 51)  dX8_road_51 ?_
                  refine zr_icmp_lt (pc := 52)  (tgt := 61) ⟨by omega, by omega⟩ ⟨by omega, by omega⟩ (by decide) dX8_road_52 (fun q52 => ?_) (fun q52 => ?_)
                  · refine zr_iconst (pc := 61)  dX8_road_61 ?_
                    refine zr_zreturn (pc := 62)  rfl (by omega) (by decide) (by decide) dX8_road_62 ?_
                    exact k0 (by omega) _ ⟨⟨_, _, _, _, _, _, rfl⟩, ⟨ek, mA_fr hA (fun j a b => zup_n (by omega)), hE⟩, mT_fr hT (fun j a b => zup_n (by omega)), hp⟩ (fun j hj => zup_n (by omega))
                  · refine zr_iload (pc := 55)  rfl dX8_road_55 ?_
                    refine zr_iconst (pc := 57)  dX8_road_57 ?_
                    refine zr_icmp_lt (pc := 58)  (tgt := 63) ⟨by omega, by omega⟩ ⟨by omega, by omega⟩ (by decide) dX8_road_58 (fun q58 => ?_) (fun q58 => ?_)
                    · refine zr_aload_n (pc := 63)  (i := 0) rfl rfl dX8_road_63 ?_
                      refine zr_get (pc := 64)  fl_X8_13 (by first | assumption | rfl | (repeat (first | assumption | exact zup_s | refine zup_g (by decide) ?_))) rfl dX8_road_64 ?_
                      refine zr_iload_n (pc := 67)  (i := 1) rfl rfl dX8_road_67 ?_
                      refine zr_iconst (pc := 68)  dX8_road_68 ?_
                      refine zr_zast (pc := 69)  (by first | assumption | rfl | (repeat (first | assumption | exact zup_s | refine zup_g (by decide) ?_))) ⟨by omega, by omega⟩ (by decide) (by omega) dX8_road_69 ?_
                      refine zr_aload_n (pc := 70)  (i := 0) rfl rfl dX8_road_70 ?_
                      refine zr_get (pc := 71)  fl_X8_20 (by first | assumption | rfl | (repeat (first | assumption | exact zup_s | refine zup_g (by decide) ?_))) rfl dX8_road_71 ?_
                      refine zr_iload_n (pc := 74)  (i := 1) rfl rfl dX8_road_74 ?_
                      refine zr_iload_n (pc := 75)  (i := 2) rfl rfl dX8_road_75 ?_
                      refine zr_iast (pc := 76)  (by first | assumption | rfl | (repeat (first | assumption | exact zup_s | refine zup_g (by decide) ?_))) ⟨by omega, by omega⟩ (by decide) dX8_road_76 ?_
                      refine zr_aload_n (pc := 77)  (i := 0) rfl rfl dX8_road_77 ?_
                      refine zr_get (pc := 78)  fl_X8_24 (by first | assumption | rfl | (repeat (first | assumption | exact zup_s | refine zup_g (by decide) ?_))) rfl dX8_road_78 ?_
                      refine zr_iload_n (pc := 81)  (i := 1) rfl rfl dX8_road_81 ?_
                      refine zr_iload_n (pc := 82)  (i := 3) rfl rfl dX8_road_82 ?_
                      refine zr_iast (pc := 83)  (by first | assumption | rfl | (repeat (first | assumption | exact zup_s | refine zup_g (by decide) ?_))) ⟨by omega, by omega⟩ (by decide) dX8_road_83 ?_
                      refine zr_aload_n (pc := 84)  (i := 0) rfl rfl dX8_road_84 ?_
                      refine zr_get (pc := 85)  fl_X8_27 (by first | assumption | rfl | (repeat (first | assumption | exact zup_s | refine zup_g (by decide) ?_))) rfl dX8_road_85 ?_
                      refine zr_iload_n (pc := 88)  (i := 1) rfl rfl dX8_road_88 ?_
                      refine zr_iload (pc := 89)  rfl dX8_road_89 ?_
                      refine zr_iast (pc := 91)  (by first | assumption | rfl | (repeat (first | assumption | exact zup_s | refine zup_g (by decide) ?_))) ⟨by omega, by omega⟩ (by decide) dX8_road_91 ?_
                      refine zr_iconst (pc := 92)  dX8_road_92 ?_
                      refine zr_zreturn (pc := 93)  rfl (by omega) (by decide) (by decide) dX8_road_93 ?_
                      refine k1 (by omega) _ ⟨⟨_, _, _, _, _, _, rfl⟩, ⟨ek, ⟨m39, rfl, m41, rfl, rfl, rfl, m45, m46, m47, m48, m49⟩, hE⟩, mT_fr hT (fun j a b => by rw [zup_n (by omega), zup_n (by omega), zup_n (by omega), zup_n (by omega), zup_n (by omega)]), hp⟩ (fun j hj => by rw [zup_n (by omega), zup_n (by omega), zup_n (by omega), zup_n (by omega), zup_n (by omega)])
                    · refine zr_iconst (pc := 61)  dX8_road_61 ?_
                      refine zr_zreturn (pc := 62)  rfl (by omega) (by decide) (by decide) dX8_road_62 ?_
                      exact k0 (by omega) _ ⟨⟨_, _, _, _, _, _, rfl⟩, ⟨ek, mA_fr hA (fun j a b => zup_n (by omega)), hE⟩, mT_fr hT (fun j a b => zup_n (by omega)), hp⟩ (fun j hj => zup_n (by omega))
end MOD2
