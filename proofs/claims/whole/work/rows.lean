section
-- ===== PART A: goes FIRST, ahead of the names: the tables' words, and 'selects' of the private methods out of them =====
/-- a private method of a class that the tables say can be made, by its rows of tables_1 -/
def lw_okq (q : MethodName × Nat) : Prop := (q.1.cls ≠ "java/lang/invoke/MethodHandle" ∧ q.1.cls ≠ "java/lang/invoke/VarHandle") ∧ Cond.instantiable q.1.cls q.2 ∈ tables_1 ∧ Cond.privateMethod q.1 ∈ tables_1 ∧ Cond.instanceMethod q.1 ∈ tables_1
theorem lw_p0 : lw_okq (⟨"RoadOffice", "enterKinds", "(II)I"⟩, 7) := ⟨⟨by decide +kernel, by decide +kernel⟩, List.mem_of_getElem? (i := 16) (by decide +kernel), List.mem_of_getElem? (i := 263) (by decide +kernel), List.mem_of_getElem? (i := 264) (by decide +kernel)⟩
theorem lw_p1 : lw_okq (⟨"RoadOffice", "enterRow", "(II)I"⟩, 7) := ⟨⟨by decide +kernel, by decide +kernel⟩, List.mem_of_getElem? (i := 16) (by decide +kernel), List.mem_of_getElem? (i := 288) (by decide +kernel), List.mem_of_getElem? (i := 289) (by decide +kernel)⟩
theorem lw_p2 : lw_okq (⟨"RoadOffice", "isAskable", "(II)Z"⟩, 7) := ⟨⟨by decide +kernel, by decide +kernel⟩, List.mem_of_getElem? (i := 16) (by decide +kernel), List.mem_of_getElem? (i := 312) (by decide +kernel), List.mem_of_getElem? (i := 313) (by decide +kernel)⟩
theorem lw_p3 : lw_okq (⟨"RoadOffice$Books", "holding", "(II)I"⟩, 7) := ⟨⟨by decide +kernel, by decide +kernel⟩, List.mem_of_getElem? (i := 61) (by decide +kernel), List.mem_of_getElem? (i := 320) (by decide +kernel), List.mem_of_getElem? (i := 321) (by decide +kernel)⟩
theorem lw_p4 : lw_okq (⟨"RoadOffice$View", "isSeenAllTheYear", "(I)Z"⟩, 14) := ⟨⟨by decide +kernel, by decide +kernel⟩, List.mem_of_getElem? (i := 92) (by decide +kernel), List.mem_of_getElem? (i := 345) (by decide +kernel), List.mem_of_getElem? (i := 346) (by decide +kernel)⟩
theorem lw_p5 : lw_okq (⟨"RoadOffice$View", "tallyGroup", "(III)V"⟩, 14) := ⟨⟨by decide +kernel, by decide +kernel⟩, List.mem_of_getElem? (i := 92) (by decide +kernel), List.mem_of_getElem? (i := 350) (by decide +kernel), List.mem_of_getElem? (i := 351) (by decide +kernel)⟩
theorem lw_p6 : lw_okq (⟨"RoadOffice$View", "tallyPost", "(II)V"⟩, 14) := ⟨⟨by decide +kernel, by decide +kernel⟩, List.mem_of_getElem? (i := 92) (by decide +kernel), List.mem_of_getElem? (i := 366) (by decide +kernel), List.mem_of_getElem? (i := 367) (by decide +kernel)⟩
theorem lw_p7 : lw_okq (⟨"RoadOffice$View", "sampleLimit", "(I)I"⟩, 14) := ⟨⟨by decide +kernel, by decide +kernel⟩, List.mem_of_getElem? (i := 92) (by decide +kernel), List.mem_of_getElem? (i := 410) (by decide +kernel), List.mem_of_getElem? (i := 411) (by decide +kernel)⟩
theorem lw_p8 : lw_okq (⟨"RoadOffice$View", "drawDays", "(II)V"⟩, 14) := ⟨⟨by decide +kernel, by decide +kernel⟩, List.mem_of_getElem? (i := 92) (by decide +kernel), List.mem_of_getElem? (i := 414) (by decide +kernel), List.mem_of_getElem? (i := 415) (by decide +kernel)⟩
theorem lw_p9 : lw_okq (⟨"RoadOffice$View", "weighSample", "(I)V"⟩, 14) := ⟨⟨by decide +kernel, by decide +kernel⟩, List.mem_of_getElem? (i := 92) (by decide +kernel), List.mem_of_getElem? (i := 426) (by decide +kernel), List.mem_of_getElem? (i := 427) (by decide +kernel)⟩
theorem lw_p10 : lw_okq (⟨"RoadOffice$View", "fits", "(I)Z"⟩, 14) := ⟨⟨by decide +kernel, by decide +kernel⟩, List.mem_of_getElem? (i := 92) (by decide +kernel), List.mem_of_getElem? (i := 434) (by decide +kernel), List.mem_of_getElem? (i := 435) (by decide +kernel)⟩
theorem lw_p11 : lw_okq (⟨"RoadOffice$View", "fitsAhead", "(I)I"⟩, 14) := ⟨⟨by decide +kernel, by decide +kernel⟩, List.mem_of_getElem? (i := 92) (by decide +kernel), List.mem_of_getElem? (i := 438) (by decide +kernel), List.mem_of_getElem? (i := 439) (by decide +kernel)⟩
theorem lw_p12 : lw_okq (⟨"RoadOffice$View", "sumOfCounts", "(I)I"⟩, 14) := ⟨⟨by decide +kernel, by decide +kernel⟩, List.mem_of_getElem? (i := 92) (by decide +kernel), List.mem_of_getElem? (i := 458) (by decide +kernel), List.mem_of_getElem? (i := 459) (by decide +kernel)⟩
theorem lw_p13 : lw_okq (⟨"RoadOffice$View", "putLedYear", "(ILRoadOffice$Fraction;)V"⟩, 14) := ⟨⟨by decide +kernel, by decide +kernel⟩, List.mem_of_getElem? (i := 92) (by decide +kernel), List.mem_of_getElem? (i := 470) (by decide +kernel), List.mem_of_getElem? (i := 471) (by decide +kernel)⟩
theorem lw_p14 : lw_okq (⟨"java/lang/Throwable", "fillInStackTrace", "(I)Ljava/lang/Throwable;"⟩, 6) := ⟨⟨by decide +kernel, by decide +kernel⟩, List.mem_of_getElem? (i := 546) (by decide +kernel), List.mem_of_getElem? (i := 544) (by decide +kernel), List.mem_of_getElem? (i := 545) (by decide +kernel)⟩
theorem lw_p15 : lw_okq (⟨"RoadOffice", "excessAt", "(I)I"⟩, 7) := ⟨⟨by decide +kernel, by decide +kernel⟩, List.mem_of_getElem? (i := 16) (by decide +kernel), List.mem_of_getElem? (i := 618) (by decide +kernel), List.mem_of_getElem? (i := 619) (by decide +kernel)⟩
def lw_privs_1 : List (MethodName × Nat) := [(⟨"RoadOffice", "enterKinds", "(II)I"⟩, 7), (⟨"RoadOffice", "enterRow", "(II)I"⟩, 7), (⟨"RoadOffice", "isAskable", "(II)Z"⟩, 7), (⟨"RoadOffice$Books", "holding", "(II)I"⟩, 7), (⟨"RoadOffice$View", "isSeenAllTheYear", "(I)Z"⟩, 14), (⟨"RoadOffice$View", "tallyGroup", "(III)V"⟩, 14), (⟨"RoadOffice$View", "tallyPost", "(II)V"⟩, 14), (⟨"RoadOffice$View", "sampleLimit", "(I)I"⟩, 14), (⟨"RoadOffice$View", "drawDays", "(II)V"⟩, 14), (⟨"RoadOffice$View", "weighSample", "(I)V"⟩, 14), (⟨"RoadOffice$View", "fits", "(I)Z"⟩, 14), (⟨"RoadOffice$View", "fitsAhead", "(I)I"⟩, 14), (⟨"RoadOffice$View", "sumOfCounts", "(I)I"⟩, 14), (⟨"RoadOffice$View", "putLedYear", "(ILRoadOffice$Fraction;)V"⟩, 14), (⟨"java/lang/Throwable", "fillInStackTrace", "(I)Ljava/lang/Throwable;"⟩, 6), (⟨"RoadOffice", "excessAt", "(I)I"⟩, 7)]
theorem lw_r1 : ∀ q ∈ lw_privs_1, lw_okq q := List.forall_mem_cons.mpr ⟨lw_p0, List.forall_mem_cons.mpr ⟨lw_p1, List.forall_mem_cons.mpr ⟨lw_p2, List.forall_mem_cons.mpr ⟨lw_p3, List.forall_mem_cons.mpr ⟨lw_p4, List.forall_mem_cons.mpr ⟨lw_p5, List.forall_mem_cons.mpr ⟨lw_p6, List.forall_mem_cons.mpr ⟨lw_p7, List.forall_mem_cons.mpr ⟨lw_p8, List.forall_mem_cons.mpr ⟨lw_p9, List.forall_mem_cons.mpr ⟨lw_p10, List.forall_mem_cons.mpr ⟨lw_p11, List.forall_mem_cons.mpr ⟨lw_p12, List.forall_mem_cons.mpr ⟨lw_p13, List.forall_mem_cons.mpr ⟨lw_p14, List.forall_mem_cons.mpr ⟨lw_p15, fun _ h => absurd h List.not_mem_nil⟩⟩⟩⟩⟩⟩⟩⟩⟩⟩⟩⟩⟩⟩⟩⟩
theorem lw_p16 : lw_okq (⟨"RoadOffice", "settleBalance", "()V"⟩, 7) := ⟨⟨by decide +kernel, by decide +kernel⟩, List.mem_of_getElem? (i := 16) (by decide +kernel), List.mem_of_getElem? (i := 638) (by decide +kernel), List.mem_of_getElem? (i := 639) (by decide +kernel)⟩
theorem lw_p17 : lw_okq (⟨"RoadOffice$Balance", "turnOver", "(I)V"⟩, 4) := ⟨⟨by decide +kernel, by decide +kernel⟩, List.mem_of_getElem? (i := 174) (by decide +kernel), List.mem_of_getElem? (i := 665) (by decide +kernel), List.mem_of_getElem? (i := 666) (by decide +kernel)⟩
theorem lw_p18 : lw_okq (⟨"RoadOffice$Balance", "pullAt", "(I)J"⟩, 4) := ⟨⟨by decide +kernel, by decide +kernel⟩, List.mem_of_getElem? (i := 174) (by decide +kernel), List.mem_of_getElem? (i := 669) (by decide +kernel), List.mem_of_getElem? (i := 670) (by decide +kernel)⟩
theorem lw_p19 : lw_okq (⟨"RoadOfficeModel", "four", "(I)V"⟩, 36) := ⟨⟨by decide +kernel, by decide +kernel⟩, List.mem_of_getElem? (i := 678) (by decide +kernel), List.mem_of_getElem? (i := 801) (by decide +kernel), List.mem_of_getElem? (i := 802) (by decide +kernel)⟩
theorem lw_p20 : lw_okq (⟨"RoadOfficeModel", "taken", "()I"⟩, 36) := ⟨⟨by decide +kernel, by decide +kernel⟩, List.mem_of_getElem? (i := 678) (by decide +kernel), List.mem_of_getElem? (i := 817) (by decide +kernel), List.mem_of_getElem? (i := 818) (by decide +kernel)⟩
theorem lw_p21 : lw_okq (⟨"RoadOfficeModel", "isRoad", "(I)Z"⟩, 36) := ⟨⟨by decide +kernel, by decide +kernel⟩, List.mem_of_getElem? (i := 678) (by decide +kernel), List.mem_of_getElem? (i := 821) (by decide +kernel), List.mem_of_getElem? (i := 822) (by decide +kernel)⟩
theorem lw_p22 : lw_okq (⟨"RoadOfficeModel", "at", "(I)I"⟩, 36) := ⟨⟨by decide +kernel, by decide +kernel⟩, List.mem_of_getElem? (i := 678) (by decide +kernel), List.mem_of_getElem? (i := 828) (by decide +kernel), List.mem_of_getElem? (i := 829) (by decide +kernel)⟩
theorem lw_p23 : lw_okq (⟨"RoadOfficeModel", "enter", "(IIIIII)V"⟩, 36) := ⟨⟨by decide +kernel, by decide +kernel⟩, List.mem_of_getElem? (i := 678) (by decide +kernel), List.mem_of_getElem? (i := 832) (by decide +kernel), List.mem_of_getElem? (i := 833) (by decide +kernel)⟩
theorem lw_p24 : lw_okq (⟨"RoadOfficeModel", "look", "(III)I"⟩, 36) := ⟨⟨by decide +kernel, by decide +kernel⟩, List.mem_of_getElem? (i := 678) (by decide +kernel), List.mem_of_getElem? (i := 852) (by decide +kernel), List.mem_of_getElem? (i := 853) (by decide +kernel)⟩
theorem lw_p25 : lw_okq (⟨"RoadOfficeModel", "holds", "(III)I"⟩, 36) := ⟨⟨by decide +kernel, by decide +kernel⟩, List.mem_of_getElem? (i := 678) (by decide +kernel), List.mem_of_getElem? (i := 856) (by decide +kernel), List.mem_of_getElem? (i := 857) (by decide +kernel)⟩
theorem lw_p26 : lw_okq (⟨"RoadOfficeModel", "lookUp", "(I)V"⟩, 36) := ⟨⟨by decide +kernel, by decide +kernel⟩, List.mem_of_getElem? (i := 678) (by decide +kernel), List.mem_of_getElem? (i := 868) (by decide +kernel), List.mem_of_getElem? (i := 869) (by decide +kernel)⟩
theorem lw_p27 : lw_okq (⟨"RoadOfficeModel", "sums", "(II)Z"⟩, 36) := ⟨⟨by decide +kernel, by decide +kernel⟩, List.mem_of_getElem? (i := 678) (by decide +kernel), List.mem_of_getElem? (i := 879) (by decide +kernel), List.mem_of_getElem? (i := 880) (by decide +kernel)⟩
theorem lw_p28 : lw_okq (⟨"RoadOfficeModel", "throwsIf", "(Z)Z"⟩, 36) := ⟨⟨by decide +kernel, by decide +kernel⟩, List.mem_of_getElem? (i := 678) (by decide +kernel), List.mem_of_getElem? (i := 887) (by decide +kernel), List.mem_of_getElem? (i := 888) (by decide +kernel)⟩
theorem lw_p29 : lw_okq (⟨"RoadOfficeModel", "worthOf", "(I)J"⟩, 36) := ⟨⟨by decide +kernel, by decide +kernel⟩, List.mem_of_getElem? (i := 678) (by decide +kernel), List.mem_of_getElem? (i := 891) (by decide +kernel), List.mem_of_getElem? (i := 892) (by decide +kernel)⟩
theorem lw_p30 : lw_okq (⟨"RoadOfficeModel", "sampleOf", "(I)I"⟩, 36) := ⟨⟨by decide +kernel, by decide +kernel⟩, List.mem_of_getElem? (i := 678) (by decide +kernel), List.mem_of_getElem? (i := 899) (by decide +kernel), List.mem_of_getElem? (i := 900) (by decide +kernel)⟩
theorem lw_p31 : lw_okq (⟨"RoadOfficeModel", "fitAll", "(I)I"⟩, 36) := ⟨⟨by decide +kernel, by decide +kernel⟩, List.mem_of_getElem? (i := 678) (by decide +kernel), List.mem_of_getElem? (i := 907) (by decide +kernel), List.mem_of_getElem? (i := 908) (by decide +kernel)⟩
def lw_privs_2 : List (MethodName × Nat) := [(⟨"RoadOffice", "settleBalance", "()V"⟩, 7), (⟨"RoadOffice$Balance", "turnOver", "(I)V"⟩, 4), (⟨"RoadOffice$Balance", "pullAt", "(I)J"⟩, 4), (⟨"RoadOfficeModel", "four", "(I)V"⟩, 36), (⟨"RoadOfficeModel", "taken", "()I"⟩, 36), (⟨"RoadOfficeModel", "isRoad", "(I)Z"⟩, 36), (⟨"RoadOfficeModel", "at", "(I)I"⟩, 36), (⟨"RoadOfficeModel", "enter", "(IIIIII)V"⟩, 36), (⟨"RoadOfficeModel", "look", "(III)I"⟩, 36), (⟨"RoadOfficeModel", "holds", "(III)I"⟩, 36), (⟨"RoadOfficeModel", "lookUp", "(I)V"⟩, 36), (⟨"RoadOfficeModel", "sums", "(II)Z"⟩, 36), (⟨"RoadOfficeModel", "throwsIf", "(Z)Z"⟩, 36), (⟨"RoadOfficeModel", "worthOf", "(I)J"⟩, 36), (⟨"RoadOfficeModel", "sampleOf", "(I)I"⟩, 36), (⟨"RoadOfficeModel", "fitAll", "(I)I"⟩, 36)]
theorem lw_r2 : ∀ q ∈ lw_privs_2, lw_okq q := List.forall_mem_cons.mpr ⟨lw_p16, List.forall_mem_cons.mpr ⟨lw_p17, List.forall_mem_cons.mpr ⟨lw_p18, List.forall_mem_cons.mpr ⟨lw_p19, List.forall_mem_cons.mpr ⟨lw_p20, List.forall_mem_cons.mpr ⟨lw_p21, List.forall_mem_cons.mpr ⟨lw_p22, List.forall_mem_cons.mpr ⟨lw_p23, List.forall_mem_cons.mpr ⟨lw_p24, List.forall_mem_cons.mpr ⟨lw_p25, List.forall_mem_cons.mpr ⟨lw_p26, List.forall_mem_cons.mpr ⟨lw_p27, List.forall_mem_cons.mpr ⟨lw_p28, List.forall_mem_cons.mpr ⟨lw_p29, List.forall_mem_cons.mpr ⟨lw_p30, List.forall_mem_cons.mpr ⟨lw_p31, fun _ h => absurd h List.not_mem_nil⟩⟩⟩⟩⟩⟩⟩⟩⟩⟩⟩⟩⟩⟩⟩⟩
theorem lw_p32 : lw_okq (⟨"RoadOfficeModel", "fits", "(II)Z"⟩, 36) := ⟨⟨by decide +kernel, by decide +kernel⟩, List.mem_of_getElem? (i := 678) (by decide +kernel), List.mem_of_getElem? (i := 911) (by decide +kernel), List.mem_of_getElem? (i := 912) (by decide +kernel)⟩
theorem lw_p33 : lw_okq (⟨"RoadOfficeModel", "begins", "(II)Z"⟩, 36) := ⟨⟨by decide +kernel, by decide +kernel⟩, List.mem_of_getElem? (i := 678) (by decide +kernel), List.mem_of_getElem? (i := 925) (by decide +kernel), List.mem_of_getElem? (i := 926) (by decide +kernel)⟩
theorem lw_p34 : lw_okq (⟨"RoadOfficeModel", "yearOf", "(I)Z"⟩, 36) := ⟨⟨by decide +kernel, by decide +kernel⟩, List.mem_of_getElem? (i := 678) (by decide +kernel), List.mem_of_getElem? (i := 929) (by decide +kernel), List.mem_of_getElem? (i := 930) (by decide +kernel)⟩
theorem lw_p35 : lw_okq (⟨"RoadOfficeModel", "set", "(JJ)V"⟩, 36) := ⟨⟨by decide +kernel, by decide +kernel⟩, List.mem_of_getElem? (i := 678) (by decide +kernel), List.mem_of_getElem? (i := 933) (by decide +kernel), List.mem_of_getElem? (i := 934) (by decide +kernel)⟩
theorem lw_p36 : lw_okq (⟨"RoadOfficeModel", "flowAll", "(I)V"⟩, 36) := ⟨⟨by decide +kernel, by decide +kernel⟩, List.mem_of_getElem? (i := 678) (by decide +kernel), List.mem_of_getElem? (i := 948) (by decide +kernel), List.mem_of_getElem? (i := 949) (by decide +kernel)⟩
theorem lw_p37 : lw_okq (⟨"RoadOfficeModel", "missingAt", "(I)J"⟩, 36) := ⟨⟨by decide +kernel, by decide +kernel⟩, List.mem_of_getElem? (i := 678) (by decide +kernel), List.mem_of_getElem? (i := 957) (by decide +kernel), List.mem_of_getElem? (i := 958) (by decide +kernel)⟩
theorem lw_p38 : lw_okq (⟨"RoadOfficeModel", "choose", "()I"⟩, 36) := ⟨⟨by decide +kernel, by decide +kernel⟩, List.mem_of_getElem? (i := 678) (by decide +kernel), List.mem_of_getElem? (i := 965) (by decide +kernel), List.mem_of_getElem? (i := 966) (by decide +kernel)⟩
theorem lw_p39 : lw_okq (⟨"RoadOfficeModel", "spread", "()V"⟩, 36) := ⟨⟨by decide +kernel, by decide +kernel⟩, List.mem_of_getElem? (i := 678) (by decide +kernel), List.mem_of_getElem? (i := 969) (by decide +kernel), List.mem_of_getElem? (i := 970) (by decide +kernel)⟩
theorem lw_p40 : lw_okq (⟨"RoadOfficeModel", "determinant", "(II)J"⟩, 36) := ⟨⟨by decide +kernel, by decide +kernel⟩, List.mem_of_getElem? (i := 678) (by decide +kernel), List.mem_of_getElem? (i := 973) (by decide +kernel), List.mem_of_getElem? (i := 974) (by decide +kernel)⟩
def lw_privs_3 : List (MethodName × Nat) := [(⟨"RoadOfficeModel", "fits", "(II)Z"⟩, 36), (⟨"RoadOfficeModel", "begins", "(II)Z"⟩, 36), (⟨"RoadOfficeModel", "yearOf", "(I)Z"⟩, 36), (⟨"RoadOfficeModel", "set", "(JJ)V"⟩, 36), (⟨"RoadOfficeModel", "flowAll", "(I)V"⟩, 36), (⟨"RoadOfficeModel", "missingAt", "(I)J"⟩, 36), (⟨"RoadOfficeModel", "choose", "()I"⟩, 36), (⟨"RoadOfficeModel", "spread", "()V"⟩, 36), (⟨"RoadOfficeModel", "determinant", "(II)J"⟩, 36)]
theorem lw_r3 : ∀ q ∈ lw_privs_3, lw_okq q := List.forall_mem_cons.mpr ⟨lw_p32, List.forall_mem_cons.mpr ⟨lw_p33, List.forall_mem_cons.mpr ⟨lw_p34, List.forall_mem_cons.mpr ⟨lw_p35, List.forall_mem_cons.mpr ⟨lw_p36, List.forall_mem_cons.mpr ⟨lw_p37, List.forall_mem_cons.mpr ⟨lw_p38, List.forall_mem_cons.mpr ⟨lw_p39, List.forall_mem_cons.mpr ⟨lw_p40, fun _ h => absurd h List.not_mem_nil⟩⟩⟩⟩⟩⟩⟩⟩⟩
def lw_privs : List (MethodName × Nat) := lw_privs_1 ++ (lw_privs_2 ++ (lw_privs_3))
def lw_tbl : List Cond := k2_sels lw_privs ++ tables_1
theorem lw_privs_ok : ∀ q ∈ lw_privs, lw_okq q := by
  show ∀ q ∈ lw_privs_1 ++ (lw_privs_2 ++ (lw_privs_3)), lw_okq q
  exact List.forall_mem_append.mpr ⟨lw_r1, List.forall_mem_append.mpr ⟨lw_r2, lw_r3⟩⟩
end
section
def RX0 : String := "RoadOffice$Balance"
def TX0 : u_T := fun k => match k with
  | 0 => ("RoadOffice$Balance", "table", "[[J", true)
  | 1 => ("RoadOffice$Balance", "excesses", "[J", true)
  | 2 => ("RoadOffice$Balance", "pulls", "[J", true)
  | _ => ("RoadOffice$Balance", "divisor", "J", false)
def tyX0 : Nat → FieldType := fun k => match k with
  | 0 => .array (.array .long)
  | 1 => .array .long
  | 2 => .array .long
  | _ => .long
abbrev wsX00 : List Cond := u_ws RX0 TX0 4
theorem nmX0 : ∀ a, a < 4 → ∀ b, b < 4 → a ≠ b → (TX0 a).2.1 ≠ (TX0 b).2.1 := by decide +kernel
theorem tyX0_ok : ∀ k, k < 4 → parseFieldDescriptor (TX0 k).2.2.1 = some (tyX0 k) := by decide +kernel
abbrev cX0_init : ByteArray := prog_2_method_1_code
def yX0_init : MethodName := ⟨RX0, "<init>", "()V"⟩
abbrev cX0_clear : ByteArray := prog_2_method_2_code
def yX0_clear : MethodName := ⟨RX0, "clear", "()V"⟩
abbrev cX0_addRoad : ByteArray := prog_2_method_3_code
def yX0_addRoad : MethodName := ⟨RX0, "addRoad", "(III)V"⟩
abbrev cX0_setExcess : ByteArray := prog_2_method_4_code
def yX0_setExcess : MethodName := ⟨RX0, "setExcess", "(II)V"⟩
abbrev cX0_settle : ByteArray := prog_2_method_5_code
def yX0_settle : MethodName := ⟨RX0, "settle", "()V"⟩
abbrev cX0_putAgreed : ByteArray := prog_2_method_6_code
def yX0_putAgreed : MethodName := ⟨RX0, "putAgreed", "(IIIILRoadOffice$Fraction;)V"⟩
abbrev cX0_turnOver : ByteArray := prog_2_method_7_code
def yX0_turnOver : MethodName := ⟨RX0, "turnOver", "(I)V"⟩
abbrev cX0_pullAt : ByteArray := prog_2_method_8_code
def yX0_pullAt : MethodName := ⟨RX0, "pullAt", "(I)J"⟩
def RX1 : String := "RoadOffice$Books"
def TX1 : u_T := fun k => match k with
  | 0 => ("RoadOffice$Books", "times", "[I", true)
  | 1 => ("RoadOffice$Books", "counts", "[I", true)
  | 2 => ("RoadOffice$Books", "kinds", "[I", true)
  | 3 => ("RoadOffice$Books", "earlier", "[I", true)
  | 4 => ("RoadOffice$Books", "newest", "[I", true)
  | 5 => ("RoadOffice$Books", "apart", "[Z", true)
  | _ => ("RoadOffice$Books", "number", "I", false)
def tyX1 : Nat → FieldType := fun k => match k with
  | 0 => .array .int
  | 1 => .array .int
  | 2 => .array .int
  | 3 => .array .int
  | 4 => .array .int
  | 5 => .array .boolean
  | _ => .int
abbrev wsX10 : List Cond := u_ws RX1 TX1 7
theorem nmX1 : ∀ a, a < 7 → ∀ b, b < 7 → a ≠ b → (TX1 a).2.1 ≠ (TX1 b).2.1 := by decide +kernel
theorem tyX1_ok : ∀ k, k < 7 → parseFieldDescriptor (TX1 k).2.2.1 = some (tyX1 k) := by decide +kernel
abbrev cX1_init : ByteArray := prog_3_method_1_code
def yX1_init : MethodName := ⟨RX1, "<init>", "()V"⟩
abbrev cX1_number : ByteArray := prog_3_method_2_code
def yX1_number : MethodName := ⟨RX1, "number", "()I"⟩
abbrev cX1_hasRoomFor : ByteArray := prog_3_method_3_code
def yX1_hasRoomFor : MethodName := ⟨RX1, "hasRoomFor", "(I)Z"⟩
abbrev cX1_enter : ByteArray := prog_3_method_4_code
def yX1_enter : MethodName := ⟨RX1, "enter", "(III)V"⟩
abbrev cX1_tellKinds : ByteArray := prog_3_method_5_code
def yX1_tellKinds : MethodName := ⟨RX1, "tellKinds", "(III)V"⟩
abbrev cX1_setApart : ByteArray := prog_3_method_6_code
def yX1_setApart : MethodName := ⟨RX1, "setApart", "(IZ)Z"⟩
abbrev cX1_state : ByteArray := prog_3_method_7_code
def yX1_state : MethodName := ⟨RX1, "state", "(II)I"⟩
abbrev cX1_ofKind : ByteArray := prog_3_method_8_code
def yX1_ofKind : MethodName := ⟨RX1, "ofKind", "(III)I"⟩
abbrev cX1_holding : ByteArray := prog_3_method_9_code
def yX1_holding : MethodName := ⟨RX1, "holding", "(II)I"⟩
def RX2 : String := "RoadOffice$Fraction"
def TX2 : u_T := fun k => match k with
  | 0 => ("RoadOffice$Fraction", "upper", "J", false)
  | _ => ("RoadOffice$Fraction", "lower", "J", false)
def tyX2 : Nat → FieldType := fun k => match k with
  | 0 => .long
  | _ => .long
abbrev wsX20 : List Cond := u_ws RX2 TX2 2
theorem nmX2 : ∀ a, a < 2 → ∀ b, b < 2 → a ≠ b → (TX2 a).2.1 ≠ (TX2 b).2.1 := by decide +kernel
theorem tyX2_ok : ∀ k, k < 2 → parseFieldDescriptor (TX2 k).2.2.1 = some (tyX2 k) := by decide +kernel
abbrev cX2_init : ByteArray := prog_4_method_1_code
def yX2_init : MethodName := ⟨RX2, "<init>", "()V"⟩
abbrev cX2_put : ByteArray := prog_4_method_2_code
def yX2_put : MethodName := ⟨RX2, "put", "(JJ)V"⟩
abbrev cX2_part : ByteArray := prog_4_method_3_code
def yX2_part : MethodName := ⟨RX2, "part", "(I)J"⟩
abbrev cX2_roundedHalfUp : ByteArray := prog_4_method_4_code
def yX2_roundedHalfUp : MethodName := ⟨RX2, "roundedHalfUp", "()J"⟩
abbrev cX2_order : ByteArray := prog_4_method_5_code
def yX2_order : MethodName := ⟨RX2, "order", "(JJJJ)I"⟩
abbrev cX2_commonDivisor : ByteArray := prog_4_method_6_code
def yX2_commonDivisor : MethodName := ⟨RX2, "commonDivisor", "(JJ)J"⟩
def RX3 : String := "RoadOffice$Roads"
def TX3 : u_T := fun k => match k with
  | 0 => ("RoadOffice$Roads", "known", "[Z", true)
  | 1 => ("RoadOffice$Roads", "starts", "[I", true)
  | 2 => ("RoadOffice$Roads", "goals", "[I", true)
  | 3 => ("RoadOffice$Roads", "groups", "[I", true)
  | _ => ("RoadOffice$Roads", "number", "I", false)
def tyX3 : Nat → FieldType := fun k => match k with
  | 0 => .array .boolean
  | 1 => .array .int
  | 2 => .array .int
  | 3 => .array .int
  | _ => .int
abbrev wsX30 : List Cond := u_ws RX3 TX3 5
theorem nmX3 : ∀ a, a < 5 → ∀ b, b < 5 → a ≠ b → (TX3 a).2.1 ≠ (TX3 b).2.1 := by decide +kernel
theorem tyX3_ok : ∀ k, k < 5 → parseFieldDescriptor (TX3 k).2.2.1 = some (tyX3 k) := by decide +kernel
abbrev cX3_init : ByteArray := prog_5_method_1_code
def yX3_init : MethodName := ⟨RX3, "<init>", "()V"⟩
abbrev cX3_add : ByteArray := prog_5_method_2_code
def yX3_add : MethodName := ⟨RX3, "add", "(IIII)V"⟩
abbrev cX3_has : ByteArray := prog_5_method_3_code
def yX3_has : MethodName := ⟨RX3, "has", "(I)Z"⟩
abbrev cX3_isPost : ByteArray := prog_5_method_4_code
def yX3_isPost : MethodName := ⟨RX3, "isPost", "(I)Z"⟩
abbrev cX3_start : ByteArray := prog_5_method_5_code
def yX3_start : MethodName := ⟨RX3, "start", "(I)I"⟩
abbrev cX3_goal : ByteArray := prog_5_method_6_code
def yX3_goal : MethodName := ⟨RX3, "goal", "(I)I"⟩
abbrev cX3_group : ByteArray := prog_5_method_7_code
def yX3_group : MethodName := ⟨RX3, "group", "(I)I"⟩
abbrev cX3_number : ByteArray := prog_5_method_8_code
def yX3_number : MethodName := ⟨RX3, "number", "()I"⟩
def RX4 : String := "RoadOffice$Tallies"
def TX4 : u_T := fun k => match k with
  | 0 => ("RoadOffice$Tallies", "weekdays", "[I", true)
  | 1 => ("RoadOffice$Tallies", "months", "[I", true)
  | 2 => ("RoadOffice$Tallies", "totals", "[I", true)
  | _ => ("RoadOffice$Tallies", "posts", "[I", true)
def tyX4 : Nat → FieldType := fun k => match k with
  | 0 => .array .int
  | 1 => .array .int
  | 2 => .array .int
  | _ => .array .int
abbrev wsX40 : List Cond := u_ws RX4 TX4 4
theorem nmX4 : ∀ a, a < 4 → ∀ b, b < 4 → a ≠ b → (TX4 a).2.1 ≠ (TX4 b).2.1 := by decide +kernel
theorem tyX4_ok : ∀ k, k < 4 → parseFieldDescriptor (TX4 k).2.2.1 = some (tyX4 k) := by decide +kernel
abbrev cX4_init : ByteArray := prog_6_method_1_code
def yX4_init : MethodName := ⟨RX4, "<init>", "()V"⟩
abbrev cX4_clear : ByteArray := prog_6_method_2_code
def yX4_clear : MethodName := ⟨RX4, "clear", "(I)V"⟩
abbrev cX4_isFull : ByteArray := prog_6_method_3_code
def yX4_isFull : MethodName := ⟨RX4, "isFull", "(I)Z"⟩
abbrev cX4_addPost : ByteArray := prog_6_method_4_code
def yX4_addPost : MethodName := ⟨RX4, "addPost", "(I)V"⟩
abbrev cX4_addCount : ByteArray := prog_6_method_5_code
def yX4_addCount : MethodName := ⟨RX4, "addCount", "(III)V"⟩
abbrev cX4_numberOfPosts : ByteArray := prog_6_method_6_code
def yX4_numberOfPosts : MethodName := ⟨RX4, "numberOfPosts", "(I)I"⟩
abbrev cX4_isThere : ByteArray := prog_6_method_7_code
def yX4_isThere : MethodName := ⟨RX4, "isThere", "(I)Z"⟩
abbrev cX4_value : ByteArray := prog_6_method_8_code
def yX4_value : MethodName := ⟨RX4, "value", "(II)I"⟩
abbrev cX4_valueOfYear : ByteArray := prog_6_method_9_code
def yX4_valueOfYear : MethodName := ⟨RX4, "valueOfYear", "(I)J"⟩
def RX5 : String := "RoadOffice$Tape"
def TX5 : u_T := fun k => match k with
  | 0 => ("RoadOffice$Tape", "bytes", "[I", true)
  | _ => ("RoadOffice$Tape", "length", "I", false)
def tyX5 : Nat → FieldType := fun k => match k with
  | 0 => .array .int
  | _ => .int
abbrev wsX50 : List Cond := u_ws RX5 TX5 2
theorem nmX5 : ∀ a, a < 2 → ∀ b, b < 2 → a ≠ b → (TX5 a).2.1 ≠ (TX5 b).2.1 := by decide +kernel
theorem tyX5_ok : ∀ k, k < 2 → parseFieldDescriptor (TX5 k).2.2.1 = some (tyX5 k) := by decide +kernel
abbrev cX5_init : ByteArray := prog_7_method_1_code
def yX5_init : MethodName := ⟨RX5, "<init>", "()V"⟩
abbrev cX5_length : ByteArray := prog_7_method_2_code
def yX5_length : MethodName := ⟨RX5, "length", "()I"⟩
abbrev cX5_at : ByteArray := prog_7_method_3_code
def yX5_at : MethodName := ⟨RX5, "at", "(I)I"⟩
abbrev cX5_append : ByteArray := prog_7_method_4_code
def yX5_append : MethodName := ⟨RX5, "append", "(I)V"⟩
abbrev cX5_cut : ByteArray := prog_7_method_5_code
def yX5_cut : MethodName := ⟨RX5, "cut", "(I)Z"⟩
abbrev cX5_holdsCountsAlone : ByteArray := prog_7_method_6_code
def yX5_holdsCountsAlone : MethodName := ⟨RX5, "holdsCountsAlone", "()Z"⟩
def RX6 : String := "RoadOffice$View"
def TX6 : u_T := fun k => match k with
  | 0 => ("RoadOffice$View", "roads", "LRoadOffice$Roads;", true)
  | 1 => ("RoadOffice$View", "books", "LRoadOffice$Books;", true)
  | 2 => ("RoadOffice$View", "tallies", "LRoadOffice$Tallies;", true)
  | 3 => ("RoadOffice$View", "wholePosts", "[Z", true)
  | 4 => ("RoadOffice$View", "sampleDays", "[I", true)
  | 5 => ("RoadOffice$View", "sampleCounts", "[I", true)
  | 6 => ("RoadOffice$View", "sampleSize", "I", false)
  | 7 => ("RoadOffice$View", "products", "[J", true)
  | 8 => ("RoadOffice$View", "squares", "[J", true)
  | 9 => ("RoadOffice$View", "flows", "[I", true)
  | 10 => ("RoadOffice$View", "doubts", "[I", true)
  | 11 => ("RoadOffice$View", "yearly", "LRoadOffice$Fraction;", true)
  | 12 => ("RoadOffice$View", "flowsFound", "Z", false)
  | _ => ("RoadOffice$View", "time", "I", false)
def tyX6 : Nat → FieldType := fun k => match k with
  | 0 => .object "RoadOffice$Roads"
  | 1 => .object "RoadOffice$Books"
  | 2 => .object "RoadOffice$Tallies"
  | 3 => .array .boolean
  | 4 => .array .int
  | 5 => .array .int
  | 6 => .int
  | 7 => .array .long
  | 8 => .array .long
  | 9 => .array .int
  | 10 => .array .int
  | 11 => .object "RoadOffice$Fraction"
  | 12 => .boolean
  | _ => .int
abbrev wsX60 : List Cond := u_ws RX6 TX6 14
theorem nmX6 : ∀ a, a < 14 → ∀ b, b < 14 → a ≠ b → (TX6 a).2.1 ≠ (TX6 b).2.1 := by decide +kernel
theorem tyX6_ok : ∀ k, k < 14 → parseFieldDescriptor (TX6 k).2.2.1 = some (tyX6 k) := by decide +kernel
abbrev cX6_init : ByteArray := prog_8_method_1_code
def yX6_init : MethodName := ⟨RX6, "<init>", "(LRoadOffice$Roads;LRoadOffice$Books;)V"⟩
abbrev cX6_forget : ByteArray := prog_8_method_2_code
def yX6_forget : MethodName := ⟨RX6, "forget", "()V"⟩
abbrev cX6_lookAt : ByteArray := prog_8_method_3_code
def yX6_lookAt : MethodName := ⟨RX6, "lookAt", "(I)V"⟩
abbrev cX6_isWholePost : ByteArray := prog_8_method_4_code
def yX6_isWholePost : MethodName := ⟨RX6, "isWholePost", "(I)Z"⟩
abbrev cX6_isThere : ByteArray := prog_8_method_5_code
def yX6_isThere : MethodName := ⟨RX6, "isThere", "(I)Z"⟩
abbrev cX6_postsOf : ByteArray := prog_8_method_6_code
def yX6_postsOf : MethodName := ⟨RX6, "postsOf", "(I)I"⟩
abbrev cX6_dayValue : ByteArray := prog_8_method_7_code
def yX6_dayValue : MethodName := ⟨RX6, "dayValue", "(II)I"⟩
abbrev cX6_sampleSizeOf : ByteArray := prog_8_method_8_code
def yX6_sampleSizeOf : MethodName := ⟨RX6, "sampleSizeOf", "(I)I"⟩
abbrev cX6_groupAtRank : ByteArray := prog_8_method_9_code
def yX6_groupAtRank : MethodName := ⟨RX6, "groupAtRank", "(II)I"⟩
abbrev cX6_putYear : ByteArray := prog_8_method_10_code
def yX6_putYear : MethodName := ⟨RX6, "putYear", "(ILRoadOffice$Fraction;)Z"⟩
abbrev cX6_putTrial : ByteArray := prog_8_method_11_code
def yX6_putTrial : MethodName := ⟨RX6, "putTrial", "(ILRoadOffice$Fraction;)Z"⟩
abbrev cX6_findFlows : ByteArray := prog_8_method_12_code
def yX6_findFlows : MethodName := ⟨RX6, "findFlows", "()V"⟩
abbrev cX6_flowOf : ByteArray := prog_8_method_13_code
def yX6_flowOf : MethodName := ⟨RX6, "flowOf", "(I)I"⟩
abbrev cX6_doubtOf : ByteArray := prog_8_method_14_code
def yX6_doubtOf : MethodName := ⟨RX6, "doubtOf", "(I)I"⟩
abbrev cX6_sampleLimit : ByteArray := prog_8_method_15_code
def yX6_sampleLimit : MethodName := ⟨RX6, "sampleLimit", "(I)I"⟩
abbrev cX6_isSeenAllTheYear : ByteArray := prog_8_method_16_code
def yX6_isSeenAllTheYear : MethodName := ⟨RX6, "isSeenAllTheYear", "(I)Z"⟩
abbrev cX6_tallyGroup : ByteArray := prog_8_method_17_code
def yX6_tallyGroup : MethodName := ⟨RX6, "tallyGroup", "(III)V"⟩
abbrev cX6_tallyPost : ByteArray := prog_8_method_18_code
def yX6_tallyPost : MethodName := ⟨RX6, "tallyPost", "(II)V"⟩
abbrev cX6_sumOfCounts : ByteArray := prog_8_method_19_code
def yX6_sumOfCounts : MethodName := ⟨RX6, "sumOfCounts", "(I)I"⟩
abbrev cX6_drawDays : ByteArray := prog_8_method_20_code
def yX6_drawDays : MethodName := ⟨RX6, "drawDays", "(II)V"⟩
abbrev cX6_weighSample : ByteArray := prog_8_method_21_code
def yX6_weighSample : MethodName := ⟨RX6, "weighSample", "(I)V"⟩
abbrev cX6_fits : ByteArray := prog_8_method_22_code
def yX6_fits : MethodName := ⟨RX6, "fits", "(I)Z"⟩
abbrev cX6_fitsAhead : ByteArray := prog_8_method_23_code
def yX6_fitsAhead : MethodName := ⟨RX6, "fitsAhead", "(I)I"⟩
abbrev cX6_putLedYear : ByteArray := prog_8_method_24_code
def yX6_putLedYear : MethodName := ⟨RX6, "putLedYear", "(ILRoadOffice$Fraction;)V"⟩
def RX7 : String := "RoadOffice"
def TX7 : u_T := fun k => match k with
  | 0 => ("RoadOffice", "tape", "LRoadOffice$Tape;", true)
  | 1 => ("RoadOffice", "roads", "LRoadOffice$Roads;", true)
  | 2 => ("RoadOffice", "books", "LRoadOffice$Books;", true)
  | 3 => ("RoadOffice", "view", "LRoadOffice$View;", true)
  | 4 => ("RoadOffice", "balance", "LRoadOffice$Balance;", true)
  | 5 => ("RoadOffice", "fraction", "LRoadOffice$Fraction;", true)
  | _ => ("RoadOffice", "now", "I", false)
def tyX7 : Nat → FieldType := fun k => match k with
  | 0 => .object "RoadOffice$Tape"
  | 1 => .object "RoadOffice$Roads"
  | 2 => .object "RoadOffice$Books"
  | 3 => .object "RoadOffice$View"
  | 4 => .object "RoadOffice$Balance"
  | 5 => .object "RoadOffice$Fraction"
  | _ => .int
abbrev wsX70 : List Cond := u_ws RX7 TX7 7
theorem nmX7 : ∀ a, a < 7 → ∀ b, b < 7 → a ≠ b → (TX7 a).2.1 ≠ (TX7 b).2.1 := by decide +kernel
theorem tyX7_ok : ∀ k, k < 7 → parseFieldDescriptor (TX7 k).2.2.1 = some (tyX7 k) := by decide +kernel
abbrev cX7_init : ByteArray := prog_1_method_1_code
def yX7_init : MethodName := ⟨RX7, "<init>", "()V"⟩
abbrev cX7_feed : ByteArray := prog_1_method_2_code
def yX7_feed : MethodName := ⟨RX7, "feed", "(IIIII)I"⟩
abbrev cX7_end : ByteArray := prog_1_method_3_code
def yX7_end : MethodName := ⟨RX7, "end", "(I)Z"⟩
abbrev cX7_road : ByteArray := prog_1_method_4_code
def yX7_road : MethodName := ⟨RX7, "road", "(IIII)Z"⟩
abbrev cX7_count : ByteArray := prog_1_method_5_code
def yX7_count : MethodName := ⟨RX7, "count", "(II)I"⟩
abbrev cX7_counts : ByteArray := prog_1_method_6_code
def yX7_counts : MethodName := ⟨RX7, "counts", "(II)I"⟩
abbrev cX7_later : ByteArray := prog_1_method_7_code
def yX7_later : MethodName := ⟨RX7, "later", "()I"⟩
abbrev cX7_works : ByteArray := prog_1_method_8_code
def yX7_works : MethodName := ⟨RX7, "works", "(IIIZ)I"⟩
abbrev cX7_seen : ByteArray := prog_1_method_9_code
def yX7_seen : MethodName := ⟨RX7, "seen", "(III)I"⟩
abbrev cX7_kind : ByteArray := prog_1_method_10_code
def yX7_kind : MethodName := ⟨RX7, "kind", "(IIII)I"⟩
abbrev cX7_whole : ByteArray := prog_1_method_11_code
def yX7_whole : MethodName := ⟨RX7, "whole", "(II)I"⟩
abbrev cX7_posts : ByteArray := prog_1_method_12_code
def yX7_posts : MethodName := ⟨RX7, "posts", "(II)I"⟩
abbrev cX7_worth : ByteArray := prog_1_method_13_code
def yX7_worth : MethodName := ⟨RX7, "worth", "(III)I"⟩
abbrev cX7_sample : ByteArray := prog_1_method_14_code
def yX7_sample : MethodName := ⟨RX7, "sample", "(II)I"⟩
abbrev cX7_fit : ByteArray := prog_1_method_15_code
def yX7_fit : MethodName := ⟨RX7, "fit", "(III)I"⟩
abbrev cX7_year : ByteArray := prog_1_method_16_code
def yX7_year : MethodName := ⟨RX7, "year", "(III)J"⟩
abbrev cX7_trial : ByteArray := prog_1_method_17_code
def yX7_trial : MethodName := ⟨RX7, "trial", "(III)J"⟩
abbrev cX7_flow : ByteArray := prog_1_method_18_code
def yX7_flow : MethodName := ⟨RX7, "flow", "(II)I"⟩
abbrev cX7_missing : ByteArray := prog_1_method_19_code
def yX7_missing : MethodName := ⟨RX7, "missing", "(II)I"⟩
abbrev cX7_agreed : ByteArray := prog_1_method_20_code
def yX7_agreed : MethodName := ⟨RX7, "agreed", "(III)J"⟩
abbrev cX7_told : ByteArray := prog_1_method_21_code
def yX7_told : MethodName := ⟨RX7, "told", "(I)I"⟩
abbrev cX7_isBelow : ByteArray := prog_1_method_22_code
def yX7_isBelow : MethodName := ⟨RX7, "isBelow", "(II)Z"⟩
abbrev cX7_isPart : ByteArray := prog_1_method_23_code
def yX7_isPart : MethodName := ⟨RX7, "isPart", "(I)Z"⟩
abbrev cX7_isAskable : ByteArray := prog_1_method_24_code
def yX7_isAskable : MethodName := ⟨RX7, "isAskable", "(II)Z"⟩
abbrev cX7_enterKinds : ByteArray := prog_1_method_25_code
def yX7_enterKinds : MethodName := ⟨RX7, "enterKinds", "(II)I"⟩
abbrev cX7_enterRow : ByteArray := prog_1_method_26_code
def yX7_enterRow : MethodName := ⟨RX7, "enterRow", "(II)I"⟩
abbrev cX7_excessAt : ByteArray := prog_1_method_27_code
def yX7_excessAt : MethodName := ⟨RX7, "excessAt", "(I)I"⟩
abbrev cX7_settleBalance : ByteArray := prog_1_method_28_code
def yX7_settleBalance : MethodName := ⟨RX7, "settleBalance", "()V"⟩
def RX8 : String := "RoadOfficeModel"
def TX8 : u_T := fun k => match k with
  | 0 => ("RoadOfficeModel", "thrown", "I", false)
  | 1 => ("RoadOfficeModel", "tape", "[B", true)
  | 2 => ("RoadOfficeModel", "length", "I", false)
  | 3 => ("RoadOfficeModel", "is", "[Z", true)
  | 4 => ("RoadOfficeModel", "apart", "[Z", true)
  | 5 => ("RoadOfficeModel", "from", "[I", true)
  | 6 => ("RoadOfficeModel", "to", "[I", true)
  | 7 => ("RoadOfficeModel", "group", "[I", true)
  | 8 => ("RoadOfficeModel", "eRoad", "[I", true)
  | 9 => ("RoadOfficeModel", "eDay", "[I", true)
  | 10 => ("RoadOfficeModel", "eTime", "[I", true)
  | 11 => ("RoadOfficeModel", "eCount", "[I", true)
  | 12 => ("RoadOfficeModel", "eKind", "[I", true)
  | 13 => ("RoadOfficeModel", "entries", "I", false)
  | 14 => ("RoadOfficeModel", "now", "I", false)
  | 15 => ("RoadOfficeModel", "seen", "[I", true)
  | 16 => ("RoadOfficeModel", "isWhole", "[Z", true)
  | 17 => ("RoadOfficeModel", "byWeekday", "[J", true)
  | 18 => ("RoadOfficeModel", "byMonth", "[J", true)
  | 19 => ("RoadOfficeModel", "all", "J", false)
  | 20 => ("RoadOfficeModel", "postMany", "I", false)
  | 21 => ("RoadOfficeModel", "product", "J", false)
  | 22 => ("RoadOfficeModel", "square", "J", false)
  | 23 => ("RoadOfficeModel", "order", "[I", true)
  | 24 => ("RoadOfficeModel", "fitProduct", "[J", true)
  | 25 => ("RoadOfficeModel", "fitSquare", "[J", true)
  | 26 => ("RoadOfficeModel", "up", "J", false)
  | 27 => ("RoadOfficeModel", "low", "J", false)
  | 28 => ("RoadOfficeModel", "flows", "[I", true)
  | 29 => ("RoadOfficeModel", "doubts", "[I", true)
  | 30 => ("RoadOfficeModel", "place", "[I", true)
  | 31 => ("RoadOfficeModel", "column", "[I", true)
  | 32 => ("RoadOfficeModel", "matrix", "[J", true)
  | 33 => ("RoadOfficeModel", "side", "[J", true)
  | 34 => ("RoadOfficeModel", "shift", "[J", true)
  | _ => ("RoadOfficeModel", "open", "[Z", true)
def tyX8 : Nat → FieldType := fun k => match k with
  | 0 => .int
  | 1 => .array .byte
  | 2 => .int
  | 3 => .array .boolean
  | 4 => .array .boolean
  | 5 => .array .int
  | 6 => .array .int
  | 7 => .array .int
  | 8 => .array .int
  | 9 => .array .int
  | 10 => .array .int
  | 11 => .array .int
  | 12 => .array .int
  | 13 => .int
  | 14 => .int
  | 15 => .array .int
  | 16 => .array .boolean
  | 17 => .array .long
  | 18 => .array .long
  | 19 => .long
  | 20 => .int
  | 21 => .long
  | 22 => .long
  | 23 => .array .int
  | 24 => .array .long
  | 25 => .array .long
  | 26 => .long
  | 27 => .long
  | 28 => .array .int
  | 29 => .array .int
  | 30 => .array .int
  | 31 => .array .int
  | 32 => .array .long
  | 33 => .array .long
  | 34 => .array .long
  | _ => .array .boolean
abbrev wsX80 : List Cond := u_ws RX8 TX8 36
theorem nmX8 : ∀ a, a < 36 → ∀ b, b < 36 → a ≠ b → (TX8 a).2.1 ≠ (TX8 b).2.1 := by decide +kernel
theorem tyX8_ok : ∀ k, k < 36 → parseFieldDescriptor (TX8 k).2.2.1 = some (tyX8 k) := by decide +kernel
abbrev cX8_init : ByteArray := prog_10_method_1_code
def yX8_init : MethodName := ⟨RX8, "<init>", "()V"⟩
abbrev cX8_thrown : ByteArray := prog_10_method_2_code
def yX8_thrown : MethodName := ⟨RX8, "thrown", "()I"⟩
abbrev cX8_throwsIf : ByteArray := prog_10_method_3_code
def yX8_throwsIf : MethodName := ⟨RX8, "throwsIf", "(Z)Z"⟩
abbrev cX8_feed : ByteArray := prog_10_method_4_code
def yX8_feed : MethodName := ⟨RX8, "feed", "(IIIII)I"⟩
abbrev cX8_four : ByteArray := prog_10_method_5_code
def yX8_four : MethodName := ⟨RX8, "four", "(I)V"⟩
abbrev cX8_end : ByteArray := prog_10_method_6_code
def yX8_end : MethodName := ⟨RX8, "end", "(I)Z"⟩
abbrev cX8_taken : ByteArray := prog_10_method_7_code
def yX8_taken : MethodName := ⟨RX8, "taken", "()I"⟩
abbrev cX8_at : ByteArray := prog_10_method_8_code
def yX8_at : MethodName := ⟨RX8, "at", "(I)I"⟩
abbrev cX8_isRoad : ByteArray := prog_10_method_9_code
def yX8_isRoad : MethodName := ⟨RX8, "isRoad", "(I)Z"⟩
abbrev cX8_isDay : ByteArray := prog_10_method_10_code
def yX8_isDay : MethodName := ⟨RX8, "isDay", "(I)Z"⟩
abbrev cX8_road : ByteArray := prog_10_method_11_code
def yX8_road : MethodName := ⟨RX8, "road", "(IIII)Z"⟩
abbrev cX8_enter : ByteArray := prog_10_method_12_code
def yX8_enter : MethodName := ⟨RX8, "enter", "(IIIIII)V"⟩
abbrev cX8_count : ByteArray := prog_10_method_13_code
def yX8_count : MethodName := ⟨RX8, "count", "(II)I"⟩
abbrev cX8_counts : ByteArray := prog_10_method_14_code
def yX8_counts : MethodName := ⟨RX8, "counts", "(II)I"⟩
abbrev cX8_later : ByteArray := prog_10_method_15_code
def yX8_later : MethodName := ⟨RX8, "later", "()I"⟩
abbrev cX8_works : ByteArray := prog_10_method_16_code
def yX8_works : MethodName := ⟨RX8, "works", "(IIIZ)I"⟩
abbrev cX8_holds : ByteArray := prog_10_method_17_code
def yX8_holds : MethodName := ⟨RX8, "holds", "(III)I"⟩
abbrev cX8_look : ByteArray := prog_10_method_18_code
def yX8_look : MethodName := ⟨RX8, "look", "(III)I"⟩
abbrev cX8_seen : ByteArray := prog_10_method_19_code
def yX8_seen : MethodName := ⟨RX8, "seen", "(III)I"⟩
abbrev cX8_kind : ByteArray := prog_10_method_20_code
def yX8_kind : MethodName := ⟨RX8, "kind", "(IIII)I"⟩
abbrev cX8_lookUp : ByteArray := prog_10_method_21_code
def yX8_lookUp : MethodName := ⟨RX8, "lookUp", "(I)V"⟩
abbrev cX8_whole : ByteArray := prog_10_method_22_code
def yX8_whole : MethodName := ⟨RX8, "whole", "(II)I"⟩
abbrev cX8_sums : ByteArray := prog_10_method_23_code
def yX8_sums : MethodName := ⟨RX8, "sums", "(II)Z"⟩
abbrev cX8_worthOf : ByteArray := prog_10_method_24_code
def yX8_worthOf : MethodName := ⟨RX8, "worthOf", "(I)J"⟩
abbrev cX8_isGroup : ByteArray := prog_10_method_25_code
def yX8_isGroup : MethodName := ⟨RX8, "isGroup", "(I)Z"⟩
abbrev cX8_posts : ByteArray := prog_10_method_26_code
def yX8_posts : MethodName := ⟨RX8, "posts", "(II)I"⟩
abbrev cX8_worth : ByteArray := prog_10_method_27_code
def yX8_worth : MethodName := ⟨RX8, "worth", "(III)I"⟩
abbrev cX8_sampleOf : ByteArray := prog_10_method_28_code
def yX8_sampleOf : MethodName := ⟨RX8, "sampleOf", "(I)I"⟩
abbrev cX8_sample : ByteArray := prog_10_method_29_code
def yX8_sample : MethodName := ⟨RX8, "sample", "(II)I"⟩
abbrev cX8_fits : ByteArray := prog_10_method_30_code
def yX8_fits : MethodName := ⟨RX8, "fits", "(II)Z"⟩
abbrev cX8_isLess : ByteArray := prog_10_method_31_code
def yX8_isLess : MethodName := ⟨RX8, "isLess", "(JJJJ)Z"⟩
abbrev cX8_fitAll : ByteArray := prog_10_method_32_code
def yX8_fitAll : MethodName := ⟨RX8, "fitAll", "(I)I"⟩
abbrev cX8_fit : ByteArray := prog_10_method_33_code
def yX8_fit : MethodName := ⟨RX8, "fit", "(III)I"⟩
abbrev cX8_common : ByteArray := prog_10_method_34_code
def yX8_common : MethodName := ⟨RX8, "common", "(JJ)J"⟩
abbrev cX8_set : ByteArray := prog_10_method_35_code
def yX8_set : MethodName := ⟨RX8, "set", "(JJ)V"⟩
abbrev cX8_yearOf : ByteArray := prog_10_method_36_code
def yX8_yearOf : MethodName := ⟨RX8, "yearOf", "(I)Z"⟩
abbrev cX8_begins : ByteArray := prog_10_method_37_code
def yX8_begins : MethodName := ⟨RX8, "begins", "(II)Z"⟩
abbrev cX8_isWhat : ByteArray := prog_10_method_38_code
def yX8_isWhat : MethodName := ⟨RX8, "isWhat", "(I)Z"⟩
abbrev cX8_year : ByteArray := prog_10_method_39_code
def yX8_year : MethodName := ⟨RX8, "year", "(III)J"⟩
abbrev cX8_trial : ByteArray := prog_10_method_40_code
def yX8_trial : MethodName := ⟨RX8, "trial", "(III)J"⟩
abbrev cX8_flowAll : ByteArray := prog_10_method_41_code
def yX8_flowAll : MethodName := ⟨RX8, "flowAll", "(I)V"⟩
abbrev cX8_flow : ByteArray := prog_10_method_42_code
def yX8_flow : MethodName := ⟨RX8, "flow", "(II)I"⟩
abbrev cX8_missingAt : ByteArray := prog_10_method_43_code
def yX8_missingAt : MethodName := ⟨RX8, "missingAt", "(I)J"⟩
abbrev cX8_missing : ByteArray := prog_10_method_44_code
def yX8_missing : MethodName := ⟨RX8, "missing", "(II)I"⟩
abbrev cX8_choose : ByteArray := prog_10_method_45_code
def yX8_choose : MethodName := ⟨RX8, "choose", "()I"⟩
abbrev cX8_spread : ByteArray := prog_10_method_46_code
def yX8_spread : MethodName := ⟨RX8, "spread", "()V"⟩
abbrev cX8_determinant : ByteArray := prog_10_method_47_code
def yX8_determinant : MethodName := ⟨RX8, "determinant", "(II)J"⟩
abbrev cX8_agreed : ByteArray := prog_10_method_48_code
def yX8_agreed : MethodName := ⟨RX8, "agreed", "(III)J"⟩
abbrev cX8_told : ByteArray := prog_10_method_49_code
def yX8_told : MethodName := ⟨RX8, "told", "(I)I"⟩
def RJ0 : String := "java/lang/String"
def TJ0 : u_T := fun k => match k with
  | _ => ("", "", "", false)
def tyJ0 : Nat → FieldType := fun k => match k with
  | _ => .int
abbrev wsJ00 : List Cond := u_ws RJ0 TJ0 0
theorem nmJ0 : ∀ a, a < 0 → ∀ b, b < 0 → a ≠ b → (TJ0 a).2.1 ≠ (TJ0 b).2.1 := by decide +kernel
theorem tyJ0_ok : ∀ k, k < 0 → parseFieldDescriptor (TJ0 k).2.2.1 = some (tyJ0 k) := by decide +kernel
def RJ7 : String := "java/util/Arrays"
def TJ7 : u_T := fun k => match k with
  | _ => ("", "", "", false)
def tyJ7 : Nat → FieldType := fun k => match k with
  | _ => .int
abbrev wsJ70 : List Cond := u_ws RJ7 TJ7 0
theorem nmJ7 : ∀ a, a < 0 → ∀ b, b < 0 → a ≠ b → (TJ7 a).2.1 ≠ (TJ7 b).2.1 := by decide +kernel
theorem tyJ7_ok : ∀ k, k < 0 → parseFieldDescriptor (TJ7 k).2.2.1 = some (tyJ7 k) := by decide +kernel
abbrev cJ7_fill_d0a16 : ByteArray := prog_15_method_101_code
def yJ7_fill_d0a16 : MethodName := ⟨RJ7, "fill", "([JJ)V"⟩
abbrev cJ7_fill_53178 : ByteArray := prog_15_method_103_code
def yJ7_fill_53178 : MethodName := ⟨RJ7, "fill", "([II)V"⟩
def RL : String := "RoadOfficeLaw"
abbrev cL_worth : ByteArray := method_3_code
def yL_worth : MethodName := ⟨RL, "worth", "(LRoadOffice;III[J)I"⟩
abbrev cL_year : ByteArray := method_4_code
def yL_year : MethodName := ⟨RL, "year", "(LRoadOffice;III[J)I"⟩
abbrev cL_trial : ByteArray := method_5_code
def yL_trial : MethodName := ⟨RL, "trial", "(LRoadOffice;III[J)I"⟩
abbrev cL_missing : ByteArray := method_6_code
def yL_missing : MethodName := ⟨RL, "missing", "(LRoadOffice;II[J)I"⟩
abbrev cL_agreed : ByteArray := method_7_code
def yL_agreed : MethodName := ⟨RL, "agreed", "(LRoadOffice;III[J)I"⟩
abbrev cL_law : ByteArray := code
def yL_law : MethodName := ⟨RL, "law", "([I)Z"⟩
theorem inX0 : ∀ w ∈ wsX00, w ∈ lw_tbl := by decide +kernel
theorem inX1 : ∀ w ∈ wsX10, w ∈ lw_tbl := by decide +kernel
theorem inX2 : ∀ w ∈ wsX20, w ∈ lw_tbl := by decide +kernel
theorem inX3 : ∀ w ∈ wsX30, w ∈ lw_tbl := by decide +kernel
theorem inX4 : ∀ w ∈ wsX40, w ∈ lw_tbl := by decide +kernel
theorem inX5 : ∀ w ∈ wsX50, w ∈ lw_tbl := by decide +kernel
theorem inX6 : ∀ w ∈ wsX60, w ∈ lw_tbl := by decide +kernel
theorem inX7 : ∀ w ∈ wsX70, w ∈ lw_tbl := by decide +kernel
theorem inX8 : ∀ w ∈ wsX80, w ∈ lw_tbl := by decide +kernel
theorem inJ0 : ∀ w ∈ wsJ00, w ∈ lw_tbl := by decide +kernel
theorem inJ7 : ∀ w ∈ wsJ70, w ∈ lw_tbl := by decide +kernel
abbrev vwCl : List vw_C := [(RX0, TX0, 4), (RX1, TX1, 7), (RX2, TX2, 2), (RX3, TX3, 5), (RX4, TX4, 4), (RX5, TX5, 2), (RX6, TX6, 14), (RX7, TX7, 7), (RX8, TX8, 36)]
end
section
theorem dJ7_fill_d0a16_0 : decode cJ7_fill_d0a16 0 = .ok (.iconst 0, 1) := by decide +kernel
theorem dJ7_fill_d0a16_1 : decode cJ7_fill_d0a16 1 = .ok (.istore_n 3, 1) := by decide +kernel
theorem dJ7_fill_d0a16_2 : decode cJ7_fill_d0a16 2 = .ok (.aload_n 0, 1) := by decide +kernel
theorem dJ7_fill_d0a16_3 : decode cJ7_fill_d0a16 3 = .ok (.arraylength, 1) := by decide +kernel
theorem dJ7_fill_d0a16_4 : decode cJ7_fill_d0a16 4 = .ok (.istore 4, 2) := by decide +kernel
theorem dJ7_fill_d0a16_6 : decode cJ7_fill_d0a16 6 = .ok (.iload_n 3, 1) := by decide +kernel
theorem dJ7_fill_d0a16_7 : decode cJ7_fill_d0a16 7 = .ok (.iload 4, 2) := by decide +kernel
theorem dJ7_fill_d0a16_9 : decode cJ7_fill_d0a16 9 = .ok (.if_icmp .ge 13, 3) := by decide +kernel
theorem dJ7_fill_d0a16_12 : decode cJ7_fill_d0a16 12 = .ok (.aload_n 0, 1) := by decide +kernel
theorem dJ7_fill_d0a16_13 : decode cJ7_fill_d0a16 13 = .ok (.iload_n 3, 1) := by decide +kernel
theorem dJ7_fill_d0a16_14 : decode cJ7_fill_d0a16 14 = .ok (.lload_n 1, 1) := by decide +kernel
theorem dJ7_fill_d0a16_15 : decode cJ7_fill_d0a16 15 = .ok (.lastore, 1) := by decide +kernel
theorem dJ7_fill_d0a16_16 : decode cJ7_fill_d0a16 16 = .ok (.iinc 3 1, 3) := by decide +kernel
theorem dJ7_fill_d0a16_19 : decode cJ7_fill_d0a16 19 = .ok (.goto (-13), 3) := by decide +kernel
theorem dJ7_fill_d0a16_22 : decode cJ7_fill_d0a16 22 = .ok (.return_, 1) := by decide +kernel
theorem dJ7_fill_53178_0 : decode cJ7_fill_53178 0 = .ok (.iconst 0, 1) := by decide +kernel
theorem dJ7_fill_53178_1 : decode cJ7_fill_53178 1 = .ok (.istore_n 2, 1) := by decide +kernel
theorem dJ7_fill_53178_2 : decode cJ7_fill_53178 2 = .ok (.aload_n 0, 1) := by decide +kernel
theorem dJ7_fill_53178_3 : decode cJ7_fill_53178 3 = .ok (.arraylength, 1) := by decide +kernel
theorem dJ7_fill_53178_4 : decode cJ7_fill_53178 4 = .ok (.istore_n 3, 1) := by decide +kernel
theorem dJ7_fill_53178_5 : decode cJ7_fill_53178 5 = .ok (.iload_n 2, 1) := by decide +kernel
theorem dJ7_fill_53178_6 : decode cJ7_fill_53178 6 = .ok (.iload_n 3, 1) := by decide +kernel
theorem dJ7_fill_53178_7 : decode cJ7_fill_53178 7 = .ok (.if_icmp .ge 13, 3) := by decide +kernel
theorem dJ7_fill_53178_10 : decode cJ7_fill_53178 10 = .ok (.aload_n 0, 1) := by decide +kernel
theorem dJ7_fill_53178_11 : decode cJ7_fill_53178 11 = .ok (.iload_n 2, 1) := by decide +kernel
theorem dJ7_fill_53178_12 : decode cJ7_fill_53178 12 = .ok (.iload_n 1, 1) := by decide +kernel
theorem dJ7_fill_53178_13 : decode cJ7_fill_53178 13 = .ok (.iastore, 1) := by decide +kernel
theorem dJ7_fill_53178_14 : decode cJ7_fill_53178 14 = .ok (.iinc 2 1, 3) := by decide +kernel
theorem dJ7_fill_53178_17 : decode cJ7_fill_53178 17 = .ok (.goto (-12), 3) := by decide +kernel
theorem dJ7_fill_53178_20 : decode cJ7_fill_53178 20 = .ok (.return_, 1) := by decide +kernel
theorem dX0_init_0 : decode cX0_init 0 = .ok (.aload_n 0, 1) := by decide +kernel
theorem dX0_init_1 : decode cX0_init 1 = .ok (.invokespecial 3, 3) := by decide +kernel
theorem dX0_init_4 : decode cX0_init 4 = .ok (.aload_n 0, 1) := by decide +kernel
theorem dX0_init_5 : decode cX0_init 5 = .ok (.iconst 4, 1) := by decide +kernel
theorem dX0_init_6 : decode cX0_init 6 = .ok (.bipush 8, 2) := by decide +kernel
theorem dX0_init_8 : decode cX0_init 8 = .ok (.multianewarray 9 2, 4) := by decide +kernel
theorem dX0_init_12 : decode cX0_init 12 = .ok (.putfield 11, 3) := by decide +kernel
theorem dX0_init_15 : decode cX0_init 15 = .ok (.aload_n 0, 1) := by decide +kernel
theorem dX0_init_16 : decode cX0_init 16 = .ok (.iconst 4, 1) := by decide +kernel
theorem dX0_init_17 : decode cX0_init 17 = .ok (.newarray .long, 2) := by decide +kernel
theorem dX0_init_19 : decode cX0_init 19 = .ok (.putfield 16, 3) := by decide +kernel
theorem dX0_init_22 : decode cX0_init 22 = .ok (.aload_n 0, 1) := by decide +kernel
theorem dX0_init_23 : decode cX0_init 23 = .ok (.bipush 8, 2) := by decide +kernel
theorem dX0_init_25 : decode cX0_init 25 = .ok (.newarray .long, 2) := by decide +kernel
theorem dX0_init_27 : decode cX0_init 27 = .ok (.putfield 20, 3) := by decide +kernel
theorem dX0_init_30 : decode cX0_init 30 = .ok (.aload_n 0, 1) := by decide +kernel
theorem dX0_init_31 : decode cX0_init 31 = .ok (.lconst 1, 1) := by decide +kernel
theorem dX0_init_32 : decode cX0_init 32 = .ok (.putfield 23, 3) := by decide +kernel
theorem dX0_init_35 : decode cX0_init 35 = .ok (.return_, 1) := by decide +kernel
theorem dX0_clear_0 : decode cX0_clear 0 = .ok (.iconst 0, 1) := by decide +kernel
theorem dX0_clear_1 : decode cX0_clear 1 = .ok (.istore_n 1, 1) := by decide +kernel
theorem dX0_clear_2 : decode cX0_clear 2 = .ok (.iload_n 1, 1) := by decide +kernel
theorem dX0_clear_3 : decode cX0_clear 3 = .ok (.iconst 4, 1) := by decide +kernel
theorem dX0_clear_4 : decode cX0_clear 4 = .ok (.if_icmp .ge 30, 3) := by decide +kernel
theorem dX0_clear_7 : decode cX0_clear 7 = .ok (.aload_n 0, 1) := by decide +kernel
theorem dX0_clear_8 : decode cX0_clear 8 = .ok (.getfield 11, 3) := by decide +kernel
theorem dX0_clear_11 : decode cX0_clear 11 = .ok (.iload_n 1, 1) := by decide +kernel
theorem dX0_clear_12 : decode cX0_clear 12 = .ok (.aaload, 1) := by decide +kernel
theorem dX0_clear_13 : decode cX0_clear 13 = .ok (.lconst 0, 1) := by decide +kernel
theorem dX0_clear_14 : decode cX0_clear 14 = .ok (.invokestatic 27, 3) := by decide +kernel
theorem dX0_clear_17 : decode cX0_clear 17 = .ok (.aload_n 0, 1) := by decide +kernel
theorem dX0_clear_18 : decode cX0_clear 18 = .ok (.getfield 11, 3) := by decide +kernel
theorem dX0_clear_21 : decode cX0_clear 21 = .ok (.iload_n 1, 1) := by decide +kernel
theorem dX0_clear_22 : decode cX0_clear 22 = .ok (.aaload, 1) := by decide +kernel
theorem dX0_clear_23 : decode cX0_clear 23 = .ok (.iconst 4, 1) := by decide +kernel
theorem dX0_clear_24 : decode cX0_clear 24 = .ok (.iload_n 1, 1) := by decide +kernel
theorem dX0_clear_25 : decode cX0_clear 25 = .ok (.iadd, 1) := by decide +kernel
theorem dX0_clear_26 : decode cX0_clear 26 = .ok (.lconst 1, 1) := by decide +kernel
theorem dX0_clear_27 : decode cX0_clear 27 = .ok (.lastore, 1) := by decide +kernel
theorem dX0_clear_28 : decode cX0_clear 28 = .ok (.iinc 1 1, 3) := by decide +kernel
theorem dX0_clear_31 : decode cX0_clear 31 = .ok (.goto (-29), 3) := by decide +kernel
theorem dX0_clear_34 : decode cX0_clear 34 = .ok (.aload_n 0, 1) := by decide +kernel
theorem dX0_clear_35 : decode cX0_clear 35 = .ok (.getfield 20, 3) := by decide +kernel
theorem dX0_clear_38 : decode cX0_clear 38 = .ok (.lconst 0, 1) := by decide +kernel
theorem dX0_clear_39 : decode cX0_clear 39 = .ok (.invokestatic 27, 3) := by decide +kernel
theorem dX0_clear_42 : decode cX0_clear 42 = .ok (.aload_n 0, 1) := by decide +kernel
theorem dX0_clear_43 : decode cX0_clear 43 = .ok (.lconst 1, 1) := by decide +kernel
theorem dX0_clear_44 : decode cX0_clear 44 = .ok (.putfield 23, 3) := by decide +kernel
theorem dX0_clear_47 : decode cX0_clear 47 = .ok (.return_, 1) := by decide +kernel
theorem dX0_addRoad_0 : decode cX0_addRoad 0 = .ok (.iload_n 1, 1) := by decide +kernel
theorem dX0_addRoad_1 : decode cX0_addRoad 1 = .ok (.iconst 4, 1) := by decide +kernel
theorem dX0_addRoad_2 : decode cX0_addRoad 2 = .ok (.if_icmp .ge 16, 3) := by decide +kernel
theorem dX0_addRoad_5 : decode cX0_addRoad 5 = .ok (.aload_n 0, 1) := by decide +kernel
theorem dX0_addRoad_6 : decode cX0_addRoad 6 = .ok (.getfield 11, 3) := by decide +kernel
theorem dX0_addRoad_9 : decode cX0_addRoad 9 = .ok (.iload_n 1, 1) := by decide +kernel
theorem dX0_addRoad_10 : decode cX0_addRoad 10 = .ok (.aaload, 1) := by decide +kernel
theorem dX0_addRoad_11 : decode cX0_addRoad 11 = .ok (.iload_n 1, 1) := by decide +kernel
theorem dX0_addRoad_12 : decode cX0_addRoad 12 = .ok (.dup2, 1) := by decide +kernel
theorem dX0_addRoad_13 : decode cX0_addRoad 13 = .ok (.laload, 1) := by decide +kernel
theorem dX0_addRoad_14 : decode cX0_addRoad 14 = .ok (.iload_n 3, 1) := by decide +kernel
theorem dX0_addRoad_15 : decode cX0_addRoad 15 = .ok (.i2l, 1) := by decide +kernel
theorem dX0_addRoad_16 : decode cX0_addRoad 16 = .ok (.ladd, 1) := by decide +kernel
theorem dX0_addRoad_17 : decode cX0_addRoad 17 = .ok (.lastore, 1) := by decide +kernel
theorem dX0_addRoad_18 : decode cX0_addRoad 18 = .ok (.iload_n 2, 1) := by decide +kernel
theorem dX0_addRoad_19 : decode cX0_addRoad 19 = .ok (.iconst 4, 1) := by decide +kernel
theorem dX0_addRoad_20 : decode cX0_addRoad 20 = .ok (.if_icmp .ge 16, 3) := by decide +kernel
theorem dX0_addRoad_23 : decode cX0_addRoad 23 = .ok (.aload_n 0, 1) := by decide +kernel
theorem dX0_addRoad_24 : decode cX0_addRoad 24 = .ok (.getfield 11, 3) := by decide +kernel
theorem dX0_addRoad_27 : decode cX0_addRoad 27 = .ok (.iload_n 2, 1) := by decide +kernel
theorem dX0_addRoad_28 : decode cX0_addRoad 28 = .ok (.aaload, 1) := by decide +kernel
theorem dX0_addRoad_29 : decode cX0_addRoad 29 = .ok (.iload_n 2, 1) := by decide +kernel
theorem dX0_addRoad_30 : decode cX0_addRoad 30 = .ok (.dup2, 1) := by decide +kernel
theorem dX0_addRoad_31 : decode cX0_addRoad 31 = .ok (.laload, 1) := by decide +kernel
theorem dX0_addRoad_32 : decode cX0_addRoad 32 = .ok (.iload_n 3, 1) := by decide +kernel
theorem dX0_addRoad_33 : decode cX0_addRoad 33 = .ok (.i2l, 1) := by decide +kernel
theorem dX0_addRoad_34 : decode cX0_addRoad 34 = .ok (.ladd, 1) := by decide +kernel
theorem dX0_addRoad_35 : decode cX0_addRoad 35 = .ok (.lastore, 1) := by decide +kernel
theorem dX0_addRoad_36 : decode cX0_addRoad 36 = .ok (.iload_n 1, 1) := by decide +kernel
theorem dX0_addRoad_37 : decode cX0_addRoad 37 = .ok (.iconst 4, 1) := by decide +kernel
theorem dX0_addRoad_38 : decode cX0_addRoad 38 = .ok (.if_icmp .ge 34, 3) := by decide +kernel
theorem dX0_addRoad_41 : decode cX0_addRoad 41 = .ok (.iload_n 2, 1) := by decide +kernel
theorem dX0_addRoad_42 : decode cX0_addRoad 42 = .ok (.iconst 4, 1) := by decide +kernel
theorem dX0_addRoad_43 : decode cX0_addRoad 43 = .ok (.if_icmp .ge 29, 3) := by decide +kernel
theorem dX0_addRoad_46 : decode cX0_addRoad 46 = .ok (.aload_n 0, 1) := by decide +kernel
theorem dX0_addRoad_47 : decode cX0_addRoad 47 = .ok (.getfield 11, 3) := by decide +kernel
theorem dX0_addRoad_50 : decode cX0_addRoad 50 = .ok (.iload_n 1, 1) := by decide +kernel
theorem dX0_addRoad_51 : decode cX0_addRoad 51 = .ok (.aaload, 1) := by decide +kernel
theorem dX0_addRoad_52 : decode cX0_addRoad 52 = .ok (.iload_n 2, 1) := by decide +kernel
theorem dX0_addRoad_53 : decode cX0_addRoad 53 = .ok (.dup2, 1) := by decide +kernel
theorem dX0_addRoad_54 : decode cX0_addRoad 54 = .ok (.laload, 1) := by decide +kernel
theorem dX0_addRoad_55 : decode cX0_addRoad 55 = .ok (.iload_n 3, 1) := by decide +kernel
theorem dX0_addRoad_56 : decode cX0_addRoad 56 = .ok (.i2l, 1) := by decide +kernel
theorem dX0_addRoad_57 : decode cX0_addRoad 57 = .ok (.lsub, 1) := by decide +kernel
theorem dX0_addRoad_58 : decode cX0_addRoad 58 = .ok (.lastore, 1) := by decide +kernel
theorem dX0_addRoad_59 : decode cX0_addRoad 59 = .ok (.aload_n 0, 1) := by decide +kernel
theorem dX0_addRoad_60 : decode cX0_addRoad 60 = .ok (.getfield 11, 3) := by decide +kernel
theorem dX0_addRoad_63 : decode cX0_addRoad 63 = .ok (.iload_n 2, 1) := by decide +kernel
theorem dX0_addRoad_64 : decode cX0_addRoad 64 = .ok (.aaload, 1) := by decide +kernel
theorem dX0_addRoad_65 : decode cX0_addRoad 65 = .ok (.iload_n 1, 1) := by decide +kernel
theorem dX0_addRoad_66 : decode cX0_addRoad 66 = .ok (.dup2, 1) := by decide +kernel
theorem dX0_addRoad_67 : decode cX0_addRoad 67 = .ok (.laload, 1) := by decide +kernel
theorem dX0_addRoad_68 : decode cX0_addRoad 68 = .ok (.iload_n 3, 1) := by decide +kernel
theorem dX0_addRoad_69 : decode cX0_addRoad 69 = .ok (.i2l, 1) := by decide +kernel
theorem dX0_addRoad_70 : decode cX0_addRoad 70 = .ok (.lsub, 1) := by decide +kernel
theorem dX0_addRoad_71 : decode cX0_addRoad 71 = .ok (.lastore, 1) := by decide +kernel
theorem dX0_addRoad_72 : decode cX0_addRoad 72 = .ok (.return_, 1) := by decide +kernel
theorem dX0_setExcess_0 : decode cX0_setExcess 0 = .ok (.aload_n 0, 1) := by decide +kernel
theorem dX0_setExcess_1 : decode cX0_setExcess 1 = .ok (.getfield 16, 3) := by decide +kernel
theorem dX0_setExcess_4 : decode cX0_setExcess 4 = .ok (.iload_n 1, 1) := by decide +kernel
theorem dX0_setExcess_5 : decode cX0_setExcess 5 = .ok (.iload_n 2, 1) := by decide +kernel
theorem dX0_setExcess_6 : decode cX0_setExcess 6 = .ok (.i2l, 1) := by decide +kernel
theorem dX0_setExcess_7 : decode cX0_setExcess 7 = .ok (.lastore, 1) := by decide +kernel
theorem dX0_setExcess_8 : decode cX0_setExcess 8 = .ok (.return_, 1) := by decide +kernel
theorem dX0_settle_0 : decode cX0_settle 0 = .ok (.iconst 0, 1) := by decide +kernel
theorem dX0_settle_1 : decode cX0_settle 1 = .ok (.istore_n 1, 1) := by decide +kernel
theorem dX0_settle_2 : decode cX0_settle 2 = .ok (.iload_n 1, 1) := by decide +kernel
theorem dX0_settle_3 : decode cX0_settle 3 = .ok (.iconst 4, 1) := by decide +kernel
theorem dX0_settle_4 : decode cX0_settle 4 = .ok (.if_icmp .ge 27, 3) := by decide +kernel
theorem dX0_settle_7 : decode cX0_settle 7 = .ok (.aload_n 0, 1) := by decide +kernel
theorem dX0_settle_8 : decode cX0_settle 8 = .ok (.getfield 11, 3) := by decide +kernel
theorem dX0_settle_11 : decode cX0_settle 11 = .ok (.iload_n 1, 1) := by decide +kernel
theorem dX0_settle_12 : decode cX0_settle 12 = .ok (.aaload, 1) := by decide +kernel
theorem dX0_settle_13 : decode cX0_settle 13 = .ok (.iload_n 1, 1) := by decide +kernel
theorem dX0_settle_14 : decode cX0_settle 14 = .ok (.laload, 1) := by decide +kernel
theorem dX0_settle_15 : decode cX0_settle 15 = .ok (.lconst 0, 1) := by decide +kernel
theorem dX0_settle_16 : decode cX0_settle 16 = .ok (.lcmp, 1) := by decide +kernel
theorem dX0_settle_17 : decode cX0_settle 17 = .ok (.ifCond .le 8, 3) := by decide +kernel
theorem dX0_settle_20 : decode cX0_settle 20 = .ok (.aload_n 0, 1) := by decide +kernel
theorem dX0_settle_21 : decode cX0_settle 21 = .ok (.iload_n 1, 1) := by decide +kernel
theorem dX0_settle_22 : decode cX0_settle 22 = .ok (.invokevirtual 33, 3) := by decide +kernel
theorem dX0_settle_25 : decode cX0_settle 25 = .ok (.iinc 1 1, 3) := by decide +kernel
theorem dX0_settle_28 : decode cX0_settle 28 = .ok (.goto (-26), 3) := by decide +kernel
theorem dX0_settle_31 : decode cX0_settle 31 = .ok (.iconst 0, 1) := by decide +kernel
theorem dX0_settle_32 : decode cX0_settle 32 = .ok (.istore_n 1, 1) := by decide +kernel
theorem dX0_settle_33 : decode cX0_settle 33 = .ok (.iload_n 1, 1) := by decide +kernel
theorem dX0_settle_34 : decode cX0_settle 34 = .ok (.iconst 4, 1) := by decide +kernel
theorem dX0_settle_35 : decode cX0_settle 35 = .ok (.if_icmp .ge 37, 3) := by decide +kernel
theorem dX0_settle_38 : decode cX0_settle 38 = .ok (.aload_n 0, 1) := by decide +kernel
theorem dX0_settle_39 : decode cX0_settle 39 = .ok (.getfield 20, 3) := by decide +kernel
theorem dX0_settle_42 : decode cX0_settle 42 = .ok (.iload_n 1, 1) := by decide +kernel
theorem dX0_settle_43 : decode cX0_settle 43 = .ok (.aload_n 0, 1) := by decide +kernel
theorem dX0_settle_44 : decode cX0_settle 44 = .ok (.getfield 11, 3) := by decide +kernel
theorem dX0_settle_47 : decode cX0_settle 47 = .ok (.iload_n 1, 1) := by decide +kernel
theorem dX0_settle_48 : decode cX0_settle 48 = .ok (.aaload, 1) := by decide +kernel
theorem dX0_settle_49 : decode cX0_settle 49 = .ok (.iload_n 1, 1) := by decide +kernel
theorem dX0_settle_50 : decode cX0_settle 50 = .ok (.laload, 1) := by decide +kernel
theorem dX0_settle_51 : decode cX0_settle 51 = .ok (.lconst 0, 1) := by decide +kernel
theorem dX0_settle_52 : decode cX0_settle 52 = .ok (.lcmp, 1) := by decide +kernel
theorem dX0_settle_53 : decode cX0_settle 53 = .ok (.ifCond .le 11, 3) := by decide +kernel
theorem dX0_settle_56 : decode cX0_settle 56 = .ok (.aload_n 0, 1) := by decide +kernel
theorem dX0_settle_57 : decode cX0_settle 57 = .ok (.iload_n 1, 1) := by decide +kernel
theorem dX0_settle_58 : decode cX0_settle 58 = .ok (.invokevirtual 37, 3) := by decide +kernel
theorem dX0_settle_61 : decode cX0_settle 61 = .ok (.goto 4, 3) := by decide +kernel
theorem dX0_settle_64 : decode cX0_settle 64 = .ok (.lconst 0, 1) := by decide +kernel
theorem dX0_settle_65 : decode cX0_settle 65 = .ok (.lastore, 1) := by decide +kernel
theorem dX0_settle_66 : decode cX0_settle 66 = .ok (.iinc 1 1, 3) := by decide +kernel
theorem dX0_settle_69 : decode cX0_settle 69 = .ok (.goto (-36), 3) := by decide +kernel
theorem dX0_settle_72 : decode cX0_settle 72 = .ok (.return_, 1) := by decide +kernel
theorem dX0_putAgreed_0 : decode cX0_putAgreed 0 = .ok (.aload 5, 2) := by decide +kernel
theorem dX0_putAgreed_2 : decode cX0_putAgreed 2 = .ok (.iload_n 3, 1) := by decide +kernel
theorem dX0_putAgreed_3 : decode cX0_putAgreed 3 = .ok (.i2l, 1) := by decide +kernel
theorem dX0_putAgreed_4 : decode cX0_putAgreed 4 = .ok (.aload_n 0, 1) := by decide +kernel
theorem dX0_putAgreed_5 : decode cX0_putAgreed 5 = .ok (.getfield 23, 3) := by decide +kernel
theorem dX0_putAgreed_8 : decode cX0_putAgreed 8 = .ok (.lmul, 1) := by decide +kernel
theorem dX0_putAgreed_9 : decode cX0_putAgreed 9 = .ok (.iload 4, 2) := by decide +kernel
theorem dX0_putAgreed_11 : decode cX0_putAgreed 11 = .ok (.i2l, 1) := by decide +kernel
theorem dX0_putAgreed_12 : decode cX0_putAgreed 12 = .ok (.aload_n 0, 1) := by decide +kernel
theorem dX0_putAgreed_13 : decode cX0_putAgreed 13 = .ok (.getfield 20, 3) := by decide +kernel
theorem dX0_putAgreed_16 : decode cX0_putAgreed 16 = .ok (.iload_n 2, 1) := by decide +kernel
theorem dX0_putAgreed_17 : decode cX0_putAgreed 17 = .ok (.laload, 1) := by decide +kernel
theorem dX0_putAgreed_18 : decode cX0_putAgreed 18 = .ok (.aload_n 0, 1) := by decide +kernel
theorem dX0_putAgreed_19 : decode cX0_putAgreed 19 = .ok (.getfield 20, 3) := by decide +kernel
theorem dX0_putAgreed_22 : decode cX0_putAgreed 22 = .ok (.iload_n 1, 1) := by decide +kernel
theorem dX0_putAgreed_23 : decode cX0_putAgreed 23 = .ok (.laload, 1) := by decide +kernel
theorem dX0_putAgreed_24 : decode cX0_putAgreed 24 = .ok (.lsub, 1) := by decide +kernel
theorem dX0_putAgreed_25 : decode cX0_putAgreed 25 = .ok (.lmul, 1) := by decide +kernel
theorem dX0_putAgreed_26 : decode cX0_putAgreed 26 = .ok (.lsub, 1) := by decide +kernel
theorem dX0_putAgreed_27 : decode cX0_putAgreed 27 = .ok (.aload_n 0, 1) := by decide +kernel
theorem dX0_putAgreed_28 : decode cX0_putAgreed 28 = .ok (.getfield 23, 3) := by decide +kernel
theorem dX0_putAgreed_31 : decode cX0_putAgreed 31 = .ok (.invokevirtual 41, 3) := by decide +kernel
theorem dX0_putAgreed_34 : decode cX0_putAgreed 34 = .ok (.return_, 1) := by decide +kernel
theorem dX0_turnOver_0 : decode cX0_turnOver 0 = .ok (.aload_n 0, 1) := by decide +kernel
theorem dX0_turnOver_1 : decode cX0_turnOver 1 = .ok (.getfield 11, 3) := by decide +kernel
theorem dX0_turnOver_4 : decode cX0_turnOver 4 = .ok (.iload_n 1, 1) := by decide +kernel
theorem dX0_turnOver_5 : decode cX0_turnOver 5 = .ok (.aaload, 1) := by decide +kernel
theorem dX0_turnOver_6 : decode cX0_turnOver 6 = .ok (.iload_n 1, 1) := by decide +kernel
theorem dX0_turnOver_7 : decode cX0_turnOver 7 = .ok (.laload, 1) := by decide +kernel
theorem dX0_turnOver_8 : decode cX0_turnOver 8 = .ok (.lstore_n 2, 1) := by decide +kernel
theorem dX0_turnOver_9 : decode cX0_turnOver 9 = .ok (.iconst 0, 1) := by decide +kernel
theorem dX0_turnOver_10 : decode cX0_turnOver 10 = .ok (.istore 4, 2) := by decide +kernel
theorem dX0_turnOver_12 : decode cX0_turnOver 12 = .ok (.iload 4, 2) := by decide +kernel
theorem dX0_turnOver_14 : decode cX0_turnOver 14 = .ok (.iconst 4, 1) := by decide +kernel
theorem dX0_turnOver_15 : decode cX0_turnOver 15 = .ok (.if_icmp .ge 82, 3) := by decide +kernel
theorem dX0_turnOver_18 : decode cX0_turnOver 18 = .ok (.iload 4, 2) := by decide +kernel
theorem dX0_turnOver_20 : decode cX0_turnOver 20 = .ok (.iload_n 1, 1) := by decide +kernel
theorem dX0_turnOver_21 : decode cX0_turnOver 21 = .ok (.if_icmp .eq 70, 3) := by decide +kernel
theorem dX0_turnOver_24 : decode cX0_turnOver 24 = .ok (.aload_n 0, 1) := by decide +kernel
theorem dX0_turnOver_25 : decode cX0_turnOver 25 = .ok (.getfield 11, 3) := by decide +kernel
theorem dX0_turnOver_28 : decode cX0_turnOver 28 = .ok (.iload 4, 2) := by decide +kernel
theorem dX0_turnOver_30 : decode cX0_turnOver 30 = .ok (.aaload, 1) := by decide +kernel
theorem dX0_turnOver_31 : decode cX0_turnOver 31 = .ok (.iload_n 1, 1) := by decide +kernel
theorem dX0_turnOver_32 : decode cX0_turnOver 32 = .ok (.laload, 1) := by decide +kernel
theorem dX0_turnOver_33 : decode cX0_turnOver 33 = .ok (.lstore 5, 2) := by decide +kernel
theorem dX0_turnOver_35 : decode cX0_turnOver 35 = .ok (.iconst 0, 1) := by decide +kernel
theorem dX0_turnOver_36 : decode cX0_turnOver 36 = .ok (.istore 7, 2) := by decide +kernel
theorem dX0_turnOver_38 : decode cX0_turnOver 38 = .ok (.iload 7, 2) := by decide +kernel
theorem dX0_turnOver_40 : decode cX0_turnOver 40 = .ok (.bipush 8, 2) := by decide +kernel
theorem dX0_turnOver_42 : decode cX0_turnOver 42 = .ok (.if_icmp .ge 49, 3) := by decide +kernel
theorem dX0_turnOver_45 : decode cX0_turnOver 45 = .ok (.aload_n 0, 1) := by decide +kernel
theorem dX0_turnOver_46 : decode cX0_turnOver 46 = .ok (.getfield 11, 3) := by decide +kernel
theorem dX0_turnOver_49 : decode cX0_turnOver 49 = .ok (.iload 4, 2) := by decide +kernel
theorem dX0_turnOver_51 : decode cX0_turnOver 51 = .ok (.aaload, 1) := by decide +kernel
theorem dX0_turnOver_52 : decode cX0_turnOver 52 = .ok (.iload 7, 2) := by decide +kernel
theorem dX0_turnOver_54 : decode cX0_turnOver 54 = .ok (.lload_n 2, 1) := by decide +kernel
theorem dX0_turnOver_55 : decode cX0_turnOver 55 = .ok (.aload_n 0, 1) := by decide +kernel
theorem dX0_turnOver_56 : decode cX0_turnOver 56 = .ok (.getfield 11, 3) := by decide +kernel
theorem dX0_turnOver_59 : decode cX0_turnOver 59 = .ok (.iload 4, 2) := by decide +kernel
theorem dX0_turnOver_61 : decode cX0_turnOver 61 = .ok (.aaload, 1) := by decide +kernel
theorem dX0_turnOver_62 : decode cX0_turnOver 62 = .ok (.iload 7, 2) := by decide +kernel
theorem dX0_turnOver_64 : decode cX0_turnOver 64 = .ok (.laload, 1) := by decide +kernel
theorem dX0_turnOver_65 : decode cX0_turnOver 65 = .ok (.lmul, 1) := by decide +kernel
theorem dX0_turnOver_66 : decode cX0_turnOver 66 = .ok (.lload 5, 2) := by decide +kernel
theorem dX0_turnOver_68 : decode cX0_turnOver 68 = .ok (.aload_n 0, 1) := by decide +kernel
theorem dX0_turnOver_69 : decode cX0_turnOver 69 = .ok (.getfield 11, 3) := by decide +kernel
theorem dX0_turnOver_72 : decode cX0_turnOver 72 = .ok (.iload_n 1, 1) := by decide +kernel
theorem dX0_turnOver_73 : decode cX0_turnOver 73 = .ok (.aaload, 1) := by decide +kernel
theorem dX0_turnOver_74 : decode cX0_turnOver 74 = .ok (.iload 7, 2) := by decide +kernel
theorem dX0_turnOver_76 : decode cX0_turnOver 76 = .ok (.laload, 1) := by decide +kernel
theorem dX0_turnOver_77 : decode cX0_turnOver 77 = .ok (.lmul, 1) := by decide +kernel
theorem dX0_turnOver_78 : decode cX0_turnOver 78 = .ok (.lsub, 1) := by decide +kernel
theorem dX0_turnOver_79 : decode cX0_turnOver 79 = .ok (.aload_n 0, 1) := by decide +kernel
theorem dX0_turnOver_80 : decode cX0_turnOver 80 = .ok (.getfield 23, 3) := by decide +kernel
theorem dX0_turnOver_83 : decode cX0_turnOver 83 = .ok (.ldiv, 1) := by decide +kernel
theorem dX0_turnOver_84 : decode cX0_turnOver 84 = .ok (.lastore, 1) := by decide +kernel
theorem dX0_turnOver_85 : decode cX0_turnOver 85 = .ok (.iinc 7 1, 3) := by decide +kernel
theorem dX0_turnOver_88 : decode cX0_turnOver 88 = .ok (.goto (-50), 3) := by decide +kernel
theorem dX0_turnOver_91 : decode cX0_turnOver 91 = .ok (.iinc 4 1, 3) := by decide +kernel
theorem dX0_turnOver_94 : decode cX0_turnOver 94 = .ok (.goto (-82), 3) := by decide +kernel
theorem dX0_turnOver_97 : decode cX0_turnOver 97 = .ok (.aload_n 0, 1) := by decide +kernel
theorem dX0_turnOver_98 : decode cX0_turnOver 98 = .ok (.lload_n 2, 1) := by decide +kernel
theorem dX0_turnOver_99 : decode cX0_turnOver 99 = .ok (.putfield 23, 3) := by decide +kernel
theorem dX0_turnOver_102 : decode cX0_turnOver 102 = .ok (.return_, 1) := by decide +kernel
theorem dX0_pullAt_0 : decode cX0_pullAt 0 = .ok (.lconst 0, 1) := by decide +kernel
theorem dX0_pullAt_1 : decode cX0_pullAt 1 = .ok (.lstore_n 2, 1) := by decide +kernel
theorem dX0_pullAt_2 : decode cX0_pullAt 2 = .ok (.iconst 0, 1) := by decide +kernel
theorem dX0_pullAt_3 : decode cX0_pullAt 3 = .ok (.istore 4, 2) := by decide +kernel
theorem dX0_pullAt_5 : decode cX0_pullAt 5 = .ok (.iload 4, 2) := by decide +kernel
theorem dX0_pullAt_7 : decode cX0_pullAt 7 = .ok (.iconst 4, 1) := by decide +kernel
theorem dX0_pullAt_8 : decode cX0_pullAt 8 = .ok (.if_icmp .ge 31, 3) := by decide +kernel
theorem dX0_pullAt_11 : decode cX0_pullAt 11 = .ok (.lload_n 2, 1) := by decide +kernel
theorem dX0_pullAt_12 : decode cX0_pullAt 12 = .ok (.aload_n 0, 1) := by decide +kernel
theorem dX0_pullAt_13 : decode cX0_pullAt 13 = .ok (.getfield 11, 3) := by decide +kernel
theorem dX0_pullAt_16 : decode cX0_pullAt 16 = .ok (.iload_n 1, 1) := by decide +kernel
theorem dX0_pullAt_17 : decode cX0_pullAt 17 = .ok (.aaload, 1) := by decide +kernel
theorem dX0_pullAt_18 : decode cX0_pullAt 18 = .ok (.iconst 4, 1) := by decide +kernel
theorem dX0_pullAt_19 : decode cX0_pullAt 19 = .ok (.iload 4, 2) := by decide +kernel
theorem dX0_pullAt_21 : decode cX0_pullAt 21 = .ok (.iadd, 1) := by decide +kernel
theorem dX0_pullAt_22 : decode cX0_pullAt 22 = .ok (.laload, 1) := by decide +kernel
theorem dX0_pullAt_23 : decode cX0_pullAt 23 = .ok (.aload_n 0, 1) := by decide +kernel
theorem dX0_pullAt_24 : decode cX0_pullAt 24 = .ok (.getfield 16, 3) := by decide +kernel
theorem dX0_pullAt_27 : decode cX0_pullAt 27 = .ok (.iload 4, 2) := by decide +kernel
theorem dX0_pullAt_29 : decode cX0_pullAt 29 = .ok (.laload, 1) := by decide +kernel
theorem dX0_pullAt_30 : decode cX0_pullAt 30 = .ok (.lmul, 1) := by decide +kernel
theorem dX0_pullAt_31 : decode cX0_pullAt 31 = .ok (.ladd, 1) := by decide +kernel
theorem dX0_pullAt_32 : decode cX0_pullAt 32 = .ok (.lstore_n 2, 1) := by decide +kernel
theorem dX0_pullAt_33 : decode cX0_pullAt 33 = .ok (.iinc 4 1, 3) := by decide +kernel
theorem dX0_pullAt_36 : decode cX0_pullAt 36 = .ok (.goto (-31), 3) := by decide +kernel
theorem dX0_pullAt_39 : decode cX0_pullAt 39 = .ok (.lload_n 2, 1) := by decide +kernel
theorem dX0_pullAt_40 : decode cX0_pullAt 40 = .ok (.lreturn, 1) := by decide +kernel
theorem dX1_init_0 : decode cX1_init 0 = .ok (.aload_n 0, 1) := by decide +kernel
theorem dX1_init_1 : decode cX1_init 1 = .ok (.invokespecial 3, 3) := by decide +kernel
theorem dX1_init_4 : decode cX1_init 4 = .ok (.aload_n 0, 1) := by decide +kernel
theorem dX1_init_5 : decode cX1_init 5 = .ok (.sipush 600, 3) := by decide +kernel
theorem dX1_init_8 : decode cX1_init 8 = .ok (.newarray .int, 2) := by decide +kernel
theorem dX1_init_10 : decode cX1_init 10 = .ok (.putfield 9, 3) := by decide +kernel
theorem dX1_init_13 : decode cX1_init 13 = .ok (.aload_n 0, 1) := by decide +kernel
theorem dX1_init_14 : decode cX1_init 14 = .ok (.sipush 600, 3) := by decide +kernel
theorem dX1_init_17 : decode cX1_init 17 = .ok (.newarray .int, 2) := by decide +kernel
theorem dX1_init_19 : decode cX1_init 19 = .ok (.putfield 15, 3) := by decide +kernel
theorem dX1_init_22 : decode cX1_init 22 = .ok (.aload_n 0, 1) := by decide +kernel
theorem dX1_init_23 : decode cX1_init 23 = .ok (.sipush 1800, 3) := by decide +kernel
theorem dX1_init_26 : decode cX1_init 26 = .ok (.newarray .int, 2) := by decide +kernel
theorem dX1_init_28 : decode cX1_init 28 = .ok (.putfield 18, 3) := by decide +kernel
theorem dX1_init_31 : decode cX1_init 31 = .ok (.aload_n 0, 1) := by decide +kernel
theorem dX1_init_32 : decode cX1_init 32 = .ok (.sipush 600, 3) := by decide +kernel
theorem dX1_init_35 : decode cX1_init 35 = .ok (.newarray .int, 2) := by decide +kernel
theorem dX1_init_37 : decode cX1_init 37 = .ok (.putfield 21, 3) := by decide +kernel
theorem dX1_init_40 : decode cX1_init 40 = .ok (.aload_n 0, 1) := by decide +kernel
theorem dX1_init_41 : decode cX1_init 41 = .ok (.sipush 1344, 3) := by decide +kernel
theorem dX1_init_44 : decode cX1_init 44 = .ok (.newarray .int, 2) := by decide +kernel
theorem dX1_init_46 : decode cX1_init 46 = .ok (.putfield 24, 3) := by decide +kernel
theorem dX1_init_49 : decode cX1_init 49 = .ok (.aload_n 0, 1) := by decide +kernel
theorem dX1_init_50 : decode cX1_init 50 = .ok (.getfield 24, 3) := by decide +kernel
theorem dX1_init_53 : decode cX1_init 53 = .ok (.iconst (-1), 1) := by decide +kernel
theorem dX1_init_54 : decode cX1_init 54 = .ok (.invokestatic 27, 3) := by decide +kernel
theorem dX1_init_57 : decode cX1_init 57 = .ok (.aload_n 0, 1) := by decide +kernel
theorem dX1_init_58 : decode cX1_init 58 = .ok (.sipush 1344, 3) := by decide +kernel
theorem dX1_init_61 : decode cX1_init 61 = .ok (.newarray .boolean, 2) := by decide +kernel
theorem dX1_init_63 : decode cX1_init 63 = .ok (.putfield 33, 3) := by decide +kernel
theorem dX1_init_66 : decode cX1_init 66 = .ok (.aload_n 0, 1) := by decide +kernel
theorem dX1_init_67 : decode cX1_init 67 = .ok (.iconst 0, 1) := by decide +kernel
theorem dX1_init_68 : decode cX1_init 68 = .ok (.putfield 37, 3) := by decide +kernel
theorem dX1_init_71 : decode cX1_init 71 = .ok (.return_, 1) := by decide +kernel
theorem dX1_number_0 : decode cX1_number 0 = .ok (.aload_n 0, 1) := by decide +kernel
theorem dX1_number_1 : decode cX1_number 1 = .ok (.getfield 37, 3) := by decide +kernel
theorem dX1_number_4 : decode cX1_number 4 = .ok (.ireturn, 1) := by decide +kernel
theorem dX1_hasRoomFor_0 : decode cX1_hasRoomFor 0 = .ok (.aload_n 0, 1) := by decide +kernel
theorem dX1_hasRoomFor_1 : decode cX1_hasRoomFor 1 = .ok (.getfield 37, 3) := by decide +kernel
theorem dX1_hasRoomFor_4 : decode cX1_hasRoomFor 4 = .ok (.iload_n 1, 1) := by decide +kernel
theorem dX1_hasRoomFor_5 : decode cX1_hasRoomFor 5 = .ok (.iadd, 1) := by decide +kernel
theorem dX1_hasRoomFor_6 : decode cX1_hasRoomFor 6 = .ok (.sipush 600, 3) := by decide +kernel
theorem dX1_hasRoomFor_9 : decode cX1_hasRoomFor 9 = .ok (.if_icmp .gt 7, 3) := by decide +kernel
theorem dX1_hasRoomFor_12 : decode cX1_hasRoomFor 12 = .ok (.iconst 1, 1) := by decide +kernel
theorem dX1_hasRoomFor_13 : decode cX1_hasRoomFor 13 = .ok (.goto 4, 3) := by decide +kernel
theorem dX1_hasRoomFor_16 : decode cX1_hasRoomFor 16 = .ok (.iconst 0, 1) := by decide +kernel
theorem dX1_hasRoomFor_17 : decode cX1_hasRoomFor 17 = .ok (.ireturn, 1) := by decide +kernel
theorem dX1_enter_0 : decode cX1_enter 0 = .ok (.aload_n 0, 1) := by decide +kernel
theorem dX1_enter_1 : decode cX1_enter 1 = .ok (.getfield 37, 3) := by decide +kernel
theorem dX1_enter_4 : decode cX1_enter 4 = .ok (.sipush 600, 3) := by decide +kernel
theorem dX1_enter_7 : decode cX1_enter 7 = .ok (.if_icmp .ge 58, 3) := by decide +kernel
theorem dX1_enter_10 : decode cX1_enter 10 = .ok (.aload_n 0, 1) := by decide +kernel
theorem dX1_enter_11 : decode cX1_enter 11 = .ok (.getfield 9, 3) := by decide +kernel
theorem dX1_enter_14 : decode cX1_enter 14 = .ok (.aload_n 0, 1) := by decide +kernel
theorem dX1_enter_15 : decode cX1_enter 15 = .ok (.getfield 37, 3) := by decide +kernel
theorem dX1_enter_18 : decode cX1_enter 18 = .ok (.iload_n 2, 1) := by decide +kernel
theorem dX1_enter_19 : decode cX1_enter 19 = .ok (.iastore, 1) := by decide +kernel
theorem dX1_enter_20 : decode cX1_enter 20 = .ok (.aload_n 0, 1) := by decide +kernel
theorem dX1_enter_21 : decode cX1_enter 21 = .ok (.getfield 15, 3) := by decide +kernel
theorem dX1_enter_24 : decode cX1_enter 24 = .ok (.aload_n 0, 1) := by decide +kernel
theorem dX1_enter_25 : decode cX1_enter 25 = .ok (.getfield 37, 3) := by decide +kernel
theorem dX1_enter_28 : decode cX1_enter 28 = .ok (.iload_n 3, 1) := by decide +kernel
theorem dX1_enter_29 : decode cX1_enter 29 = .ok (.iastore, 1) := by decide +kernel
theorem dX1_enter_30 : decode cX1_enter 30 = .ok (.aload_n 0, 1) := by decide +kernel
theorem dX1_enter_31 : decode cX1_enter 31 = .ok (.getfield 21, 3) := by decide +kernel
theorem dX1_enter_34 : decode cX1_enter 34 = .ok (.aload_n 0, 1) := by decide +kernel
theorem dX1_enter_35 : decode cX1_enter 35 = .ok (.getfield 37, 3) := by decide +kernel
theorem dX1_enter_38 : decode cX1_enter 38 = .ok (.aload_n 0, 1) := by decide +kernel
theorem dX1_enter_39 : decode cX1_enter 39 = .ok (.getfield 24, 3) := by decide +kernel
theorem dX1_enter_42 : decode cX1_enter 42 = .ok (.iload_n 1, 1) := by decide +kernel
theorem dX1_enter_43 : decode cX1_enter 43 = .ok (.iaload, 1) := by decide +kernel
theorem dX1_enter_44 : decode cX1_enter 44 = .ok (.iastore, 1) := by decide +kernel
theorem dX1_enter_45 : decode cX1_enter 45 = .ok (.aload_n 0, 1) := by decide +kernel
theorem dX1_enter_46 : decode cX1_enter 46 = .ok (.getfield 24, 3) := by decide +kernel
theorem dX1_enter_49 : decode cX1_enter 49 = .ok (.iload_n 1, 1) := by decide +kernel
theorem dX1_enter_50 : decode cX1_enter 50 = .ok (.aload_n 0, 1) := by decide +kernel
theorem dX1_enter_51 : decode cX1_enter 51 = .ok (.getfield 37, 3) := by decide +kernel
theorem dX1_enter_54 : decode cX1_enter 54 = .ok (.iastore, 1) := by decide +kernel
theorem dX1_enter_55 : decode cX1_enter 55 = .ok (.aload_n 0, 1) := by decide +kernel
theorem dX1_enter_56 : decode cX1_enter 56 = .ok (.dup, 1) := by decide +kernel
theorem dX1_enter_57 : decode cX1_enter 57 = .ok (.getfield 37, 3) := by decide +kernel
theorem dX1_enter_60 : decode cX1_enter 60 = .ok (.iconst 1, 1) := by decide +kernel
theorem dX1_enter_61 : decode cX1_enter 61 = .ok (.iadd, 1) := by decide +kernel
theorem dX1_enter_62 : decode cX1_enter 62 = .ok (.putfield 37, 3) := by decide +kernel
theorem dX1_enter_65 : decode cX1_enter 65 = .ok (.return_, 1) := by decide +kernel
theorem dX1_tellKinds_0 : decode cX1_tellKinds 0 = .ok (.aload_n 0, 1) := by decide +kernel
theorem dX1_tellKinds_1 : decode cX1_tellKinds 1 = .ok (.getfield 37, 3) := by decide +kernel
theorem dX1_tellKinds_4 : decode cX1_tellKinds 4 = .ok (.ifCond .le 41, 3) := by decide +kernel
theorem dX1_tellKinds_7 : decode cX1_tellKinds 7 = .ok (.aload_n 0, 1) := by decide +kernel
theorem dX1_tellKinds_8 : decode cX1_tellKinds 8 = .ok (.getfield 37, 3) := by decide +kernel
theorem dX1_tellKinds_11 : decode cX1_tellKinds 11 = .ok (.iconst 1, 1) := by decide +kernel
theorem dX1_tellKinds_12 : decode cX1_tellKinds 12 = .ok (.isub, 1) := by decide +kernel
theorem dX1_tellKinds_13 : decode cX1_tellKinds 13 = .ok (.iconst 3, 1) := by decide +kernel
theorem dX1_tellKinds_14 : decode cX1_tellKinds 14 = .ok (.imul, 1) := by decide +kernel
theorem dX1_tellKinds_15 : decode cX1_tellKinds 15 = .ok (.istore 4, 2) := by decide +kernel
theorem dX1_tellKinds_17 : decode cX1_tellKinds 17 = .ok (.aload_n 0, 1) := by decide +kernel
theorem dX1_tellKinds_18 : decode cX1_tellKinds 18 = .ok (.getfield 18, 3) := by decide +kernel
theorem dX1_tellKinds_21 : decode cX1_tellKinds 21 = .ok (.iload 4, 2) := by decide +kernel
theorem dX1_tellKinds_23 : decode cX1_tellKinds 23 = .ok (.iload_n 1, 1) := by decide +kernel
theorem dX1_tellKinds_24 : decode cX1_tellKinds 24 = .ok (.iastore, 1) := by decide +kernel
theorem dX1_tellKinds_25 : decode cX1_tellKinds 25 = .ok (.aload_n 0, 1) := by decide +kernel
theorem dX1_tellKinds_26 : decode cX1_tellKinds 26 = .ok (.getfield 18, 3) := by decide +kernel
theorem dX1_tellKinds_29 : decode cX1_tellKinds 29 = .ok (.iload 4, 2) := by decide +kernel
theorem dX1_tellKinds_31 : decode cX1_tellKinds 31 = .ok (.iconst 1, 1) := by decide +kernel
theorem dX1_tellKinds_32 : decode cX1_tellKinds 32 = .ok (.iadd, 1) := by decide +kernel
theorem dX1_tellKinds_33 : decode cX1_tellKinds 33 = .ok (.iload_n 2, 1) := by decide +kernel
theorem dX1_tellKinds_34 : decode cX1_tellKinds 34 = .ok (.iastore, 1) := by decide +kernel
theorem dX1_tellKinds_35 : decode cX1_tellKinds 35 = .ok (.aload_n 0, 1) := by decide +kernel
theorem dX1_tellKinds_36 : decode cX1_tellKinds 36 = .ok (.getfield 18, 3) := by decide +kernel
theorem dX1_tellKinds_39 : decode cX1_tellKinds 39 = .ok (.iload 4, 2) := by decide +kernel
theorem dX1_tellKinds_41 : decode cX1_tellKinds 41 = .ok (.iconst 2, 1) := by decide +kernel
theorem dX1_tellKinds_42 : decode cX1_tellKinds 42 = .ok (.iadd, 1) := by decide +kernel
theorem dX1_tellKinds_43 : decode cX1_tellKinds 43 = .ok (.iload_n 3, 1) := by decide +kernel
theorem dX1_tellKinds_44 : decode cX1_tellKinds 44 = .ok (.iastore, 1) := by decide +kernel
theorem dX1_tellKinds_45 : decode cX1_tellKinds 45 = .ok (.return_, 1) := by decide +kernel
theorem dX1_setApart_0 : decode cX1_setApart 0 = .ok (.aload_n 0, 1) := by decide +kernel
theorem dX1_setApart_1 : decode cX1_setApart 1 = .ok (.getfield 33, 3) := by decide +kernel
theorem dX1_setApart_4 : decode cX1_setApart 4 = .ok (.iload_n 1, 1) := by decide +kernel
theorem dX1_setApart_5 : decode cX1_setApart 5 = .ok (.baload, 1) := by decide +kernel
theorem dX1_setApart_6 : decode cX1_setApart 6 = .ok (.iload_n 2, 1) := by decide +kernel
theorem dX1_setApart_7 : decode cX1_setApart 7 = .ok (.if_icmp .eq 7, 3) := by decide +kernel
theorem dX1_setApart_10 : decode cX1_setApart 10 = .ok (.iconst 1, 1) := by decide +kernel
theorem dX1_setApart_11 : decode cX1_setApart 11 = .ok (.goto 4, 3) := by decide +kernel
theorem dX1_setApart_14 : decode cX1_setApart 14 = .ok (.iconst 0, 1) := by decide +kernel
theorem dX1_setApart_15 : decode cX1_setApart 15 = .ok (.istore_n 3, 1) := by decide +kernel
theorem dX1_setApart_16 : decode cX1_setApart 16 = .ok (.aload_n 0, 1) := by decide +kernel
theorem dX1_setApart_17 : decode cX1_setApart 17 = .ok (.getfield 33, 3) := by decide +kernel
theorem dX1_setApart_20 : decode cX1_setApart 20 = .ok (.iload_n 1, 1) := by decide +kernel
theorem dX1_setApart_21 : decode cX1_setApart 21 = .ok (.iload_n 2, 1) := by decide +kernel
theorem dX1_setApart_22 : decode cX1_setApart 22 = .ok (.bastore, 1) := by decide +kernel
theorem dX1_setApart_23 : decode cX1_setApart 23 = .ok (.iload_n 3, 1) := by decide +kernel
theorem dX1_setApart_24 : decode cX1_setApart 24 = .ok (.ireturn, 1) := by decide +kernel
theorem dX1_state_0 : decode cX1_state 0 = .ok (.aload_n 0, 1) := by decide +kernel
theorem dX1_state_1 : decode cX1_state 1 = .ok (.getfield 33, 3) := by decide +kernel
theorem dX1_state_4 : decode cX1_state 4 = .ok (.iload_n 1, 1) := by decide +kernel
theorem dX1_state_5 : decode cX1_state 5 = .ok (.baload, 1) := by decide +kernel
theorem dX1_state_6 : decode cX1_state 6 = .ok (.ifCond .eq 6, 3) := by decide +kernel
theorem dX1_state_9 : decode cX1_state 9 = .ok (.bipush (-3), 2) := by decide +kernel
theorem dX1_state_11 : decode cX1_state 11 = .ok (.ireturn, 1) := by decide +kernel
theorem dX1_state_12 : decode cX1_state 12 = .ok (.aload_n 0, 1) := by decide +kernel
theorem dX1_state_13 : decode cX1_state 13 = .ok (.iload_n 1, 1) := by decide +kernel
theorem dX1_state_14 : decode cX1_state 14 = .ok (.iload_n 2, 1) := by decide +kernel
theorem dX1_state_15 : decode cX1_state 15 = .ok (.invokevirtual 41, 3) := by decide +kernel
theorem dX1_state_18 : decode cX1_state 18 = .ok (.istore_n 3, 1) := by decide +kernel
theorem dX1_state_19 : decode cX1_state 19 = .ok (.iload_n 3, 1) := by decide +kernel
theorem dX1_state_20 : decode cX1_state 20 = .ok (.iconst (-1), 1) := by decide +kernel
theorem dX1_state_21 : decode cX1_state 21 = .ok (.if_icmp .ne 8, 3) := by decide +kernel
theorem dX1_state_24 : decode cX1_state 24 = .ok (.bipush (-2), 2) := by decide +kernel
theorem dX1_state_26 : decode cX1_state 26 = .ok (.goto 9, 3) := by decide +kernel
theorem dX1_state_29 : decode cX1_state 29 = .ok (.aload_n 0, 1) := by decide +kernel
theorem dX1_state_30 : decode cX1_state 30 = .ok (.getfield 15, 3) := by decide +kernel
theorem dX1_state_33 : decode cX1_state 33 = .ok (.iload_n 3, 1) := by decide +kernel
theorem dX1_state_34 : decode cX1_state 34 = .ok (.iaload, 1) := by decide +kernel
theorem dX1_state_35 : decode cX1_state 35 = .ok (.ireturn, 1) := by decide +kernel
theorem dX1_ofKind_0 : decode cX1_ofKind 0 = .ok (.aload_n 0, 1) := by decide +kernel
theorem dX1_ofKind_1 : decode cX1_ofKind 1 = .ok (.iload_n 1, 1) := by decide +kernel
theorem dX1_ofKind_2 : decode cX1_ofKind 2 = .ok (.iload_n 2, 1) := by decide +kernel
theorem dX1_ofKind_3 : decode cX1_ofKind 3 = .ok (.invokevirtual 41, 3) := by decide +kernel
theorem dX1_ofKind_6 : decode cX1_ofKind 6 = .ok (.istore 4, 2) := by decide +kernel
theorem dX1_ofKind_8 : decode cX1_ofKind 8 = .ok (.iload 4, 2) := by decide +kernel
theorem dX1_ofKind_10 : decode cX1_ofKind 10 = .ok (.iconst (-1), 1) := by decide +kernel
theorem dX1_ofKind_11 : decode cX1_ofKind 11 = .ok (.if_icmp .ne 7, 3) := by decide +kernel
theorem dX1_ofKind_14 : decode cX1_ofKind 14 = .ok (.iconst (-1), 1) := by decide +kernel
theorem dX1_ofKind_15 : decode cX1_ofKind 15 = .ok (.goto 14, 3) := by decide +kernel
theorem dX1_ofKind_18 : decode cX1_ofKind 18 = .ok (.aload_n 0, 1) := by decide +kernel
theorem dX1_ofKind_19 : decode cX1_ofKind 19 = .ok (.getfield 18, 3) := by decide +kernel
theorem dX1_ofKind_22 : decode cX1_ofKind 22 = .ok (.iload 4, 2) := by decide +kernel
theorem dX1_ofKind_24 : decode cX1_ofKind 24 = .ok (.iconst 3, 1) := by decide +kernel
theorem dX1_ofKind_25 : decode cX1_ofKind 25 = .ok (.imul, 1) := by decide +kernel
theorem dX1_ofKind_26 : decode cX1_ofKind 26 = .ok (.iload_n 3, 1) := by decide +kernel
theorem dX1_ofKind_27 : decode cX1_ofKind 27 = .ok (.iadd, 1) := by decide +kernel
theorem dX1_ofKind_28 : decode cX1_ofKind 28 = .ok (.iaload, 1) := by decide +kernel
theorem dX1_ofKind_29 : decode cX1_ofKind 29 = .ok (.ireturn, 1) := by decide +kernel
theorem dX1_holding_0 : decode cX1_holding 0 = .ok (.aload_n 0, 1) := by decide +kernel
theorem dX1_holding_1 : decode cX1_holding 1 = .ok (.getfield 24, 3) := by decide +kernel
theorem dX1_holding_4 : decode cX1_holding 4 = .ok (.iload_n 1, 1) := by decide +kernel
theorem dX1_holding_5 : decode cX1_holding 5 = .ok (.iaload, 1) := by decide +kernel
theorem dX1_holding_6 : decode cX1_holding 6 = .ok (.istore_n 3, 1) := by decide +kernel
theorem dX1_holding_7 : decode cX1_holding 7 = .ok (.iconst 0, 1) := by decide +kernel
theorem dX1_holding_8 : decode cX1_holding 8 = .ok (.istore 4, 2) := by decide +kernel
theorem dX1_holding_10 : decode cX1_holding 10 = .ok (.iload 4, 2) := by decide +kernel
theorem dX1_holding_12 : decode cX1_holding 12 = .ok (.sipush 600, 3) := by decide +kernel
theorem dX1_holding_15 : decode cX1_holding 15 = .ok (.if_icmp .ge 31, 3) := by decide +kernel
theorem dX1_holding_18 : decode cX1_holding 18 = .ok (.iload_n 3, 1) := by decide +kernel
theorem dX1_holding_19 : decode cX1_holding 19 = .ok (.iconst (-1), 1) := by decide +kernel
theorem dX1_holding_20 : decode cX1_holding 20 = .ok (.if_icmp .eq 26, 3) := by decide +kernel
theorem dX1_holding_23 : decode cX1_holding 23 = .ok (.aload_n 0, 1) := by decide +kernel
theorem dX1_holding_24 : decode cX1_holding 24 = .ok (.getfield 9, 3) := by decide +kernel
theorem dX1_holding_27 : decode cX1_holding 27 = .ok (.iload_n 3, 1) := by decide +kernel
theorem dX1_holding_28 : decode cX1_holding 28 = .ok (.iaload, 1) := by decide +kernel
theorem dX1_holding_29 : decode cX1_holding 29 = .ok (.iload_n 2, 1) := by decide +kernel
theorem dX1_holding_30 : decode cX1_holding 30 = .ok (.if_icmp .le 16, 3) := by decide +kernel
theorem dX1_holding_33 : decode cX1_holding 33 = .ok (.aload_n 0, 1) := by decide +kernel
theorem dX1_holding_34 : decode cX1_holding 34 = .ok (.getfield 21, 3) := by decide +kernel
theorem dX1_holding_37 : decode cX1_holding 37 = .ok (.iload_n 3, 1) := by decide +kernel
theorem dX1_holding_38 : decode cX1_holding 38 = .ok (.iaload, 1) := by decide +kernel
theorem dX1_holding_39 : decode cX1_holding 39 = .ok (.istore_n 3, 1) := by decide +kernel
theorem dX1_holding_40 : decode cX1_holding 40 = .ok (.iinc 4 1, 3) := by decide +kernel
theorem dX1_holding_43 : decode cX1_holding 43 = .ok (.goto (-33), 3) := by decide +kernel
theorem dX1_holding_46 : decode cX1_holding 46 = .ok (.iload_n 3, 1) := by decide +kernel
theorem dX1_holding_47 : decode cX1_holding 47 = .ok (.ireturn, 1) := by decide +kernel
theorem dX2_init_0 : decode cX2_init 0 = .ok (.aload_n 0, 1) := by decide +kernel
theorem dX2_init_1 : decode cX2_init 1 = .ok (.invokespecial 3, 3) := by decide +kernel
theorem dX2_init_4 : decode cX2_init 4 = .ok (.aload_n 0, 1) := by decide +kernel
theorem dX2_init_5 : decode cX2_init 5 = .ok (.lconst 0, 1) := by decide +kernel
theorem dX2_init_6 : decode cX2_init 6 = .ok (.putfield 9, 3) := by decide +kernel
theorem dX2_init_9 : decode cX2_init 9 = .ok (.aload_n 0, 1) := by decide +kernel
theorem dX2_init_10 : decode cX2_init 10 = .ok (.lconst 1, 1) := by decide +kernel
theorem dX2_init_11 : decode cX2_init 11 = .ok (.putfield 15, 3) := by decide +kernel
theorem dX2_init_14 : decode cX2_init 14 = .ok (.return_, 1) := by decide +kernel
theorem dX2_put_0 : decode cX2_put 0 = .ok (.lload_n 3, 1) := by decide +kernel
theorem dX2_put_1 : decode cX2_put 1 = .ok (.lconst 0, 1) := by decide +kernel
theorem dX2_put_2 : decode cX2_put 2 = .ok (.lcmp, 1) := by decide +kernel
theorem dX2_put_3 : decode cX2_put 3 = .ok (.ifCond .gt 4, 3) := by decide +kernel
theorem dX2_put_6 : decode cX2_put 6 = .ok (.return_, 1) := by decide +kernel
theorem dX2_put_7 : decode cX2_put 7 = .ok (.lload_n 1, 1) := by decide +kernel
theorem dX2_put_8 : decode cX2_put 8 = .ok (.lconst 0, 1) := by decide +kernel
theorem dX2_put_9 : decode cX2_put 9 = .ok (.lcmp, 1) := by decide +kernel
theorem dX2_put_10 : decode cX2_put 10 = .ok (.ifCond .ge 8, 3) := by decide +kernel
theorem dX2_put_13 : decode cX2_put 13 = .ok (.lload_n 1, 1) := by decide +kernel
theorem dX2_put_14 : decode cX2_put 14 = .ok (.lneg, 1) := by decide +kernel
theorem dX2_put_15 : decode cX2_put 15 = .ok (.goto 4, 3) := by decide +kernel
theorem dX2_put_18 : decode cX2_put 18 = .ok (.lload_n 1, 1) := by decide +kernel
theorem dX2_put_19 : decode cX2_put 19 = .ok (.lload_n 3, 1) := by decide +kernel
theorem dX2_put_20 : decode cX2_put 20 = .ok (.invokestatic 18, 3) := by decide +kernel
theorem dX2_put_23 : decode cX2_put 23 = .ok (.lstore 5, 2) := by decide +kernel
theorem dX2_put_25 : decode cX2_put 25 = .ok (.aload_n 0, 1) := by decide +kernel
theorem dX2_put_26 : decode cX2_put 26 = .ok (.lload_n 1, 1) := by decide +kernel
theorem dX2_put_27 : decode cX2_put 27 = .ok (.lload 5, 2) := by decide +kernel
theorem dX2_put_29 : decode cX2_put 29 = .ok (.ldiv, 1) := by decide +kernel
theorem dX2_put_30 : decode cX2_put 30 = .ok (.putfield 9, 3) := by decide +kernel
theorem dX2_put_33 : decode cX2_put 33 = .ok (.aload_n 0, 1) := by decide +kernel
theorem dX2_put_34 : decode cX2_put 34 = .ok (.lload_n 3, 1) := by decide +kernel
theorem dX2_put_35 : decode cX2_put 35 = .ok (.lload 5, 2) := by decide +kernel
theorem dX2_put_37 : decode cX2_put 37 = .ok (.ldiv, 1) := by decide +kernel
theorem dX2_put_38 : decode cX2_put 38 = .ok (.putfield 15, 3) := by decide +kernel
theorem dX2_put_41 : decode cX2_put 41 = .ok (.return_, 1) := by decide +kernel
theorem dX2_part_0 : decode cX2_part 0 = .ok (.iload_n 1, 1) := by decide +kernel
theorem dX2_part_1 : decode cX2_part 1 = .ok (.ifCond .ne 10, 3) := by decide +kernel
theorem dX2_part_4 : decode cX2_part 4 = .ok (.aload_n 0, 1) := by decide +kernel
theorem dX2_part_5 : decode cX2_part 5 = .ok (.getfield 9, 3) := by decide +kernel
theorem dX2_part_8 : decode cX2_part 8 = .ok (.goto 7, 3) := by decide +kernel
theorem dX2_part_11 : decode cX2_part 11 = .ok (.aload_n 0, 1) := by decide +kernel
theorem dX2_part_12 : decode cX2_part 12 = .ok (.getfield 15, 3) := by decide +kernel
theorem dX2_part_15 : decode cX2_part 15 = .ok (.lreturn, 1) := by decide +kernel
theorem dX2_roundedHalfUp_0 : decode cX2_roundedHalfUp 0 = .ok (.ldc2_w 22, 3) := by decide +kernel
theorem dX2_roundedHalfUp_3 : decode cX2_roundedHalfUp 3 = .ok (.aload_n 0, 1) := by decide +kernel
theorem dX2_roundedHalfUp_4 : decode cX2_roundedHalfUp 4 = .ok (.getfield 9, 3) := by decide +kernel
theorem dX2_roundedHalfUp_7 : decode cX2_roundedHalfUp 7 = .ok (.lmul, 1) := by decide +kernel
theorem dX2_roundedHalfUp_8 : decode cX2_roundedHalfUp 8 = .ok (.aload_n 0, 1) := by decide +kernel
theorem dX2_roundedHalfUp_9 : decode cX2_roundedHalfUp 9 = .ok (.getfield 15, 3) := by decide +kernel
theorem dX2_roundedHalfUp_12 : decode cX2_roundedHalfUp 12 = .ok (.ladd, 1) := by decide +kernel
theorem dX2_roundedHalfUp_13 : decode cX2_roundedHalfUp 13 = .ok (.ldc2_w 22, 3) := by decide +kernel
theorem dX2_roundedHalfUp_16 : decode cX2_roundedHalfUp 16 = .ok (.aload_n 0, 1) := by decide +kernel
theorem dX2_roundedHalfUp_17 : decode cX2_roundedHalfUp 17 = .ok (.getfield 15, 3) := by decide +kernel
theorem dX2_roundedHalfUp_20 : decode cX2_roundedHalfUp 20 = .ok (.lmul, 1) := by decide +kernel
theorem dX2_roundedHalfUp_21 : decode cX2_roundedHalfUp 21 = .ok (.ldiv, 1) := by decide +kernel
theorem dX2_roundedHalfUp_22 : decode cX2_roundedHalfUp 22 = .ok (.lreturn, 1) := by decide +kernel
theorem dX2_order_0 : decode cX2_order 0 = .ok (.iconst 1, 1) := by decide +kernel
theorem dX2_order_1 : decode cX2_order 1 = .ok (.istore 8, 2) := by decide +kernel
theorem dX2_order_3 : decode cX2_order 3 = .ok (.lload_n 0, 1) := by decide +kernel
theorem dX2_order_4 : decode cX2_order 4 = .ok (.lstore 9, 2) := by decide +kernel
theorem dX2_order_6 : decode cX2_order 6 = .ok (.lload_n 2, 1) := by decide +kernel
theorem dX2_order_7 : decode cX2_order 7 = .ok (.lstore 11, 2) := by decide +kernel
theorem dX2_order_9 : decode cX2_order 9 = .ok (.lload 4, 2) := by decide +kernel
theorem dX2_order_11 : decode cX2_order 11 = .ok (.lstore 13, 2) := by decide +kernel
theorem dX2_order_13 : decode cX2_order 13 = .ok (.lload 6, 2) := by decide +kernel
theorem dX2_order_15 : decode cX2_order 15 = .ok (.lstore 15, 2) := by decide +kernel
theorem dX2_order_17 : decode cX2_order 17 = .ok (.iconst 0, 1) := by decide +kernel
theorem dX2_order_18 : decode cX2_order 18 = .ok (.istore 17, 2) := by decide +kernel
theorem dX2_order_20 : decode cX2_order 20 = .ok (.iload 17, 2) := by decide +kernel
theorem dX2_order_22 : decode cX2_order 22 = .ok (.sipush 200, 3) := by decide +kernel
theorem dX2_order_25 : decode cX2_order 25 = .ok (.if_icmp .ge 103, 3) := by decide +kernel
theorem dX2_order_28 : decode cX2_order 28 = .ok (.lload 11, 2) := by decide +kernel
theorem dX2_order_30 : decode cX2_order 30 = .ok (.lconst 0, 1) := by decide +kernel
theorem dX2_order_31 : decode cX2_order 31 = .ok (.lcmp, 1) := by decide +kernel
theorem dX2_order_32 : decode cX2_order 32 = .ok (.ifCond .le 96, 3) := by decide +kernel
theorem dX2_order_35 : decode cX2_order 35 = .ok (.lload 15, 2) := by decide +kernel
theorem dX2_order_37 : decode cX2_order 37 = .ok (.lconst 0, 1) := by decide +kernel
theorem dX2_order_38 : decode cX2_order 38 = .ok (.lcmp, 1) := by decide +kernel
theorem dX2_order_39 : decode cX2_order 39 = .ok (.ifCond .le 89, 3) := by decide +kernel
theorem dX2_order_42 : decode cX2_order 42 = .ok (.lload 9, 2) := by decide +kernel
theorem dX2_order_44 : decode cX2_order 44 = .ok (.lload 11, 2) := by decide +kernel
theorem dX2_order_46 : decode cX2_order 46 = .ok (.ldiv, 1) := by decide +kernel
theorem dX2_order_47 : decode cX2_order 47 = .ok (.lstore 18, 2) := by decide +kernel
theorem dX2_order_49 : decode cX2_order 49 = .ok (.lload 13, 2) := by decide +kernel
theorem dX2_order_51 : decode cX2_order 51 = .ok (.lload 15, 2) := by decide +kernel
theorem dX2_order_53 : decode cX2_order 53 = .ok (.ldiv, 1) := by decide +kernel
theorem dX2_order_54 : decode cX2_order 54 = .ok (.lstore 20, 2) := by decide +kernel
theorem dX2_order_56 : decode cX2_order 56 = .ok (.lload 18, 2) := by decide +kernel
theorem dX2_order_58 : decode cX2_order 58 = .ok (.lload 20, 2) := by decide +kernel
theorem dX2_order_60 : decode cX2_order 60 = .ok (.lcmp, 1) := by decide +kernel
theorem dX2_order_61 : decode cX2_order 61 = .ok (.ifCond .eq 20, 3) := by decide +kernel
theorem dX2_order_64 : decode cX2_order 64 = .ok (.lload 18, 2) := by decide +kernel
theorem dX2_order_66 : decode cX2_order 66 = .ok (.lload 20, 2) := by decide +kernel
theorem dX2_order_68 : decode cX2_order 68 = .ok (.lcmp, 1) := by decide +kernel
theorem dX2_order_69 : decode cX2_order 69 = .ok (.ifCond .le 8, 3) := by decide +kernel
theorem dX2_order_72 : decode cX2_order 72 = .ok (.iload 8, 2) := by decide +kernel
theorem dX2_order_74 : decode cX2_order 74 = .ok (.goto 6, 3) := by decide +kernel
theorem dX2_order_77 : decode cX2_order 77 = .ok (.iload 8, 2) := by decide +kernel
theorem dX2_order_79 : decode cX2_order 79 = .ok (.ineg, 1) := by decide +kernel
theorem dX2_order_80 : decode cX2_order 80 = .ok (.ireturn, 1) := by decide +kernel
theorem dX2_order_81 : decode cX2_order 81 = .ok (.lload 9, 2) := by decide +kernel
theorem dX2_order_83 : decode cX2_order 83 = .ok (.lload 18, 2) := by decide +kernel
theorem dX2_order_85 : decode cX2_order 85 = .ok (.lload 11, 2) := by decide +kernel
theorem dX2_order_87 : decode cX2_order 87 = .ok (.lmul, 1) := by decide +kernel
theorem dX2_order_88 : decode cX2_order 88 = .ok (.lsub, 1) := by decide +kernel
theorem dX2_order_89 : decode cX2_order 89 = .ok (.lstore 22, 2) := by decide +kernel
theorem dX2_order_91 : decode cX2_order 91 = .ok (.lload 13, 2) := by decide +kernel
theorem dX2_order_93 : decode cX2_order 93 = .ok (.lload 20, 2) := by decide +kernel
theorem dX2_order_95 : decode cX2_order 95 = .ok (.lload 15, 2) := by decide +kernel
theorem dX2_order_97 : decode cX2_order 97 = .ok (.lmul, 1) := by decide +kernel
theorem dX2_order_98 : decode cX2_order 98 = .ok (.lsub, 1) := by decide +kernel
theorem dX2_order_99 : decode cX2_order 99 = .ok (.lstore 24, 2) := by decide +kernel
theorem dX2_order_101 : decode cX2_order 101 = .ok (.lload 11, 2) := by decide +kernel
theorem dX2_order_103 : decode cX2_order 103 = .ok (.lstore 9, 2) := by decide +kernel
theorem dX2_order_105 : decode cX2_order 105 = .ok (.lload 22, 2) := by decide +kernel
theorem dX2_order_107 : decode cX2_order 107 = .ok (.lstore 11, 2) := by decide +kernel
theorem dX2_order_109 : decode cX2_order 109 = .ok (.lload 15, 2) := by decide +kernel
theorem dX2_order_111 : decode cX2_order 111 = .ok (.lstore 13, 2) := by decide +kernel
theorem dX2_order_113 : decode cX2_order 113 = .ok (.lload 24, 2) := by decide +kernel
theorem dX2_order_115 : decode cX2_order 115 = .ok (.lstore 15, 2) := by decide +kernel
theorem dX2_order_117 : decode cX2_order 117 = .ok (.iload 8, 2) := by decide +kernel
theorem dX2_order_119 : decode cX2_order 119 = .ok (.ineg, 1) := by decide +kernel
theorem dX2_order_120 : decode cX2_order 120 = .ok (.istore 8, 2) := by decide +kernel
theorem dX2_order_122 : decode cX2_order 122 = .ok (.iinc 17 1, 3) := by decide +kernel
theorem dX2_order_125 : decode cX2_order 125 = .ok (.goto (-105), 3) := by decide +kernel
theorem dX2_order_128 : decode cX2_order 128 = .ok (.lload 11, 2) := by decide +kernel
theorem dX2_order_130 : decode cX2_order 130 = .ok (.lload 15, 2) := by decide +kernel
theorem dX2_order_132 : decode cX2_order 132 = .ok (.lcmp, 1) := by decide +kernel
theorem dX2_order_133 : decode cX2_order 133 = .ok (.ifCond .ne 5, 3) := by decide +kernel
theorem dX2_order_136 : decode cX2_order 136 = .ok (.iconst 0, 1) := by decide +kernel
theorem dX2_order_137 : decode cX2_order 137 = .ok (.ireturn, 1) := by decide +kernel
theorem dX2_order_138 : decode cX2_order 138 = .ok (.lload 11, 2) := by decide +kernel
theorem dX2_order_140 : decode cX2_order 140 = .ok (.lconst 0, 1) := by decide +kernel
theorem dX2_order_141 : decode cX2_order 141 = .ok (.lcmp, 1) := by decide +kernel
theorem dX2_order_142 : decode cX2_order 142 = .ok (.ifCond .ne 8, 3) := by decide +kernel
theorem dX2_order_145 : decode cX2_order 145 = .ok (.iload 8, 2) := by decide +kernel
theorem dX2_order_147 : decode cX2_order 147 = .ok (.goto 6, 3) := by decide +kernel
theorem dX2_order_150 : decode cX2_order 150 = .ok (.iload 8, 2) := by decide +kernel
theorem dX2_order_152 : decode cX2_order 152 = .ok (.ineg, 1) := by decide +kernel
theorem dX2_order_153 : decode cX2_order 153 = .ok (.ireturn, 1) := by decide +kernel
theorem dX2_commonDivisor_0 : decode cX2_commonDivisor 0 = .ok (.lload_n 0, 1) := by decide +kernel
theorem dX2_commonDivisor_1 : decode cX2_commonDivisor 1 = .ok (.lstore 4, 2) := by decide +kernel
theorem dX2_commonDivisor_3 : decode cX2_commonDivisor 3 = .ok (.lload_n 2, 1) := by decide +kernel
theorem dX2_commonDivisor_4 : decode cX2_commonDivisor 4 = .ok (.lstore 6, 2) := by decide +kernel
theorem dX2_commonDivisor_6 : decode cX2_commonDivisor 6 = .ok (.iconst 0, 1) := by decide +kernel
theorem dX2_commonDivisor_7 : decode cX2_commonDivisor 7 = .ok (.istore 8, 2) := by decide +kernel
theorem dX2_commonDivisor_9 : decode cX2_commonDivisor 9 = .ok (.iload 8, 2) := by decide +kernel
theorem dX2_commonDivisor_11 : decode cX2_commonDivisor 11 = .ok (.sipush 200, 3) := by decide +kernel
theorem dX2_commonDivisor_14 : decode cX2_commonDivisor 14 = .ok (.if_icmp .ge 31, 3) := by decide +kernel
theorem dX2_commonDivisor_17 : decode cX2_commonDivisor 17 = .ok (.lload 6, 2) := by decide +kernel
theorem dX2_commonDivisor_19 : decode cX2_commonDivisor 19 = .ok (.lconst 0, 1) := by decide +kernel
theorem dX2_commonDivisor_20 : decode cX2_commonDivisor 20 = .ok (.lcmp, 1) := by decide +kernel
theorem dX2_commonDivisor_21 : decode cX2_commonDivisor 21 = .ok (.ifCond .eq 24, 3) := by decide +kernel
theorem dX2_commonDivisor_24 : decode cX2_commonDivisor 24 = .ok (.lload 4, 2) := by decide +kernel
theorem dX2_commonDivisor_26 : decode cX2_commonDivisor 26 = .ok (.lload 6, 2) := by decide +kernel
theorem dX2_commonDivisor_28 : decode cX2_commonDivisor 28 = .ok (.lrem, 1) := by decide +kernel
theorem dX2_commonDivisor_29 : decode cX2_commonDivisor 29 = .ok (.lstore 9, 2) := by decide +kernel
theorem dX2_commonDivisor_31 : decode cX2_commonDivisor 31 = .ok (.lload 6, 2) := by decide +kernel
theorem dX2_commonDivisor_33 : decode cX2_commonDivisor 33 = .ok (.lstore 4, 2) := by decide +kernel
theorem dX2_commonDivisor_35 : decode cX2_commonDivisor 35 = .ok (.lload 9, 2) := by decide +kernel
theorem dX2_commonDivisor_37 : decode cX2_commonDivisor 37 = .ok (.lstore 6, 2) := by decide +kernel
theorem dX2_commonDivisor_39 : decode cX2_commonDivisor 39 = .ok (.iinc 8 1, 3) := by decide +kernel
theorem dX2_commonDivisor_42 : decode cX2_commonDivisor 42 = .ok (.goto (-33), 3) := by decide +kernel
theorem dX2_commonDivisor_45 : decode cX2_commonDivisor 45 = .ok (.lload 4, 2) := by decide +kernel
theorem dX2_commonDivisor_47 : decode cX2_commonDivisor 47 = .ok (.lconst 0, 1) := by decide +kernel
theorem dX2_commonDivisor_48 : decode cX2_commonDivisor 48 = .ok (.lcmp, 1) := by decide +kernel
theorem dX2_commonDivisor_49 : decode cX2_commonDivisor 49 = .ok (.ifCond .ne 7, 3) := by decide +kernel
theorem dX2_commonDivisor_52 : decode cX2_commonDivisor 52 = .ok (.lconst 1, 1) := by decide +kernel
theorem dX2_commonDivisor_53 : decode cX2_commonDivisor 53 = .ok (.goto 5, 3) := by decide +kernel
theorem dX2_commonDivisor_56 : decode cX2_commonDivisor 56 = .ok (.lload 4, 2) := by decide +kernel
theorem dX2_commonDivisor_58 : decode cX2_commonDivisor 58 = .ok (.lreturn, 1) := by decide +kernel
theorem dX3_init_0 : decode cX3_init 0 = .ok (.aload_n 0, 1) := by decide +kernel
theorem dX3_init_1 : decode cX3_init 1 = .ok (.invokespecial 3, 3) := by decide +kernel
theorem dX3_init_4 : decode cX3_init 4 = .ok (.aload_n 0, 1) := by decide +kernel
theorem dX3_init_5 : decode cX3_init 5 = .ok (.bipush 16, 2) := by decide +kernel
theorem dX3_init_7 : decode cX3_init 7 = .ok (.newarray .boolean, 2) := by decide +kernel
theorem dX3_init_9 : decode cX3_init 9 = .ok (.putfield 9, 3) := by decide +kernel
theorem dX3_init_12 : decode cX3_init 12 = .ok (.aload_n 0, 1) := by decide +kernel
theorem dX3_init_13 : decode cX3_init 13 = .ok (.bipush 16, 2) := by decide +kernel
theorem dX3_init_15 : decode cX3_init 15 = .ok (.newarray .int, 2) := by decide +kernel
theorem dX3_init_17 : decode cX3_init 17 = .ok (.putfield 15, 3) := by decide +kernel
theorem dX3_init_20 : decode cX3_init 20 = .ok (.aload_n 0, 1) := by decide +kernel
theorem dX3_init_21 : decode cX3_init 21 = .ok (.bipush 16, 2) := by decide +kernel
theorem dX3_init_23 : decode cX3_init 23 = .ok (.newarray .int, 2) := by decide +kernel
theorem dX3_init_25 : decode cX3_init 25 = .ok (.putfield 19, 3) := by decide +kernel
theorem dX3_init_28 : decode cX3_init 28 = .ok (.aload_n 0, 1) := by decide +kernel
theorem dX3_init_29 : decode cX3_init 29 = .ok (.bipush 16, 2) := by decide +kernel
theorem dX3_init_31 : decode cX3_init 31 = .ok (.newarray .int, 2) := by decide +kernel
theorem dX3_init_33 : decode cX3_init 33 = .ok (.putfield 22, 3) := by decide +kernel
theorem dX3_init_36 : decode cX3_init 36 = .ok (.aload_n 0, 1) := by decide +kernel
theorem dX3_init_37 : decode cX3_init 37 = .ok (.iconst 0, 1) := by decide +kernel
theorem dX3_init_38 : decode cX3_init 38 = .ok (.putfield 25, 3) := by decide +kernel
theorem dX3_init_41 : decode cX3_init 41 = .ok (.return_, 1) := by decide +kernel
theorem dX3_add_0 : decode cX3_add 0 = .ok (.aload_n 0, 1) := by decide +kernel
theorem dX3_add_1 : decode cX3_add 1 = .ok (.getfield 9, 3) := by decide +kernel
theorem dX3_add_4 : decode cX3_add 4 = .ok (.iload_n 1, 1) := by decide +kernel
theorem dX3_add_5 : decode cX3_add 5 = .ok (.iconst 1, 1) := by decide +kernel
theorem dX3_add_6 : decode cX3_add 6 = .ok (.bastore, 1) := by decide +kernel
theorem dX3_add_7 : decode cX3_add 7 = .ok (.aload_n 0, 1) := by decide +kernel
theorem dX3_add_8 : decode cX3_add 8 = .ok (.getfield 15, 3) := by decide +kernel
theorem dX3_add_11 : decode cX3_add 11 = .ok (.iload_n 1, 1) := by decide +kernel
theorem dX3_add_12 : decode cX3_add 12 = .ok (.iload_n 2, 1) := by decide +kernel
theorem dX3_add_13 : decode cX3_add 13 = .ok (.iastore, 1) := by decide +kernel
theorem dX3_add_14 : decode cX3_add 14 = .ok (.aload_n 0, 1) := by decide +kernel
theorem dX3_add_15 : decode cX3_add 15 = .ok (.getfield 19, 3) := by decide +kernel
theorem dX3_add_18 : decode cX3_add 18 = .ok (.iload_n 1, 1) := by decide +kernel
theorem dX3_add_19 : decode cX3_add 19 = .ok (.iload_n 3, 1) := by decide +kernel
theorem dX3_add_20 : decode cX3_add 20 = .ok (.iastore, 1) := by decide +kernel
theorem dX3_add_21 : decode cX3_add 21 = .ok (.aload_n 0, 1) := by decide +kernel
theorem dX3_add_22 : decode cX3_add 22 = .ok (.getfield 22, 3) := by decide +kernel
theorem dX3_add_25 : decode cX3_add 25 = .ok (.iload_n 1, 1) := by decide +kernel
theorem dX3_add_26 : decode cX3_add 26 = .ok (.iload 4, 2) := by decide +kernel
theorem dX3_add_28 : decode cX3_add 28 = .ok (.iastore, 1) := by decide +kernel
theorem dX3_add_29 : decode cX3_add 29 = .ok (.aload_n 0, 1) := by decide +kernel
theorem dX3_add_30 : decode cX3_add 30 = .ok (.dup, 1) := by decide +kernel
theorem dX3_add_31 : decode cX3_add 31 = .ok (.getfield 25, 3) := by decide +kernel
theorem dX3_add_34 : decode cX3_add 34 = .ok (.iconst 1, 1) := by decide +kernel
theorem dX3_add_35 : decode cX3_add 35 = .ok (.iadd, 1) := by decide +kernel
theorem dX3_add_36 : decode cX3_add 36 = .ok (.putfield 25, 3) := by decide +kernel
theorem dX3_add_39 : decode cX3_add 39 = .ok (.return_, 1) := by decide +kernel
theorem dX3_has_0 : decode cX3_has 0 = .ok (.iload_n 1, 1) := by decide +kernel
theorem dX3_has_1 : decode cX3_has 1 = .ok (.bipush 16, 2) := by decide +kernel
theorem dX3_has_3 : decode cX3_has 3 = .ok (.invokestatic 29, 3) := by decide +kernel
theorem dX3_has_6 : decode cX3_has 6 = .ok (.ifCond .eq 16, 3) := by decide +kernel
theorem dX3_has_9 : decode cX3_has 9 = .ok (.aload_n 0, 1) := by decide +kernel
theorem dX3_has_10 : decode cX3_has 10 = .ok (.getfield 9, 3) := by decide +kernel
theorem dX3_has_13 : decode cX3_has 13 = .ok (.iload_n 1, 1) := by decide +kernel
theorem dX3_has_14 : decode cX3_has 14 = .ok (.baload, 1) := by decide +kernel
theorem dX3_has_15 : decode cX3_has 15 = .ok (.ifCond .eq 7, 3) := by decide +kernel
theorem dX3_has_18 : decode cX3_has 18 = .ok (.iconst 1, 1) := by decide +kernel
theorem dX3_has_19 : decode cX3_has 19 = .ok (.goto 4, 3) := by decide +kernel
theorem dX3_has_22 : decode cX3_has 22 = .ok (.iconst 0, 1) := by decide +kernel
theorem dX3_has_23 : decode cX3_has 23 = .ok (.ireturn, 1) := by decide +kernel
theorem dX3_isPost_0 : decode cX3_isPost 0 = .ok (.aload_n 0, 1) := by decide +kernel
theorem dX3_isPost_1 : decode cX3_isPost 1 = .ok (.iload_n 1, 1) := by decide +kernel
theorem dX3_isPost_2 : decode cX3_isPost 2 = .ok (.invokevirtual 33, 3) := by decide +kernel
theorem dX3_isPost_5 : decode cX3_isPost 5 = .ok (.ifCond .eq 17, 3) := by decide +kernel
theorem dX3_isPost_8 : decode cX3_isPost 8 = .ok (.aload_n 0, 1) := by decide +kernel
theorem dX3_isPost_9 : decode cX3_isPost 9 = .ok (.getfield 22, 3) := by decide +kernel
theorem dX3_isPost_12 : decode cX3_isPost 12 = .ok (.iload_n 1, 1) := by decide +kernel
theorem dX3_isPost_13 : decode cX3_isPost 13 = .ok (.iaload, 1) := by decide +kernel
theorem dX3_isPost_14 : decode cX3_isPost 14 = .ok (.iconst (-1), 1) := by decide +kernel
theorem dX3_isPost_15 : decode cX3_isPost 15 = .ok (.if_icmp .eq 7, 3) := by decide +kernel
theorem dX3_isPost_18 : decode cX3_isPost 18 = .ok (.iconst 1, 1) := by decide +kernel
theorem dX3_isPost_19 : decode cX3_isPost 19 = .ok (.goto 4, 3) := by decide +kernel
theorem dX3_isPost_22 : decode cX3_isPost 22 = .ok (.iconst 0, 1) := by decide +kernel
theorem dX3_isPost_23 : decode cX3_isPost 23 = .ok (.ireturn, 1) := by decide +kernel
theorem dX3_start_0 : decode cX3_start 0 = .ok (.aload_n 0, 1) := by decide +kernel
theorem dX3_start_1 : decode cX3_start 1 = .ok (.getfield 15, 3) := by decide +kernel
theorem dX3_start_4 : decode cX3_start 4 = .ok (.iload_n 1, 1) := by decide +kernel
theorem dX3_start_5 : decode cX3_start 5 = .ok (.iaload, 1) := by decide +kernel
theorem dX3_start_6 : decode cX3_start 6 = .ok (.ireturn, 1) := by decide +kernel
theorem dX3_goal_0 : decode cX3_goal 0 = .ok (.aload_n 0, 1) := by decide +kernel
theorem dX3_goal_1 : decode cX3_goal 1 = .ok (.getfield 19, 3) := by decide +kernel
theorem dX3_goal_4 : decode cX3_goal 4 = .ok (.iload_n 1, 1) := by decide +kernel
theorem dX3_goal_5 : decode cX3_goal 5 = .ok (.iaload, 1) := by decide +kernel
theorem dX3_goal_6 : decode cX3_goal 6 = .ok (.ireturn, 1) := by decide +kernel
theorem dX3_group_0 : decode cX3_group 0 = .ok (.aload_n 0, 1) := by decide +kernel
theorem dX3_group_1 : decode cX3_group 1 = .ok (.getfield 22, 3) := by decide +kernel
theorem dX3_group_4 : decode cX3_group 4 = .ok (.iload_n 1, 1) := by decide +kernel
theorem dX3_group_5 : decode cX3_group 5 = .ok (.iaload, 1) := by decide +kernel
theorem dX3_group_6 : decode cX3_group 6 = .ok (.ireturn, 1) := by decide +kernel
theorem dX3_number_0 : decode cX3_number 0 = .ok (.aload_n 0, 1) := by decide +kernel
theorem dX3_number_1 : decode cX3_number 1 = .ok (.getfield 25, 3) := by decide +kernel
theorem dX3_number_4 : decode cX3_number 4 = .ok (.ireturn, 1) := by decide +kernel
theorem dX4_init_0 : decode cX4_init 0 = .ok (.aload_n 0, 1) := by decide +kernel
theorem dX4_init_1 : decode cX4_init 1 = .ok (.invokespecial 3, 3) := by decide +kernel
theorem dX4_init_4 : decode cX4_init 4 = .ok (.aload_n 0, 1) := by decide +kernel
theorem dX4_init_5 : decode cX4_init 5 = .ok (.bipush 35, 2) := by decide +kernel
theorem dX4_init_7 : decode cX4_init 7 = .ok (.newarray .int, 2) := by decide +kernel
theorem dX4_init_9 : decode cX4_init 9 = .ok (.putfield 9, 3) := by decide +kernel
theorem dX4_init_12 : decode cX4_init 12 = .ok (.aload_n 0, 1) := by decide +kernel
theorem dX4_init_13 : decode cX4_init 13 = .ok (.bipush 60, 2) := by decide +kernel
theorem dX4_init_15 : decode cX4_init 15 = .ok (.newarray .int, 2) := by decide +kernel
theorem dX4_init_17 : decode cX4_init 17 = .ok (.putfield 15, 3) := by decide +kernel
theorem dX4_init_20 : decode cX4_init 20 = .ok (.aload_n 0, 1) := by decide +kernel
theorem dX4_init_21 : decode cX4_init 21 = .ok (.iconst 5, 1) := by decide +kernel
theorem dX4_init_22 : decode cX4_init 22 = .ok (.newarray .int, 2) := by decide +kernel
theorem dX4_init_24 : decode cX4_init 24 = .ok (.putfield 18, 3) := by decide +kernel
theorem dX4_init_27 : decode cX4_init 27 = .ok (.aload_n 0, 1) := by decide +kernel
theorem dX4_init_28 : decode cX4_init 28 = .ok (.iconst 5, 1) := by decide +kernel
theorem dX4_init_29 : decode cX4_init 29 = .ok (.newarray .int, 2) := by decide +kernel
theorem dX4_init_31 : decode cX4_init 31 = .ok (.putfield 21, 3) := by decide +kernel
theorem dX4_init_34 : decode cX4_init 34 = .ok (.return_, 1) := by decide +kernel
theorem dX4_clear_0 : decode cX4_clear 0 = .ok (.iconst 0, 1) := by decide +kernel
theorem dX4_clear_1 : decode cX4_clear 1 = .ok (.istore_n 2, 1) := by decide +kernel
theorem dX4_clear_2 : decode cX4_clear 2 = .ok (.iload_n 2, 1) := by decide +kernel
theorem dX4_clear_3 : decode cX4_clear 3 = .ok (.bipush 7, 2) := by decide +kernel
theorem dX4_clear_5 : decode cX4_clear 5 = .ok (.if_icmp .ge 21, 3) := by decide +kernel
theorem dX4_clear_8 : decode cX4_clear 8 = .ok (.aload_n 0, 1) := by decide +kernel
theorem dX4_clear_9 : decode cX4_clear 9 = .ok (.getfield 9, 3) := by decide +kernel
theorem dX4_clear_12 : decode cX4_clear 12 = .ok (.iload_n 1, 1) := by decide +kernel
theorem dX4_clear_13 : decode cX4_clear 13 = .ok (.bipush 7, 2) := by decide +kernel
theorem dX4_clear_15 : decode cX4_clear 15 = .ok (.imul, 1) := by decide +kernel
theorem dX4_clear_16 : decode cX4_clear 16 = .ok (.iload_n 2, 1) := by decide +kernel
theorem dX4_clear_17 : decode cX4_clear 17 = .ok (.iadd, 1) := by decide +kernel
theorem dX4_clear_18 : decode cX4_clear 18 = .ok (.iconst 0, 1) := by decide +kernel
theorem dX4_clear_19 : decode cX4_clear 19 = .ok (.iastore, 1) := by decide +kernel
theorem dX4_clear_20 : decode cX4_clear 20 = .ok (.iinc 2 1, 3) := by decide +kernel
theorem dX4_clear_23 : decode cX4_clear 23 = .ok (.goto (-21), 3) := by decide +kernel
theorem dX4_clear_26 : decode cX4_clear 26 = .ok (.iconst 0, 1) := by decide +kernel
theorem dX4_clear_27 : decode cX4_clear 27 = .ok (.istore_n 2, 1) := by decide +kernel
theorem dX4_clear_28 : decode cX4_clear 28 = .ok (.iload_n 2, 1) := by decide +kernel
theorem dX4_clear_29 : decode cX4_clear 29 = .ok (.bipush 12, 2) := by decide +kernel
theorem dX4_clear_31 : decode cX4_clear 31 = .ok (.if_icmp .ge 21, 3) := by decide +kernel
theorem dX4_clear_34 : decode cX4_clear 34 = .ok (.aload_n 0, 1) := by decide +kernel
theorem dX4_clear_35 : decode cX4_clear 35 = .ok (.getfield 15, 3) := by decide +kernel
theorem dX4_clear_38 : decode cX4_clear 38 = .ok (.iload_n 1, 1) := by decide +kernel
theorem dX4_clear_39 : decode cX4_clear 39 = .ok (.bipush 12, 2) := by decide +kernel
theorem dX4_clear_41 : decode cX4_clear 41 = .ok (.imul, 1) := by decide +kernel
theorem dX4_clear_42 : decode cX4_clear 42 = .ok (.iload_n 2, 1) := by decide +kernel
theorem dX4_clear_43 : decode cX4_clear 43 = .ok (.iadd, 1) := by decide +kernel
theorem dX4_clear_44 : decode cX4_clear 44 = .ok (.iconst 0, 1) := by decide +kernel
theorem dX4_clear_45 : decode cX4_clear 45 = .ok (.iastore, 1) := by decide +kernel
theorem dX4_clear_46 : decode cX4_clear 46 = .ok (.iinc 2 1, 3) := by decide +kernel
theorem dX4_clear_49 : decode cX4_clear 49 = .ok (.goto (-21), 3) := by decide +kernel
theorem dX4_clear_52 : decode cX4_clear 52 = .ok (.aload_n 0, 1) := by decide +kernel
theorem dX4_clear_53 : decode cX4_clear 53 = .ok (.getfield 18, 3) := by decide +kernel
theorem dX4_clear_56 : decode cX4_clear 56 = .ok (.iload_n 1, 1) := by decide +kernel
theorem dX4_clear_57 : decode cX4_clear 57 = .ok (.iconst 0, 1) := by decide +kernel
theorem dX4_clear_58 : decode cX4_clear 58 = .ok (.iastore, 1) := by decide +kernel
theorem dX4_clear_59 : decode cX4_clear 59 = .ok (.aload_n 0, 1) := by decide +kernel
theorem dX4_clear_60 : decode cX4_clear 60 = .ok (.getfield 21, 3) := by decide +kernel
theorem dX4_clear_63 : decode cX4_clear 63 = .ok (.iload_n 1, 1) := by decide +kernel
theorem dX4_clear_64 : decode cX4_clear 64 = .ok (.iconst 0, 1) := by decide +kernel
theorem dX4_clear_65 : decode cX4_clear 65 = .ok (.iastore, 1) := by decide +kernel
theorem dX4_clear_66 : decode cX4_clear 66 = .ok (.return_, 1) := by decide +kernel
theorem dX4_isFull_0 : decode cX4_isFull 0 = .ok (.aload_n 0, 1) := by decide +kernel
theorem dX4_isFull_1 : decode cX4_isFull 1 = .ok (.getfield 21, 3) := by decide +kernel
theorem dX4_isFull_4 : decode cX4_isFull 4 = .ok (.iload_n 1, 1) := by decide +kernel
theorem dX4_isFull_5 : decode cX4_isFull 5 = .ok (.iaload, 1) := by decide +kernel
theorem dX4_isFull_6 : decode cX4_isFull 6 = .ok (.iconst 4, 1) := by decide +kernel
theorem dX4_isFull_7 : decode cX4_isFull 7 = .ok (.if_icmp .lt 7, 3) := by decide +kernel
theorem dX4_isFull_10 : decode cX4_isFull 10 = .ok (.iconst 1, 1) := by decide +kernel
theorem dX4_isFull_11 : decode cX4_isFull 11 = .ok (.goto 4, 3) := by decide +kernel
theorem dX4_isFull_14 : decode cX4_isFull 14 = .ok (.iconst 0, 1) := by decide +kernel
theorem dX4_isFull_15 : decode cX4_isFull 15 = .ok (.ireturn, 1) := by decide +kernel
theorem dX4_addPost_0 : decode cX4_addPost 0 = .ok (.aload_n 0, 1) := by decide +kernel
theorem dX4_addPost_1 : decode cX4_addPost 1 = .ok (.getfield 21, 3) := by decide +kernel
theorem dX4_addPost_4 : decode cX4_addPost 4 = .ok (.iload_n 1, 1) := by decide +kernel
theorem dX4_addPost_5 : decode cX4_addPost 5 = .ok (.dup2, 1) := by decide +kernel
theorem dX4_addPost_6 : decode cX4_addPost 6 = .ok (.iaload, 1) := by decide +kernel
theorem dX4_addPost_7 : decode cX4_addPost 7 = .ok (.iconst 1, 1) := by decide +kernel
theorem dX4_addPost_8 : decode cX4_addPost 8 = .ok (.iadd, 1) := by decide +kernel
theorem dX4_addPost_9 : decode cX4_addPost 9 = .ok (.iastore, 1) := by decide +kernel
theorem dX4_addPost_10 : decode cX4_addPost 10 = .ok (.return_, 1) := by decide +kernel
theorem dX4_addCount_0 : decode cX4_addCount 0 = .ok (.aload_n 0, 1) := by decide +kernel
theorem dX4_addCount_1 : decode cX4_addCount 1 = .ok (.getfield 9, 3) := by decide +kernel
theorem dX4_addCount_4 : decode cX4_addCount 4 = .ok (.iload_n 1, 1) := by decide +kernel
theorem dX4_addCount_5 : decode cX4_addCount 5 = .ok (.bipush 7, 2) := by decide +kernel
theorem dX4_addCount_7 : decode cX4_addCount 7 = .ok (.imul, 1) := by decide +kernel
theorem dX4_addCount_8 : decode cX4_addCount 8 = .ok (.iload_n 2, 1) := by decide +kernel
theorem dX4_addCount_9 : decode cX4_addCount 9 = .ok (.bipush 7, 2) := by decide +kernel
theorem dX4_addCount_11 : decode cX4_addCount 11 = .ok (.irem, 1) := by decide +kernel
theorem dX4_addCount_12 : decode cX4_addCount 12 = .ok (.iadd, 1) := by decide +kernel
theorem dX4_addCount_13 : decode cX4_addCount 13 = .ok (.dup2, 1) := by decide +kernel
theorem dX4_addCount_14 : decode cX4_addCount 14 = .ok (.iaload, 1) := by decide +kernel
theorem dX4_addCount_15 : decode cX4_addCount 15 = .ok (.iload_n 3, 1) := by decide +kernel
theorem dX4_addCount_16 : decode cX4_addCount 16 = .ok (.iadd, 1) := by decide +kernel
theorem dX4_addCount_17 : decode cX4_addCount 17 = .ok (.iastore, 1) := by decide +kernel
theorem dX4_addCount_18 : decode cX4_addCount 18 = .ok (.aload_n 0, 1) := by decide +kernel
theorem dX4_addCount_19 : decode cX4_addCount 19 = .ok (.getfield 15, 3) := by decide +kernel
theorem dX4_addCount_22 : decode cX4_addCount 22 = .ok (.iload_n 1, 1) := by decide +kernel
theorem dX4_addCount_23 : decode cX4_addCount 23 = .ok (.bipush 12, 2) := by decide +kernel
theorem dX4_addCount_25 : decode cX4_addCount 25 = .ok (.imul, 1) := by decide +kernel
theorem dX4_addCount_26 : decode cX4_addCount 26 = .ok (.iload_n 2, 1) := by decide +kernel
theorem dX4_addCount_27 : decode cX4_addCount 27 = .ok (.bipush 7, 2) := by decide +kernel
theorem dX4_addCount_29 : decode cX4_addCount 29 = .ok (.idiv, 1) := by decide +kernel
theorem dX4_addCount_30 : decode cX4_addCount 30 = .ok (.iadd, 1) := by decide +kernel
theorem dX4_addCount_31 : decode cX4_addCount 31 = .ok (.dup2, 1) := by decide +kernel
theorem dX4_addCount_32 : decode cX4_addCount 32 = .ok (.iaload, 1) := by decide +kernel
theorem dX4_addCount_33 : decode cX4_addCount 33 = .ok (.iload_n 3, 1) := by decide +kernel
theorem dX4_addCount_34 : decode cX4_addCount 34 = .ok (.iadd, 1) := by decide +kernel
theorem dX4_addCount_35 : decode cX4_addCount 35 = .ok (.iastore, 1) := by decide +kernel
theorem dX4_addCount_36 : decode cX4_addCount 36 = .ok (.aload_n 0, 1) := by decide +kernel
theorem dX4_addCount_37 : decode cX4_addCount 37 = .ok (.getfield 18, 3) := by decide +kernel
theorem dX4_addCount_40 : decode cX4_addCount 40 = .ok (.iload_n 1, 1) := by decide +kernel
theorem dX4_addCount_41 : decode cX4_addCount 41 = .ok (.dup2, 1) := by decide +kernel
theorem dX4_addCount_42 : decode cX4_addCount 42 = .ok (.iaload, 1) := by decide +kernel
theorem dX4_addCount_43 : decode cX4_addCount 43 = .ok (.iload_n 3, 1) := by decide +kernel
theorem dX4_addCount_44 : decode cX4_addCount 44 = .ok (.iadd, 1) := by decide +kernel
theorem dX4_addCount_45 : decode cX4_addCount 45 = .ok (.iastore, 1) := by decide +kernel
theorem dX4_addCount_46 : decode cX4_addCount 46 = .ok (.return_, 1) := by decide +kernel
theorem dX4_numberOfPosts_0 : decode cX4_numberOfPosts 0 = .ok (.aload_n 0, 1) := by decide +kernel
theorem dX4_numberOfPosts_1 : decode cX4_numberOfPosts 1 = .ok (.getfield 21, 3) := by decide +kernel
theorem dX4_numberOfPosts_4 : decode cX4_numberOfPosts 4 = .ok (.iload_n 1, 1) := by decide +kernel
theorem dX4_numberOfPosts_5 : decode cX4_numberOfPosts 5 = .ok (.iaload, 1) := by decide +kernel
theorem dX4_numberOfPosts_6 : decode cX4_numberOfPosts 6 = .ok (.ireturn, 1) := by decide +kernel
theorem dX4_isThere_0 : decode cX4_isThere 0 = .ok (.aload_n 0, 1) := by decide +kernel
theorem dX4_isThere_1 : decode cX4_isThere 1 = .ok (.getfield 21, 3) := by decide +kernel
theorem dX4_isThere_4 : decode cX4_isThere 4 = .ok (.iload_n 1, 1) := by decide +kernel
theorem dX4_isThere_5 : decode cX4_isThere 5 = .ok (.iaload, 1) := by decide +kernel
theorem dX4_isThere_6 : decode cX4_isThere 6 = .ok (.ifCond .le 16, 3) := by decide +kernel
theorem dX4_isThere_9 : decode cX4_isThere 9 = .ok (.aload_n 0, 1) := by decide +kernel
theorem dX4_isThere_10 : decode cX4_isThere 10 = .ok (.getfield 18, 3) := by decide +kernel
theorem dX4_isThere_13 : decode cX4_isThere 13 = .ok (.iload_n 1, 1) := by decide +kernel
theorem dX4_isThere_14 : decode cX4_isThere 14 = .ok (.iaload, 1) := by decide +kernel
theorem dX4_isThere_15 : decode cX4_isThere 15 = .ok (.ifCond .eq 7, 3) := by decide +kernel
theorem dX4_isThere_18 : decode cX4_isThere 18 = .ok (.iconst 1, 1) := by decide +kernel
theorem dX4_isThere_19 : decode cX4_isThere 19 = .ok (.goto 4, 3) := by decide +kernel
theorem dX4_isThere_22 : decode cX4_isThere 22 = .ok (.iconst 0, 1) := by decide +kernel
theorem dX4_isThere_23 : decode cX4_isThere 23 = .ok (.ireturn, 1) := by decide +kernel
theorem dX4_value_0 : decode cX4_value 0 = .ok (.aload_n 0, 1) := by decide +kernel
theorem dX4_value_1 : decode cX4_value 1 = .ok (.getfield 9, 3) := by decide +kernel
theorem dX4_value_4 : decode cX4_value 4 = .ok (.iload_n 1, 1) := by decide +kernel
theorem dX4_value_5 : decode cX4_value 5 = .ok (.bipush 7, 2) := by decide +kernel
theorem dX4_value_7 : decode cX4_value 7 = .ok (.imul, 1) := by decide +kernel
theorem dX4_value_8 : decode cX4_value 8 = .ok (.iload_n 2, 1) := by decide +kernel
theorem dX4_value_9 : decode cX4_value 9 = .ok (.bipush 7, 2) := by decide +kernel
theorem dX4_value_11 : decode cX4_value 11 = .ok (.irem, 1) := by decide +kernel
theorem dX4_value_12 : decode cX4_value 12 = .ok (.iadd, 1) := by decide +kernel
theorem dX4_value_13 : decode cX4_value 13 = .ok (.iaload, 1) := by decide +kernel
theorem dX4_value_14 : decode cX4_value 14 = .ok (.aload_n 0, 1) := by decide +kernel
theorem dX4_value_15 : decode cX4_value 15 = .ok (.getfield 15, 3) := by decide +kernel
theorem dX4_value_18 : decode cX4_value 18 = .ok (.iload_n 1, 1) := by decide +kernel
theorem dX4_value_19 : decode cX4_value 19 = .ok (.bipush 12, 2) := by decide +kernel
theorem dX4_value_21 : decode cX4_value 21 = .ok (.imul, 1) := by decide +kernel
theorem dX4_value_22 : decode cX4_value 22 = .ok (.iload_n 2, 1) := by decide +kernel
theorem dX4_value_23 : decode cX4_value 23 = .ok (.bipush 7, 2) := by decide +kernel
theorem dX4_value_25 : decode cX4_value 25 = .ok (.idiv, 1) := by decide +kernel
theorem dX4_value_26 : decode cX4_value 26 = .ok (.iadd, 1) := by decide +kernel
theorem dX4_value_27 : decode cX4_value 27 = .ok (.iaload, 1) := by decide +kernel
theorem dX4_value_28 : decode cX4_value 28 = .ok (.imul, 1) := by decide +kernel
theorem dX4_value_29 : decode cX4_value 29 = .ok (.ireturn, 1) := by decide +kernel
theorem dX4_valueOfYear_0 : decode cX4_valueOfYear 0 = .ok (.aload_n 0, 1) := by decide +kernel
theorem dX4_valueOfYear_1 : decode cX4_valueOfYear 1 = .ok (.getfield 18, 3) := by decide +kernel
theorem dX4_valueOfYear_4 : decode cX4_valueOfYear 4 = .ok (.iload_n 1, 1) := by decide +kernel
theorem dX4_valueOfYear_5 : decode cX4_valueOfYear 5 = .ok (.iaload, 1) := by decide +kernel
theorem dX4_valueOfYear_6 : decode cX4_valueOfYear 6 = .ok (.i2l, 1) := by decide +kernel
theorem dX4_valueOfYear_7 : decode cX4_valueOfYear 7 = .ok (.aload_n 0, 1) := by decide +kernel
theorem dX4_valueOfYear_8 : decode cX4_valueOfYear 8 = .ok (.getfield 18, 3) := by decide +kernel
theorem dX4_valueOfYear_11 : decode cX4_valueOfYear 11 = .ok (.iload_n 1, 1) := by decide +kernel
theorem dX4_valueOfYear_12 : decode cX4_valueOfYear 12 = .ok (.iaload, 1) := by decide +kernel
theorem dX4_valueOfYear_13 : decode cX4_valueOfYear 13 = .ok (.i2l, 1) := by decide +kernel
theorem dX4_valueOfYear_14 : decode cX4_valueOfYear 14 = .ok (.lmul, 1) := by decide +kernel
theorem dX4_valueOfYear_15 : decode cX4_valueOfYear 15 = .ok (.lreturn, 1) := by decide +kernel
theorem dX5_init_0 : decode cX5_init 0 = .ok (.aload_n 0, 1) := by decide +kernel
theorem dX5_init_1 : decode cX5_init 1 = .ok (.invokespecial 3, 3) := by decide +kernel
theorem dX5_init_4 : decode cX5_init 4 = .ok (.aload_n 0, 1) := by decide +kernel
theorem dX5_init_5 : decode cX5_init 5 = .ok (.sipush 200, 3) := by decide +kernel
theorem dX5_init_8 : decode cX5_init 8 = .ok (.newarray .int, 2) := by decide +kernel
theorem dX5_init_10 : decode cX5_init 10 = .ok (.putfield 9, 3) := by decide +kernel
theorem dX5_init_13 : decode cX5_init 13 = .ok (.aload_n 0, 1) := by decide +kernel
theorem dX5_init_14 : decode cX5_init 14 = .ok (.iconst 0, 1) := by decide +kernel
theorem dX5_init_15 : decode cX5_init 15 = .ok (.putfield 15, 3) := by decide +kernel
theorem dX5_init_18 : decode cX5_init 18 = .ok (.return_, 1) := by decide +kernel
theorem dX5_length_0 : decode cX5_length 0 = .ok (.aload_n 0, 1) := by decide +kernel
theorem dX5_length_1 : decode cX5_length 1 = .ok (.getfield 15, 3) := by decide +kernel
theorem dX5_length_4 : decode cX5_length 4 = .ok (.ireturn, 1) := by decide +kernel
theorem dX5_at_0 : decode cX5_at 0 = .ok (.iload_n 1, 1) := by decide +kernel
theorem dX5_at_1 : decode cX5_at 1 = .ok (.aload_n 0, 1) := by decide +kernel
theorem dX5_at_2 : decode cX5_at 2 = .ok (.getfield 15, 3) := by decide +kernel
theorem dX5_at_5 : decode cX5_at 5 = .ok (.invokestatic 19, 3) := by decide +kernel
theorem dX5_at_8 : decode cX5_at 8 = .ok (.ifCond .eq 12, 3) := by decide +kernel
theorem dX5_at_11 : decode cX5_at 11 = .ok (.aload_n 0, 1) := by decide +kernel
theorem dX5_at_12 : decode cX5_at 12 = .ok (.getfield 9, 3) := by decide +kernel
theorem dX5_at_15 : decode cX5_at 15 = .ok (.iload_n 1, 1) := by decide +kernel
theorem dX5_at_16 : decode cX5_at 16 = .ok (.iaload, 1) := by decide +kernel
theorem dX5_at_17 : decode cX5_at 17 = .ok (.goto 4, 3) := by decide +kernel
theorem dX5_at_20 : decode cX5_at 20 = .ok (.iconst 0, 1) := by decide +kernel
theorem dX5_at_21 : decode cX5_at 21 = .ok (.ireturn, 1) := by decide +kernel
theorem dX5_append_0 : decode cX5_append 0 = .ok (.bipush 24, 2) := by decide +kernel
theorem dX5_append_2 : decode cX5_append 2 = .ok (.istore_n 2, 1) := by decide +kernel
theorem dX5_append_3 : decode cX5_append 3 = .ok (.iload_n 2, 1) := by decide +kernel
theorem dX5_append_4 : decode cX5_append 4 = .ok (.ifCond .lt 45, 3) := by decide +kernel
theorem dX5_append_7 : decode cX5_append 7 = .ok (.aload_n 0, 1) := by decide +kernel
theorem dX5_append_8 : decode cX5_append 8 = .ok (.getfield 15, 3) := by decide +kernel
theorem dX5_append_11 : decode cX5_append 11 = .ok (.sipush 200, 3) := by decide +kernel
theorem dX5_append_14 : decode cX5_append 14 = .ok (.if_icmp .ge 35, 3) := by decide +kernel
theorem dX5_append_17 : decode cX5_append 17 = .ok (.aload_n 0, 1) := by decide +kernel
theorem dX5_append_18 : decode cX5_append 18 = .ok (.getfield 9, 3) := by decide +kernel
theorem dX5_append_21 : decode cX5_append 21 = .ok (.aload_n 0, 1) := by decide +kernel
theorem dX5_append_22 : decode cX5_append 22 = .ok (.getfield 15, 3) := by decide +kernel
theorem dX5_append_25 : decode cX5_append 25 = .ok (.iload_n 1, 1) := by decide +kernel
theorem dX5_append_26 : decode cX5_append 26 = .ok (.iload_n 2, 1) := by decide +kernel
theorem dX5_append_27 : decode cX5_append 27 = .ok (.iushr, 1) := by decide +kernel
theorem dX5_append_28 : decode cX5_append 28 = .ok (.sipush 255, 3) := by decide +kernel
theorem dX5_append_31 : decode cX5_append 31 = .ok (.iand, 1) := by decide +kernel
theorem dX5_append_32 : decode cX5_append 32 = .ok (.iastore, 1) := by decide +kernel
theorem dX5_append_33 : decode cX5_append 33 = .ok (.aload_n 0, 1) := by decide +kernel
theorem dX5_append_34 : decode cX5_append 34 = .ok (.dup, 1) := by decide +kernel
theorem dX5_append_35 : decode cX5_append 35 = .ok (.getfield 15, 3) := by decide +kernel
theorem dX5_append_38 : decode cX5_append 38 = .ok (.iconst 1, 1) := by decide +kernel
theorem dX5_append_39 : decode cX5_append 39 = .ok (.iadd, 1) := by decide +kernel
theorem dX5_append_40 : decode cX5_append 40 = .ok (.putfield 15, 3) := by decide +kernel
theorem dX5_append_43 : decode cX5_append 43 = .ok (.iinc 2 (-8), 3) := by decide +kernel
theorem dX5_append_46 : decode cX5_append 46 = .ok (.goto (-43), 3) := by decide +kernel
theorem dX5_append_49 : decode cX5_append 49 = .ok (.return_, 1) := by decide +kernel
theorem dX5_cut_0 : decode cX5_cut 0 = .ok (.iload_n 1, 1) := by decide +kernel
theorem dX5_cut_1 : decode cX5_cut 1 = .ok (.ifCond .lt 11, 3) := by decide +kernel
theorem dX5_cut_4 : decode cX5_cut 4 = .ok (.iload_n 1, 1) := by decide +kernel
theorem dX5_cut_5 : decode cX5_cut 5 = .ok (.aload_n 0, 1) := by decide +kernel
theorem dX5_cut_6 : decode cX5_cut 6 = .ok (.getfield 15, 3) := by decide +kernel
theorem dX5_cut_9 : decode cX5_cut 9 = .ok (.if_icmp .le 5, 3) := by decide +kernel
theorem dX5_cut_12 : decode cX5_cut 12 = .ok (.iconst 0, 1) := by decide +kernel
theorem dX5_cut_13 : decode cX5_cut 13 = .ok (.ireturn, 1) := by decide +kernel
theorem dX5_cut_14 : decode cX5_cut 14 = .ok (.aload_n 0, 1) := by decide +kernel
theorem dX5_cut_15 : decode cX5_cut 15 = .ok (.iload_n 1, 1) := by decide +kernel
theorem dX5_cut_16 : decode cX5_cut 16 = .ok (.putfield 15, 3) := by decide +kernel
theorem dX5_cut_19 : decode cX5_cut 19 = .ok (.iconst 1, 1) := by decide +kernel
theorem dX5_cut_20 : decode cX5_cut 20 = .ok (.ireturn, 1) := by decide +kernel
theorem dX5_holdsCountsAlone_0 : decode cX5_holdsCountsAlone 0 = .ok (.iconst 0, 1) := by decide +kernel
theorem dX5_holdsCountsAlone_1 : decode cX5_holdsCountsAlone 1 = .ok (.istore_n 1, 1) := by decide +kernel
theorem dX5_holdsCountsAlone_2 : decode cX5_holdsCountsAlone 2 = .ok (.iload_n 1, 1) := by decide +kernel
theorem dX5_holdsCountsAlone_3 : decode cX5_holdsCountsAlone 3 = .ok (.aload_n 0, 1) := by decide +kernel
theorem dX5_holdsCountsAlone_4 : decode cX5_holdsCountsAlone 4 = .ok (.getfield 15, 3) := by decide +kernel
theorem dX5_holdsCountsAlone_7 : decode cX5_holdsCountsAlone 7 = .ok (.if_icmp .ge 34, 3) := by decide +kernel
theorem dX5_holdsCountsAlone_10 : decode cX5_holdsCountsAlone 10 = .ok (.aload_n 0, 1) := by decide +kernel
theorem dX5_holdsCountsAlone_11 : decode cX5_holdsCountsAlone 11 = .ok (.getfield 9, 3) := by decide +kernel
theorem dX5_holdsCountsAlone_14 : decode cX5_holdsCountsAlone 14 = .ok (.iload_n 1, 1) := by decide +kernel
theorem dX5_holdsCountsAlone_15 : decode cX5_holdsCountsAlone 15 = .ok (.iaload, 1) := by decide +kernel
theorem dX5_holdsCountsAlone_16 : decode cX5_holdsCountsAlone 16 = .ok (.bipush 50, 2) := by decide +kernel
theorem dX5_holdsCountsAlone_18 : decode cX5_holdsCountsAlone 18 = .ok (.if_icmp .le 17, 3) := by decide +kernel
theorem dX5_holdsCountsAlone_21 : decode cX5_holdsCountsAlone 21 = .ok (.aload_n 0, 1) := by decide +kernel
theorem dX5_holdsCountsAlone_22 : decode cX5_holdsCountsAlone 22 = .ok (.getfield 9, 3) := by decide +kernel
theorem dX5_holdsCountsAlone_25 : decode cX5_holdsCountsAlone 25 = .ok (.iload_n 1, 1) := by decide +kernel
theorem dX5_holdsCountsAlone_26 : decode cX5_holdsCountsAlone 26 = .ok (.iaload, 1) := by decide +kernel
theorem dX5_holdsCountsAlone_27 : decode cX5_holdsCountsAlone 27 = .ok (.sipush 255, 3) := by decide +kernel
theorem dX5_holdsCountsAlone_30 : decode cX5_holdsCountsAlone 30 = .ok (.if_icmp .eq 5, 3) := by decide +kernel
theorem dX5_holdsCountsAlone_33 : decode cX5_holdsCountsAlone 33 = .ok (.iconst 0, 1) := by decide +kernel
theorem dX5_holdsCountsAlone_34 : decode cX5_holdsCountsAlone 34 = .ok (.ireturn, 1) := by decide +kernel
theorem dX5_holdsCountsAlone_35 : decode cX5_holdsCountsAlone 35 = .ok (.iinc 1 1, 3) := by decide +kernel
theorem dX5_holdsCountsAlone_38 : decode cX5_holdsCountsAlone 38 = .ok (.goto (-36), 3) := by decide +kernel
theorem dX5_holdsCountsAlone_41 : decode cX5_holdsCountsAlone 41 = .ok (.iconst 1, 1) := by decide +kernel
theorem dX5_holdsCountsAlone_42 : decode cX5_holdsCountsAlone 42 = .ok (.ireturn, 1) := by decide +kernel
theorem dX6_init_0 : decode cX6_init 0 = .ok (.aload_n 0, 1) := by decide +kernel
theorem dX6_init_1 : decode cX6_init 1 = .ok (.invokespecial 3, 3) := by decide +kernel
theorem dX6_init_4 : decode cX6_init 4 = .ok (.aload_n 0, 1) := by decide +kernel
theorem dX6_init_5 : decode cX6_init 5 = .ok (.aload_n 1, 1) := by decide +kernel
theorem dX6_init_6 : decode cX6_init 6 = .ok (.putfield 9, 3) := by decide +kernel
theorem dX6_init_9 : decode cX6_init 9 = .ok (.aload_n 0, 1) := by decide +kernel
theorem dX6_init_10 : decode cX6_init 10 = .ok (.aload_n 2, 1) := by decide +kernel
theorem dX6_init_11 : decode cX6_init 11 = .ok (.putfield 15, 3) := by decide +kernel
theorem dX6_init_14 : decode cX6_init 14 = .ok (.aload_n 0, 1) := by decide +kernel
theorem dX6_init_15 : decode cX6_init 15 = .ok (.new 19, 3) := by decide +kernel
theorem dX6_init_18 : decode cX6_init 18 = .ok (.dup, 1) := by decide +kernel
theorem dX6_init_19 : decode cX6_init 19 = .ok (.invokespecial 21, 3) := by decide +kernel
theorem dX6_init_22 : decode cX6_init 22 = .ok (.putfield 22, 3) := by decide +kernel
theorem dX6_init_25 : decode cX6_init 25 = .ok (.aload_n 0, 1) := by decide +kernel
theorem dX6_init_26 : decode cX6_init 26 = .ok (.bipush 16, 2) := by decide +kernel
theorem dX6_init_28 : decode cX6_init 28 = .ok (.newarray .boolean, 2) := by decide +kernel
theorem dX6_init_30 : decode cX6_init 30 = .ok (.putfield 26, 3) := by decide +kernel
theorem dX6_init_33 : decode cX6_init 33 = .ok (.aload_n 0, 1) := by decide +kernel
theorem dX6_init_34 : decode cX6_init 34 = .ok (.bipush 14, 2) := by decide +kernel
theorem dX6_init_36 : decode cX6_init 36 = .ok (.newarray .int, 2) := by decide +kernel
theorem dX6_init_38 : decode cX6_init 38 = .ok (.putfield 30, 3) := by decide +kernel
theorem dX6_init_41 : decode cX6_init 41 = .ok (.aload_n 0, 1) := by decide +kernel
theorem dX6_init_42 : decode cX6_init 42 = .ok (.bipush 14, 2) := by decide +kernel
theorem dX6_init_44 : decode cX6_init 44 = .ok (.newarray .int, 2) := by decide +kernel
theorem dX6_init_46 : decode cX6_init 46 = .ok (.putfield 34, 3) := by decide +kernel
theorem dX6_init_49 : decode cX6_init 49 = .ok (.aload_n 0, 1) := by decide +kernel
theorem dX6_init_50 : decode cX6_init 50 = .ok (.iconst 0, 1) := by decide +kernel
theorem dX6_init_51 : decode cX6_init 51 = .ok (.putfield 37, 3) := by decide +kernel
theorem dX6_init_54 : decode cX6_init 54 = .ok (.aload_n 0, 1) := by decide +kernel
theorem dX6_init_55 : decode cX6_init 55 = .ok (.iconst 5, 1) := by decide +kernel
theorem dX6_init_56 : decode cX6_init 56 = .ok (.newarray .long, 2) := by decide +kernel
theorem dX6_init_58 : decode cX6_init 58 = .ok (.putfield 41, 3) := by decide +kernel
theorem dX6_init_61 : decode cX6_init 61 = .ok (.aload_n 0, 1) := by decide +kernel
theorem dX6_init_62 : decode cX6_init 62 = .ok (.iconst 5, 1) := by decide +kernel
theorem dX6_init_63 : decode cX6_init 63 = .ok (.newarray .long, 2) := by decide +kernel
theorem dX6_init_65 : decode cX6_init 65 = .ok (.putfield 45, 3) := by decide +kernel
theorem dX6_init_68 : decode cX6_init 68 = .ok (.aload_n 0, 1) := by decide +kernel
theorem dX6_init_69 : decode cX6_init 69 = .ok (.bipush 16, 2) := by decide +kernel
theorem dX6_init_71 : decode cX6_init 71 = .ok (.newarray .int, 2) := by decide +kernel
theorem dX6_init_73 : decode cX6_init 73 = .ok (.putfield 48, 3) := by decide +kernel
theorem dX6_init_76 : decode cX6_init 76 = .ok (.aload_n 0, 1) := by decide +kernel
theorem dX6_init_77 : decode cX6_init 77 = .ok (.bipush 16, 2) := by decide +kernel
theorem dX6_init_79 : decode cX6_init 79 = .ok (.newarray .int, 2) := by decide +kernel
theorem dX6_init_81 : decode cX6_init 81 = .ok (.putfield 51, 3) := by decide +kernel
theorem dX6_init_84 : decode cX6_init 84 = .ok (.aload_n 0, 1) := by decide +kernel
theorem dX6_init_85 : decode cX6_init 85 = .ok (.new 54, 3) := by decide +kernel
theorem dX6_init_88 : decode cX6_init 88 = .ok (.dup, 1) := by decide +kernel
theorem dX6_init_89 : decode cX6_init 89 = .ok (.invokespecial 56, 3) := by decide +kernel
theorem dX6_init_92 : decode cX6_init 92 = .ok (.putfield 57, 3) := by decide +kernel
theorem dX6_init_95 : decode cX6_init 95 = .ok (.aload_n 0, 1) := by decide +kernel
theorem dX6_init_96 : decode cX6_init 96 = .ok (.iconst 0, 1) := by decide +kernel
theorem dX6_init_97 : decode cX6_init 97 = .ok (.putfield 61, 3) := by decide +kernel
theorem dX6_init_100 : decode cX6_init 100 = .ok (.aload_n 0, 1) := by decide +kernel
theorem dX6_init_101 : decode cX6_init 101 = .ok (.iconst (-1), 1) := by decide +kernel
theorem dX6_init_102 : decode cX6_init 102 = .ok (.putfield 65, 3) := by decide +kernel
theorem dX6_init_105 : decode cX6_init 105 = .ok (.return_, 1) := by decide +kernel
theorem dX6_forget_0 : decode cX6_forget 0 = .ok (.aload_n 0, 1) := by decide +kernel
theorem dX6_forget_1 : decode cX6_forget 1 = .ok (.iconst (-1), 1) := by decide +kernel
theorem dX6_forget_2 : decode cX6_forget 2 = .ok (.putfield 65, 3) := by decide +kernel
theorem dX6_forget_5 : decode cX6_forget 5 = .ok (.return_, 1) := by decide +kernel
theorem dX6_lookAt_0 : decode cX6_lookAt 0 = .ok (.iload_n 1, 1) := by decide +kernel
theorem dX6_lookAt_1 : decode cX6_lookAt 1 = .ok (.aload_n 0, 1) := by decide +kernel
theorem dX6_lookAt_2 : decode cX6_lookAt 2 = .ok (.getfield 65, 3) := by decide +kernel
theorem dX6_lookAt_5 : decode cX6_lookAt 5 = .ok (.if_icmp .ne 4, 3) := by decide +kernel
theorem dX6_lookAt_8 : decode cX6_lookAt 8 = .ok (.return_, 1) := by decide +kernel
theorem dX6_lookAt_9 : decode cX6_lookAt 9 = .ok (.aload_n 0, 1) := by decide +kernel
theorem dX6_lookAt_10 : decode cX6_lookAt 10 = .ok (.iload_n 1, 1) := by decide +kernel
theorem dX6_lookAt_11 : decode cX6_lookAt 11 = .ok (.putfield 65, 3) := by decide +kernel
theorem dX6_lookAt_14 : decode cX6_lookAt 14 = .ok (.aload_n 0, 1) := by decide +kernel
theorem dX6_lookAt_15 : decode cX6_lookAt 15 = .ok (.iconst 0, 1) := by decide +kernel
theorem dX6_lookAt_16 : decode cX6_lookAt 16 = .ok (.putfield 61, 3) := by decide +kernel
theorem dX6_lookAt_19 : decode cX6_lookAt 19 = .ok (.iconst 0, 1) := by decide +kernel
theorem dX6_lookAt_20 : decode cX6_lookAt 20 = .ok (.istore_n 2, 1) := by decide +kernel
theorem dX6_lookAt_21 : decode cX6_lookAt 21 = .ok (.iload_n 2, 1) := by decide +kernel
theorem dX6_lookAt_22 : decode cX6_lookAt 22 = .ok (.bipush 16, 2) := by decide +kernel
theorem dX6_lookAt_24 : decode cX6_lookAt 24 = .ok (.if_icmp .ge 39, 3) := by decide +kernel
theorem dX6_lookAt_27 : decode cX6_lookAt 27 = .ok (.aload_n 0, 1) := by decide +kernel
theorem dX6_lookAt_28 : decode cX6_lookAt 28 = .ok (.getfield 26, 3) := by decide +kernel
theorem dX6_lookAt_31 : decode cX6_lookAt 31 = .ok (.iload_n 2, 1) := by decide +kernel
theorem dX6_lookAt_32 : decode cX6_lookAt 32 = .ok (.aload_n 0, 1) := by decide +kernel
theorem dX6_lookAt_33 : decode cX6_lookAt 33 = .ok (.getfield 9, 3) := by decide +kernel
theorem dX6_lookAt_36 : decode cX6_lookAt 36 = .ok (.iload_n 2, 1) := by decide +kernel
theorem dX6_lookAt_37 : decode cX6_lookAt 37 = .ok (.invokevirtual 68, 3) := by decide +kernel
theorem dX6_lookAt_40 : decode cX6_lookAt 40 = .ok (.ifCond .eq 15, 3) := by decide +kernel
theorem dX6_lookAt_43 : decode cX6_lookAt 43 = .ok (.aload_n 0, 1) := by decide +kernel
theorem dX6_lookAt_44 : decode cX6_lookAt 44 = .ok (.iload_n 2, 1) := by decide +kernel
theorem dX6_lookAt_45 : decode cX6_lookAt 45 = .ok (.invokevirtual 74, 3) := by decide +kernel
theorem dX6_lookAt_48 : decode cX6_lookAt 48 = .ok (.ifCond .eq 7, 3) := by decide +kernel
theorem dX6_lookAt_51 : decode cX6_lookAt 51 = .ok (.iconst 1, 1) := by decide +kernel
theorem dX6_lookAt_52 : decode cX6_lookAt 52 = .ok (.goto 4, 3) := by decide +kernel
theorem dX6_lookAt_55 : decode cX6_lookAt 55 = .ok (.iconst 0, 1) := by decide +kernel
theorem dX6_lookAt_56 : decode cX6_lookAt 56 = .ok (.bastore, 1) := by decide +kernel
theorem dX6_lookAt_57 : decode cX6_lookAt 57 = .ok (.iinc 2 1, 3) := by decide +kernel
theorem dX6_lookAt_60 : decode cX6_lookAt 60 = .ok (.goto (-39), 3) := by decide +kernel
theorem dX6_lookAt_63 : decode cX6_lookAt 63 = .ok (.iconst 0, 1) := by decide +kernel
theorem dX6_lookAt_64 : decode cX6_lookAt 64 = .ok (.istore_n 2, 1) := by decide +kernel
theorem dX6_lookAt_65 : decode cX6_lookAt 65 = .ok (.iload_n 2, 1) := by decide +kernel
theorem dX6_lookAt_66 : decode cX6_lookAt 66 = .ok (.iconst 4, 1) := by decide +kernel
theorem dX6_lookAt_67 : decode cX6_lookAt 67 = .ok (.if_icmp .ge 16, 3) := by decide +kernel
theorem dX6_lookAt_70 : decode cX6_lookAt 70 = .ok (.aload_n 0, 1) := by decide +kernel
theorem dX6_lookAt_71 : decode cX6_lookAt 71 = .ok (.iload_n 2, 1) := by decide +kernel
theorem dX6_lookAt_72 : decode cX6_lookAt 72 = .ok (.iload_n 2, 1) := by decide +kernel
theorem dX6_lookAt_73 : decode cX6_lookAt 73 = .ok (.iconst (-1), 1) := by decide +kernel
theorem dX6_lookAt_74 : decode cX6_lookAt 74 = .ok (.invokevirtual 77, 3) := by decide +kernel
theorem dX6_lookAt_77 : decode cX6_lookAt 77 = .ok (.iinc 2 1, 3) := by decide +kernel
theorem dX6_lookAt_80 : decode cX6_lookAt 80 = .ok (.goto (-15), 3) := by decide +kernel
theorem dX6_lookAt_83 : decode cX6_lookAt 83 = .ok (.return_, 1) := by decide +kernel
theorem dX6_isWholePost_0 : decode cX6_isWholePost 0 = .ok (.aload_n 0, 1) := by decide +kernel
theorem dX6_isWholePost_1 : decode cX6_isWholePost 1 = .ok (.getfield 26, 3) := by decide +kernel
theorem dX6_isWholePost_4 : decode cX6_isWholePost 4 = .ok (.iload_n 1, 1) := by decide +kernel
theorem dX6_isWholePost_5 : decode cX6_isWholePost 5 = .ok (.baload, 1) := by decide +kernel
theorem dX6_isWholePost_6 : decode cX6_isWholePost 6 = .ok (.ireturn, 1) := by decide +kernel
theorem dX6_isThere_0 : decode cX6_isThere 0 = .ok (.aload_n 0, 1) := by decide +kernel
theorem dX6_isThere_1 : decode cX6_isThere 1 = .ok (.getfield 22, 3) := by decide +kernel
theorem dX6_isThere_4 : decode cX6_isThere 4 = .ok (.iload_n 1, 1) := by decide +kernel
theorem dX6_isThere_5 : decode cX6_isThere 5 = .ok (.invokevirtual 81, 3) := by decide +kernel
theorem dX6_isThere_8 : decode cX6_isThere 8 = .ok (.ireturn, 1) := by decide +kernel
theorem dX6_postsOf_0 : decode cX6_postsOf 0 = .ok (.aload_n 0, 1) := by decide +kernel
theorem dX6_postsOf_1 : decode cX6_postsOf 1 = .ok (.getfield 22, 3) := by decide +kernel
theorem dX6_postsOf_4 : decode cX6_postsOf 4 = .ok (.iload_n 1, 1) := by decide +kernel
theorem dX6_postsOf_5 : decode cX6_postsOf 5 = .ok (.invokevirtual 84, 3) := by decide +kernel
theorem dX6_postsOf_8 : decode cX6_postsOf 8 = .ok (.ireturn, 1) := by decide +kernel
theorem dX6_dayValue_0 : decode cX6_dayValue 0 = .ok (.aload_n 0, 1) := by decide +kernel
theorem dX6_dayValue_1 : decode cX6_dayValue 1 = .ok (.getfield 22, 3) := by decide +kernel
theorem dX6_dayValue_4 : decode cX6_dayValue 4 = .ok (.iload_n 1, 1) := by decide +kernel
theorem dX6_dayValue_5 : decode cX6_dayValue 5 = .ok (.iload_n 2, 1) := by decide +kernel
theorem dX6_dayValue_6 : decode cX6_dayValue 6 = .ok (.invokevirtual 88, 3) := by decide +kernel
theorem dX6_dayValue_9 : decode cX6_dayValue 9 = .ok (.ireturn, 1) := by decide +kernel
theorem dX6_sampleSizeOf_0 : decode cX6_sampleSizeOf 0 = .ok (.aload_n 0, 1) := by decide +kernel
theorem dX6_sampleSizeOf_1 : decode cX6_sampleSizeOf 1 = .ok (.iload_n 1, 1) := by decide +kernel
theorem dX6_sampleSizeOf_2 : decode cX6_sampleSizeOf 2 = .ok (.aload_n 0, 1) := by decide +kernel
theorem dX6_sampleSizeOf_3 : decode cX6_sampleSizeOf 3 = .ok (.iload_n 1, 1) := by decide +kernel
theorem dX6_sampleSizeOf_4 : decode cX6_sampleSizeOf 4 = .ok (.invokevirtual 92, 3) := by decide +kernel
theorem dX6_sampleSizeOf_7 : decode cX6_sampleSizeOf 7 = .ok (.invokevirtual 95, 3) := by decide +kernel
theorem dX6_sampleSizeOf_10 : decode cX6_sampleSizeOf 10 = .ok (.aload_n 0, 1) := by decide +kernel
theorem dX6_sampleSizeOf_11 : decode cX6_sampleSizeOf 11 = .ok (.getfield 37, 3) := by decide +kernel
theorem dX6_sampleSizeOf_14 : decode cX6_sampleSizeOf 14 = .ok (.ireturn, 1) := by decide +kernel
theorem dX6_groupAtRank_0 : decode cX6_groupAtRank 0 = .ok (.aload_n 0, 1) := by decide +kernel
theorem dX6_groupAtRank_1 : decode cX6_groupAtRank 1 = .ok (.iload_n 1, 1) := by decide +kernel
theorem dX6_groupAtRank_2 : decode cX6_groupAtRank 2 = .ok (.aload_n 0, 1) := by decide +kernel
theorem dX6_groupAtRank_3 : decode cX6_groupAtRank 3 = .ok (.iload_n 1, 1) := by decide +kernel
theorem dX6_groupAtRank_4 : decode cX6_groupAtRank 4 = .ok (.invokevirtual 92, 3) := by decide +kernel
theorem dX6_groupAtRank_7 : decode cX6_groupAtRank 7 = .ok (.invokevirtual 95, 3) := by decide +kernel
theorem dX6_groupAtRank_10 : decode cX6_groupAtRank 10 = .ok (.iconst 0, 1) := by decide +kernel
theorem dX6_groupAtRank_11 : decode cX6_groupAtRank 11 = .ok (.istore_n 3, 1) := by decide +kernel
theorem dX6_groupAtRank_12 : decode cX6_groupAtRank 12 = .ok (.iload_n 3, 1) := by decide +kernel
theorem dX6_groupAtRank_13 : decode cX6_groupAtRank 13 = .ok (.iconst 4, 1) := by decide +kernel
theorem dX6_groupAtRank_14 : decode cX6_groupAtRank 14 = .ok (.if_icmp .ge 14, 3) := by decide +kernel
theorem dX6_groupAtRank_17 : decode cX6_groupAtRank 17 = .ok (.aload_n 0, 1) := by decide +kernel
theorem dX6_groupAtRank_18 : decode cX6_groupAtRank 18 = .ok (.iload_n 3, 1) := by decide +kernel
theorem dX6_groupAtRank_19 : decode cX6_groupAtRank 19 = .ok (.invokevirtual 99, 3) := by decide +kernel
theorem dX6_groupAtRank_22 : decode cX6_groupAtRank 22 = .ok (.iinc 3 1, 3) := by decide +kernel
theorem dX6_groupAtRank_25 : decode cX6_groupAtRank 25 = .ok (.goto (-13), 3) := by decide +kernel
theorem dX6_groupAtRank_28 : decode cX6_groupAtRank 28 = .ok (.iconst 0, 1) := by decide +kernel
theorem dX6_groupAtRank_29 : decode cX6_groupAtRank 29 = .ok (.istore_n 3, 1) := by decide +kernel
theorem dX6_groupAtRank_30 : decode cX6_groupAtRank 30 = .ok (.iload_n 3, 1) := by decide +kernel
theorem dX6_groupAtRank_31 : decode cX6_groupAtRank 31 = .ok (.iconst 4, 1) := by decide +kernel
theorem dX6_groupAtRank_32 : decode cX6_groupAtRank 32 = .ok (.if_icmp .ge 28, 3) := by decide +kernel
theorem dX6_groupAtRank_35 : decode cX6_groupAtRank 35 = .ok (.aload_n 0, 1) := by decide +kernel
theorem dX6_groupAtRank_36 : decode cX6_groupAtRank 36 = .ok (.iload_n 3, 1) := by decide +kernel
theorem dX6_groupAtRank_37 : decode cX6_groupAtRank 37 = .ok (.invokevirtual 103, 3) := by decide +kernel
theorem dX6_groupAtRank_40 : decode cX6_groupAtRank 40 = .ok (.ifCond .eq 14, 3) := by decide +kernel
theorem dX6_groupAtRank_43 : decode cX6_groupAtRank 43 = .ok (.aload_n 0, 1) := by decide +kernel
theorem dX6_groupAtRank_44 : decode cX6_groupAtRank 44 = .ok (.iload_n 3, 1) := by decide +kernel
theorem dX6_groupAtRank_45 : decode cX6_groupAtRank 45 = .ok (.invokevirtual 106, 3) := by decide +kernel
theorem dX6_groupAtRank_48 : decode cX6_groupAtRank 48 = .ok (.iload_n 2, 1) := by decide +kernel
theorem dX6_groupAtRank_49 : decode cX6_groupAtRank 49 = .ok (.if_icmp .ne 5, 3) := by decide +kernel
theorem dX6_groupAtRank_52 : decode cX6_groupAtRank 52 = .ok (.iload_n 3, 1) := by decide +kernel
theorem dX6_groupAtRank_53 : decode cX6_groupAtRank 53 = .ok (.ireturn, 1) := by decide +kernel
theorem dX6_groupAtRank_54 : decode cX6_groupAtRank 54 = .ok (.iinc 3 1, 3) := by decide +kernel
theorem dX6_groupAtRank_57 : decode cX6_groupAtRank 57 = .ok (.goto (-27), 3) := by decide +kernel
theorem dX6_groupAtRank_60 : decode cX6_groupAtRank 60 = .ok (.iconst (-1), 1) := by decide +kernel
theorem dX6_groupAtRank_61 : decode cX6_groupAtRank 61 = .ok (.ireturn, 1) := by decide +kernel
theorem dX6_putYear_0 : decode cX6_putYear 0 = .ok (.aload_n 0, 1) := by decide +kernel
theorem dX6_putYear_1 : decode cX6_putYear 1 = .ok (.getfield 26, 3) := by decide +kernel
theorem dX6_putYear_4 : decode cX6_putYear 4 = .ok (.iload_n 1, 1) := by decide +kernel
theorem dX6_putYear_5 : decode cX6_putYear 5 = .ok (.baload, 1) := by decide +kernel
theorem dX6_putYear_6 : decode cX6_putYear 6 = .ok (.ifCond .eq 16, 3) := by decide +kernel
theorem dX6_putYear_9 : decode cX6_putYear 9 = .ok (.aload_n 2, 1) := by decide +kernel
theorem dX6_putYear_10 : decode cX6_putYear 10 = .ok (.aload_n 0, 1) := by decide +kernel
theorem dX6_putYear_11 : decode cX6_putYear 11 = .ok (.iload_n 1, 1) := by decide +kernel
theorem dX6_putYear_12 : decode cX6_putYear 12 = .ok (.invokevirtual 109, 3) := by decide +kernel
theorem dX6_putYear_15 : decode cX6_putYear 15 = .ok (.i2l, 1) := by decide +kernel
theorem dX6_putYear_16 : decode cX6_putYear 16 = .ok (.lconst 1, 1) := by decide +kernel
theorem dX6_putYear_17 : decode cX6_putYear 17 = .ok (.invokevirtual 112, 3) := by decide +kernel
theorem dX6_putYear_20 : decode cX6_putYear 20 = .ok (.iconst 1, 1) := by decide +kernel
theorem dX6_putYear_21 : decode cX6_putYear 21 = .ok (.ireturn, 1) := by decide +kernel
theorem dX6_putYear_22 : decode cX6_putYear 22 = .ok (.aload_n 0, 1) := by decide +kernel
theorem dX6_putYear_23 : decode cX6_putYear 23 = .ok (.iload_n 1, 1) := by decide +kernel
theorem dX6_putYear_24 : decode cX6_putYear 24 = .ok (.iconst 0, 1) := by decide +kernel
theorem dX6_putYear_25 : decode cX6_putYear 25 = .ok (.invokevirtual 116, 3) := by decide +kernel
theorem dX6_putYear_28 : decode cX6_putYear 28 = .ok (.istore_n 3, 1) := by decide +kernel
theorem dX6_putYear_29 : decode cX6_putYear 29 = .ok (.iload_n 3, 1) := by decide +kernel
theorem dX6_putYear_30 : decode cX6_putYear 30 = .ok (.iconst (-1), 1) := by decide +kernel
theorem dX6_putYear_31 : decode cX6_putYear 31 = .ok (.if_icmp .ne 5, 3) := by decide +kernel
theorem dX6_putYear_34 : decode cX6_putYear 34 = .ok (.iconst 0, 1) := by decide +kernel
theorem dX6_putYear_35 : decode cX6_putYear 35 = .ok (.ireturn, 1) := by decide +kernel
theorem dX6_putYear_36 : decode cX6_putYear 36 = .ok (.aload_n 0, 1) := by decide +kernel
theorem dX6_putYear_37 : decode cX6_putYear 37 = .ok (.iload_n 3, 1) := by decide +kernel
theorem dX6_putYear_38 : decode cX6_putYear 38 = .ok (.aload_n 2, 1) := by decide +kernel
theorem dX6_putYear_39 : decode cX6_putYear 39 = .ok (.invokevirtual 119, 3) := by decide +kernel
theorem dX6_putYear_42 : decode cX6_putYear 42 = .ok (.iconst 1, 1) := by decide +kernel
theorem dX6_putYear_43 : decode cX6_putYear 43 = .ok (.ireturn, 1) := by decide +kernel
theorem dX6_putTrial_0 : decode cX6_putTrial 0 = .ok (.aload_n 0, 1) := by decide +kernel
theorem dX6_putTrial_1 : decode cX6_putTrial 1 = .ok (.getfield 26, 3) := by decide +kernel
theorem dX6_putTrial_4 : decode cX6_putTrial 4 = .ok (.iload_n 1, 1) := by decide +kernel
theorem dX6_putTrial_5 : decode cX6_putTrial 5 = .ok (.baload, 1) := by decide +kernel
theorem dX6_putTrial_6 : decode cX6_putTrial 6 = .ok (.ifCond .ne 5, 3) := by decide +kernel
theorem dX6_putTrial_9 : decode cX6_putTrial 9 = .ok (.iconst 0, 1) := by decide +kernel
theorem dX6_putTrial_10 : decode cX6_putTrial 10 = .ok (.ireturn, 1) := by decide +kernel
theorem dX6_putTrial_11 : decode cX6_putTrial 11 = .ok (.aload_n 0, 1) := by decide +kernel
theorem dX6_putTrial_12 : decode cX6_putTrial 12 = .ok (.iconst 4, 1) := by decide +kernel
theorem dX6_putTrial_13 : decode cX6_putTrial 13 = .ok (.aload_n 0, 1) := by decide +kernel
theorem dX6_putTrial_14 : decode cX6_putTrial 14 = .ok (.getfield 9, 3) := by decide +kernel
theorem dX6_putTrial_17 : decode cX6_putTrial 17 = .ok (.iload_n 1, 1) := by decide +kernel
theorem dX6_putTrial_18 : decode cX6_putTrial 18 = .ok (.invokevirtual 123, 3) := by decide +kernel
theorem dX6_putTrial_21 : decode cX6_putTrial 21 = .ok (.iload_n 1, 1) := by decide +kernel
theorem dX6_putTrial_22 : decode cX6_putTrial 22 = .ok (.invokevirtual 77, 3) := by decide +kernel
theorem dX6_putTrial_25 : decode cX6_putTrial 25 = .ok (.aload_n 0, 1) := by decide +kernel
theorem dX6_putTrial_26 : decode cX6_putTrial 26 = .ok (.iload_n 1, 1) := by decide +kernel
theorem dX6_putTrial_27 : decode cX6_putTrial 27 = .ok (.bipush 7, 2) := by decide +kernel
theorem dX6_putTrial_29 : decode cX6_putTrial 29 = .ok (.invokevirtual 95, 3) := by decide +kernel
theorem dX6_putTrial_32 : decode cX6_putTrial 32 = .ok (.aload_n 0, 1) := by decide +kernel
theorem dX6_putTrial_33 : decode cX6_putTrial 33 = .ok (.iconst 4, 1) := by decide +kernel
theorem dX6_putTrial_34 : decode cX6_putTrial 34 = .ok (.invokevirtual 99, 3) := by decide +kernel
theorem dX6_putTrial_37 : decode cX6_putTrial 37 = .ok (.aload_n 0, 1) := by decide +kernel
theorem dX6_putTrial_38 : decode cX6_putTrial 38 = .ok (.iconst 4, 1) := by decide +kernel
theorem dX6_putTrial_39 : decode cX6_putTrial 39 = .ok (.invokevirtual 103, 3) := by decide +kernel
theorem dX6_putTrial_42 : decode cX6_putTrial 42 = .ok (.ifCond .ne 5, 3) := by decide +kernel
theorem dX6_putTrial_45 : decode cX6_putTrial 45 = .ok (.iconst 0, 1) := by decide +kernel
theorem dX6_putTrial_46 : decode cX6_putTrial 46 = .ok (.ireturn, 1) := by decide +kernel
theorem dX6_putTrial_47 : decode cX6_putTrial 47 = .ok (.aload_n 0, 1) := by decide +kernel
theorem dX6_putTrial_48 : decode cX6_putTrial 48 = .ok (.iconst 4, 1) := by decide +kernel
theorem dX6_putTrial_49 : decode cX6_putTrial 49 = .ok (.aload_n 2, 1) := by decide +kernel
theorem dX6_putTrial_50 : decode cX6_putTrial 50 = .ok (.invokevirtual 119, 3) := by decide +kernel
theorem dX6_putTrial_53 : decode cX6_putTrial 53 = .ok (.iconst 1, 1) := by decide +kernel
theorem dX6_putTrial_54 : decode cX6_putTrial 54 = .ok (.ireturn, 1) := by decide +kernel
theorem dX6_findFlows_0 : decode cX6_findFlows 0 = .ok (.aload_n 0, 1) := by decide +kernel
theorem dX6_findFlows_1 : decode cX6_findFlows 1 = .ok (.getfield 61, 3) := by decide +kernel
theorem dX6_findFlows_4 : decode cX6_findFlows 4 = .ok (.ifCond .eq 4, 3) := by decide +kernel
theorem dX6_findFlows_7 : decode cX6_findFlows 7 = .ok (.return_, 1) := by decide +kernel
theorem dX6_findFlows_8 : decode cX6_findFlows 8 = .ok (.iconst 0, 1) := by decide +kernel
theorem dX6_findFlows_9 : decode cX6_findFlows 9 = .ok (.istore_n 1, 1) := by decide +kernel
theorem dX6_findFlows_10 : decode cX6_findFlows 10 = .ok (.iload_n 1, 1) := by decide +kernel
theorem dX6_findFlows_11 : decode cX6_findFlows 11 = .ok (.bipush 16, 2) := by decide +kernel
theorem dX6_findFlows_13 : decode cX6_findFlows 13 = .ok (.if_icmp .ge 103, 3) := by decide +kernel
theorem dX6_findFlows_16 : decode cX6_findFlows 16 = .ok (.aload_n 0, 1) := by decide +kernel
theorem dX6_findFlows_17 : decode cX6_findFlows 17 = .ok (.getfield 9, 3) := by decide +kernel
theorem dX6_findFlows_20 : decode cX6_findFlows 20 = .ok (.iload_n 1, 1) := by decide +kernel
theorem dX6_findFlows_21 : decode cX6_findFlows 21 = .ok (.invokevirtual 126, 3) := by decide +kernel
theorem dX6_findFlows_24 : decode cX6_findFlows 24 = .ok (.ifCond .eq 19, 3) := by decide +kernel
theorem dX6_findFlows_27 : decode cX6_findFlows 27 = .ok (.aload_n 0, 1) := by decide +kernel
theorem dX6_findFlows_28 : decode cX6_findFlows 28 = .ok (.iload_n 1, 1) := by decide +kernel
theorem dX6_findFlows_29 : decode cX6_findFlows 29 = .ok (.aload_n 0, 1) := by decide +kernel
theorem dX6_findFlows_30 : decode cX6_findFlows 30 = .ok (.getfield 57, 3) := by decide +kernel
theorem dX6_findFlows_33 : decode cX6_findFlows 33 = .ok (.invokevirtual 129, 3) := by decide +kernel
theorem dX6_findFlows_36 : decode cX6_findFlows 36 = .ok (.ifCond .eq 7, 3) := by decide +kernel
theorem dX6_findFlows_39 : decode cX6_findFlows 39 = .ok (.iconst 1, 1) := by decide +kernel
theorem dX6_findFlows_40 : decode cX6_findFlows 40 = .ok (.goto 4, 3) := by decide +kernel
theorem dX6_findFlows_43 : decode cX6_findFlows 43 = .ok (.iconst 0, 1) := by decide +kernel
theorem dX6_findFlows_44 : decode cX6_findFlows 44 = .ok (.istore_n 2, 1) := by decide +kernel
theorem dX6_findFlows_45 : decode cX6_findFlows 45 = .ok (.iload_n 2, 1) := by decide +kernel
theorem dX6_findFlows_46 : decode cX6_findFlows 46 = .ok (.ifCond .eq 13, 3) := by decide +kernel
theorem dX6_findFlows_49 : decode cX6_findFlows 49 = .ok (.aload_n 0, 1) := by decide +kernel
theorem dX6_findFlows_50 : decode cX6_findFlows 50 = .ok (.getfield 57, 3) := by decide +kernel
theorem dX6_findFlows_53 : decode cX6_findFlows 53 = .ok (.invokevirtual 133, 3) := by decide +kernel
theorem dX6_findFlows_56 : decode cX6_findFlows 56 = .ok (.goto 6, 3) := by decide +kernel
theorem dX6_findFlows_59 : decode cX6_findFlows 59 = .ok (.ldc2_w 137, 3) := by decide +kernel
theorem dX6_findFlows_62 : decode cX6_findFlows 62 = .ok (.lstore_n 3, 1) := by decide +kernel
theorem dX6_findFlows_63 : decode cX6_findFlows 63 = .ok (.aload_n 0, 1) := by decide +kernel
theorem dX6_findFlows_64 : decode cX6_findFlows 64 = .ok (.getfield 48, 3) := by decide +kernel
theorem dX6_findFlows_67 : decode cX6_findFlows 67 = .ok (.iload_n 1, 1) := by decide +kernel
theorem dX6_findFlows_68 : decode cX6_findFlows 68 = .ok (.lload_n 3, 1) := by decide +kernel
theorem dX6_findFlows_69 : decode cX6_findFlows 69 = .ok (.ldc2_w 139, 3) := by decide +kernel
theorem dX6_findFlows_72 : decode cX6_findFlows 72 = .ok (.lcmp, 1) := by decide +kernel
theorem dX6_findFlows_73 : decode cX6_findFlows 73 = .ok (.ifCond .gt 8, 3) := by decide +kernel
theorem dX6_findFlows_76 : decode cX6_findFlows 76 = .ok (.lload_n 3, 1) := by decide +kernel
theorem dX6_findFlows_77 : decode cX6_findFlows 77 = .ok (.l2i, 1) := by decide +kernel
theorem dX6_findFlows_78 : decode cX6_findFlows 78 = .ok (.goto 4, 3) := by decide +kernel
theorem dX6_findFlows_81 : decode cX6_findFlows 81 = .ok (.iconst (-1), 1) := by decide +kernel
theorem dX6_findFlows_82 : decode cX6_findFlows 82 = .ok (.iastore, 1) := by decide +kernel
theorem dX6_findFlows_83 : decode cX6_findFlows 83 = .ok (.aload_n 0, 1) := by decide +kernel
theorem dX6_findFlows_84 : decode cX6_findFlows 84 = .ok (.getfield 51, 3) := by decide +kernel
theorem dX6_findFlows_87 : decode cX6_findFlows 87 = .ok (.iload_n 1, 1) := by decide +kernel
theorem dX6_findFlows_88 : decode cX6_findFlows 88 = .ok (.aload_n 0, 1) := by decide +kernel
theorem dX6_findFlows_89 : decode cX6_findFlows 89 = .ok (.getfield 26, 3) := by decide +kernel
theorem dX6_findFlows_92 : decode cX6_findFlows 92 = .ok (.iload_n 1, 1) := by decide +kernel
theorem dX6_findFlows_93 : decode cX6_findFlows 93 = .ok (.baload, 1) := by decide +kernel
theorem dX6_findFlows_94 : decode cX6_findFlows 94 = .ok (.ifCond .eq 7, 3) := by decide +kernel
theorem dX6_findFlows_97 : decode cX6_findFlows 97 = .ok (.iconst 1, 1) := by decide +kernel
theorem dX6_findFlows_98 : decode cX6_findFlows 98 = .ok (.goto 11, 3) := by decide +kernel
theorem dX6_findFlows_101 : decode cX6_findFlows 101 = .ok (.bipush 15, 2) := by decide +kernel
theorem dX6_findFlows_103 : decode cX6_findFlows 103 = .ok (.aload_n 0, 1) := by decide +kernel
theorem dX6_findFlows_104 : decode cX6_findFlows 104 = .ok (.iload_n 1, 1) := by decide +kernel
theorem dX6_findFlows_105 : decode cX6_findFlows 105 = .ok (.invokevirtual 141, 3) := by decide +kernel
theorem dX6_findFlows_108 : decode cX6_findFlows 108 = .ok (.isub, 1) := by decide +kernel
theorem dX6_findFlows_109 : decode cX6_findFlows 109 = .ok (.iastore, 1) := by decide +kernel
theorem dX6_findFlows_110 : decode cX6_findFlows 110 = .ok (.iinc 1 1, 3) := by decide +kernel
theorem dX6_findFlows_113 : decode cX6_findFlows 113 = .ok (.goto (-103), 3) := by decide +kernel
theorem dX6_findFlows_116 : decode cX6_findFlows 116 = .ok (.aload_n 0, 1) := by decide +kernel
theorem dX6_findFlows_117 : decode cX6_findFlows 117 = .ok (.iconst 1, 1) := by decide +kernel
theorem dX6_findFlows_118 : decode cX6_findFlows 118 = .ok (.putfield 61, 3) := by decide +kernel
theorem dX6_findFlows_121 : decode cX6_findFlows 121 = .ok (.return_, 1) := by decide +kernel
theorem dX6_flowOf_0 : decode cX6_flowOf 0 = .ok (.aload_n 0, 1) := by decide +kernel
theorem dX6_flowOf_1 : decode cX6_flowOf 1 = .ok (.getfield 48, 3) := by decide +kernel
theorem dX6_flowOf_4 : decode cX6_flowOf 4 = .ok (.iload_n 1, 1) := by decide +kernel
theorem dX6_flowOf_5 : decode cX6_flowOf 5 = .ok (.iaload, 1) := by decide +kernel
theorem dX6_flowOf_6 : decode cX6_flowOf 6 = .ok (.ireturn, 1) := by decide +kernel
theorem dX6_doubtOf_0 : decode cX6_doubtOf 0 = .ok (.aload_n 0, 1) := by decide +kernel
theorem dX6_doubtOf_1 : decode cX6_doubtOf 1 = .ok (.getfield 51, 3) := by decide +kernel
theorem dX6_doubtOf_4 : decode cX6_doubtOf 4 = .ok (.iload_n 1, 1) := by decide +kernel
theorem dX6_doubtOf_5 : decode cX6_doubtOf 5 = .ok (.iaload, 1) := by decide +kernel
theorem dX6_doubtOf_6 : decode cX6_doubtOf 6 = .ok (.ireturn, 1) := by decide +kernel
theorem dX6_sampleLimit_0 : decode cX6_sampleLimit 0 = .ok (.aload_n 0, 1) := by decide +kernel
theorem dX6_sampleLimit_1 : decode cX6_sampleLimit 1 = .ok (.getfield 26, 3) := by decide +kernel
theorem dX6_sampleLimit_4 : decode cX6_sampleLimit 4 = .ok (.iload_n 1, 1) := by decide +kernel
theorem dX6_sampleLimit_5 : decode cX6_sampleLimit 5 = .ok (.baload, 1) := by decide +kernel
theorem dX6_sampleLimit_6 : decode cX6_sampleLimit 6 = .ok (.ifCond .eq 7, 3) := by decide +kernel
theorem dX6_sampleLimit_9 : decode cX6_sampleLimit 9 = .ok (.iconst 0, 1) := by decide +kernel
theorem dX6_sampleLimit_10 : decode cX6_sampleLimit 10 = .ok (.goto 5, 3) := by decide +kernel
theorem dX6_sampleLimit_13 : decode cX6_sampleLimit 13 = .ok (.bipush 14, 2) := by decide +kernel
theorem dX6_sampleLimit_15 : decode cX6_sampleLimit 15 = .ok (.ireturn, 1) := by decide +kernel
theorem dX6_isSeenAllTheYear_0 : decode cX6_isSeenAllTheYear 0 = .ok (.iconst 0, 1) := by decide +kernel
theorem dX6_isSeenAllTheYear_1 : decode cX6_isSeenAllTheYear 1 = .ok (.istore_n 2, 1) := by decide +kernel
theorem dX6_isSeenAllTheYear_2 : decode cX6_isSeenAllTheYear 2 = .ok (.iload_n 2, 1) := by decide +kernel
theorem dX6_isSeenAllTheYear_3 : decode cX6_isSeenAllTheYear 3 = .ok (.bipush 84, 2) := by decide +kernel
theorem dX6_isSeenAllTheYear_5 : decode cX6_isSeenAllTheYear 5 = .ok (.if_icmp .ge 31, 3) := by decide +kernel
theorem dX6_isSeenAllTheYear_8 : decode cX6_isSeenAllTheYear 8 = .ok (.aload_n 0, 1) := by decide +kernel
theorem dX6_isSeenAllTheYear_9 : decode cX6_isSeenAllTheYear 9 = .ok (.getfield 15, 3) := by decide +kernel
theorem dX6_isSeenAllTheYear_12 : decode cX6_isSeenAllTheYear 12 = .ok (.iload_n 1, 1) := by decide +kernel
theorem dX6_isSeenAllTheYear_13 : decode cX6_isSeenAllTheYear 13 = .ok (.bipush 84, 2) := by decide +kernel
theorem dX6_isSeenAllTheYear_15 : decode cX6_isSeenAllTheYear 15 = .ok (.imul, 1) := by decide +kernel
theorem dX6_isSeenAllTheYear_16 : decode cX6_isSeenAllTheYear 16 = .ok (.iload_n 2, 1) := by decide +kernel
theorem dX6_isSeenAllTheYear_17 : decode cX6_isSeenAllTheYear 17 = .ok (.iadd, 1) := by decide +kernel
theorem dX6_isSeenAllTheYear_18 : decode cX6_isSeenAllTheYear 18 = .ok (.aload_n 0, 1) := by decide +kernel
theorem dX6_isSeenAllTheYear_19 : decode cX6_isSeenAllTheYear 19 = .ok (.getfield 65, 3) := by decide +kernel
theorem dX6_isSeenAllTheYear_22 : decode cX6_isSeenAllTheYear 22 = .ok (.invokevirtual 144, 3) := by decide +kernel
theorem dX6_isSeenAllTheYear_25 : decode cX6_isSeenAllTheYear 25 = .ok (.ifCond .ge 5, 3) := by decide +kernel
theorem dX6_isSeenAllTheYear_28 : decode cX6_isSeenAllTheYear 28 = .ok (.iconst 0, 1) := by decide +kernel
theorem dX6_isSeenAllTheYear_29 : decode cX6_isSeenAllTheYear 29 = .ok (.ireturn, 1) := by decide +kernel
theorem dX6_isSeenAllTheYear_30 : decode cX6_isSeenAllTheYear 30 = .ok (.iinc 2 1, 3) := by decide +kernel
theorem dX6_isSeenAllTheYear_33 : decode cX6_isSeenAllTheYear 33 = .ok (.goto (-31), 3) := by decide +kernel
theorem dX6_isSeenAllTheYear_36 : decode cX6_isSeenAllTheYear 36 = .ok (.iconst 1, 1) := by decide +kernel
theorem dX6_isSeenAllTheYear_37 : decode cX6_isSeenAllTheYear 37 = .ok (.ireturn, 1) := by decide +kernel
theorem dX6_tallyGroup_0 : decode cX6_tallyGroup 0 = .ok (.aload_n 0, 1) := by decide +kernel
theorem dX6_tallyGroup_1 : decode cX6_tallyGroup 1 = .ok (.getfield 22, 3) := by decide +kernel
theorem dX6_tallyGroup_4 : decode cX6_tallyGroup 4 = .ok (.iload_n 1, 1) := by decide +kernel
theorem dX6_tallyGroup_5 : decode cX6_tallyGroup 5 = .ok (.invokevirtual 149, 3) := by decide +kernel
theorem dX6_tallyGroup_8 : decode cX6_tallyGroup 8 = .ok (.iconst 0, 1) := by decide +kernel
theorem dX6_tallyGroup_9 : decode cX6_tallyGroup 9 = .ok (.istore 4, 2) := by decide +kernel
theorem dX6_tallyGroup_11 : decode cX6_tallyGroup 11 = .ok (.iload 4, 2) := by decide +kernel
theorem dX6_tallyGroup_13 : decode cX6_tallyGroup 13 = .ok (.bipush 16, 2) := by decide +kernel
theorem dX6_tallyGroup_15 : decode cX6_tallyGroup 15 = .ok (.if_icmp .ge 56, 3) := by decide +kernel
theorem dX6_tallyGroup_18 : decode cX6_tallyGroup 18 = .ok (.iload 4, 2) := by decide +kernel
theorem dX6_tallyGroup_20 : decode cX6_tallyGroup 20 = .ok (.iload_n 3, 1) := by decide +kernel
theorem dX6_tallyGroup_21 : decode cX6_tallyGroup 21 = .ok (.if_icmp .eq 44, 3) := by decide +kernel
theorem dX6_tallyGroup_24 : decode cX6_tallyGroup 24 = .ok (.aload_n 0, 1) := by decide +kernel
theorem dX6_tallyGroup_25 : decode cX6_tallyGroup 25 = .ok (.getfield 26, 3) := by decide +kernel
theorem dX6_tallyGroup_28 : decode cX6_tallyGroup 28 = .ok (.iload 4, 2) := by decide +kernel
theorem dX6_tallyGroup_30 : decode cX6_tallyGroup 30 = .ok (.baload, 1) := by decide +kernel
theorem dX6_tallyGroup_31 : decode cX6_tallyGroup 31 = .ok (.ifCond .eq 34, 3) := by decide +kernel
theorem dX6_tallyGroup_34 : decode cX6_tallyGroup 34 = .ok (.aload_n 0, 1) := by decide +kernel
theorem dX6_tallyGroup_35 : decode cX6_tallyGroup 35 = .ok (.getfield 9, 3) := by decide +kernel
theorem dX6_tallyGroup_38 : decode cX6_tallyGroup 38 = .ok (.iload 4, 2) := by decide +kernel
theorem dX6_tallyGroup_40 : decode cX6_tallyGroup 40 = .ok (.invokevirtual 123, 3) := by decide +kernel
theorem dX6_tallyGroup_43 : decode cX6_tallyGroup 43 = .ok (.iload_n 2, 1) := by decide +kernel
theorem dX6_tallyGroup_44 : decode cX6_tallyGroup 44 = .ok (.if_icmp .ne 21, 3) := by decide +kernel
theorem dX6_tallyGroup_47 : decode cX6_tallyGroup 47 = .ok (.aload_n 0, 1) := by decide +kernel
theorem dX6_tallyGroup_48 : decode cX6_tallyGroup 48 = .ok (.getfield 22, 3) := by decide +kernel
theorem dX6_tallyGroup_51 : decode cX6_tallyGroup 51 = .ok (.iload_n 1, 1) := by decide +kernel
theorem dX6_tallyGroup_52 : decode cX6_tallyGroup 52 = .ok (.invokevirtual 152, 3) := by decide +kernel
theorem dX6_tallyGroup_55 : decode cX6_tallyGroup 55 = .ok (.ifCond .ne 10, 3) := by decide +kernel
theorem dX6_tallyGroup_58 : decode cX6_tallyGroup 58 = .ok (.aload_n 0, 1) := by decide +kernel
theorem dX6_tallyGroup_59 : decode cX6_tallyGroup 59 = .ok (.iload_n 1, 1) := by decide +kernel
theorem dX6_tallyGroup_60 : decode cX6_tallyGroup 60 = .ok (.iload 4, 2) := by decide +kernel
theorem dX6_tallyGroup_62 : decode cX6_tallyGroup 62 = .ok (.invokevirtual 155, 3) := by decide +kernel
theorem dX6_tallyGroup_65 : decode cX6_tallyGroup 65 = .ok (.iinc 4 1, 3) := by decide +kernel
theorem dX6_tallyGroup_68 : decode cX6_tallyGroup 68 = .ok (.goto (-57), 3) := by decide +kernel
theorem dX6_tallyGroup_71 : decode cX6_tallyGroup 71 = .ok (.return_, 1) := by decide +kernel
theorem dX6_tallyPost_0 : decode cX6_tallyPost 0 = .ok (.aload_n 0, 1) := by decide +kernel
theorem dX6_tallyPost_1 : decode cX6_tallyPost 1 = .ok (.getfield 22, 3) := by decide +kernel
theorem dX6_tallyPost_4 : decode cX6_tallyPost 4 = .ok (.iload_n 1, 1) := by decide +kernel
theorem dX6_tallyPost_5 : decode cX6_tallyPost 5 = .ok (.invokevirtual 158, 3) := by decide +kernel
theorem dX6_tallyPost_8 : decode cX6_tallyPost 8 = .ok (.iconst 0, 1) := by decide +kernel
theorem dX6_tallyPost_9 : decode cX6_tallyPost 9 = .ok (.istore_n 3, 1) := by decide +kernel
theorem dX6_tallyPost_10 : decode cX6_tallyPost 10 = .ok (.iload_n 3, 1) := by decide +kernel
theorem dX6_tallyPost_11 : decode cX6_tallyPost 11 = .ok (.bipush 84, 2) := by decide +kernel
theorem dX6_tallyPost_13 : decode cX6_tallyPost 13 = .ok (.if_icmp .ge 35, 3) := by decide +kernel
theorem dX6_tallyPost_16 : decode cX6_tallyPost 16 = .ok (.aload_n 0, 1) := by decide +kernel
theorem dX6_tallyPost_17 : decode cX6_tallyPost 17 = .ok (.getfield 22, 3) := by decide +kernel
theorem dX6_tallyPost_20 : decode cX6_tallyPost 20 = .ok (.iload_n 1, 1) := by decide +kernel
theorem dX6_tallyPost_21 : decode cX6_tallyPost 21 = .ok (.iload_n 3, 1) := by decide +kernel
theorem dX6_tallyPost_22 : decode cX6_tallyPost 22 = .ok (.aload_n 0, 1) := by decide +kernel
theorem dX6_tallyPost_23 : decode cX6_tallyPost 23 = .ok (.getfield 15, 3) := by decide +kernel
theorem dX6_tallyPost_26 : decode cX6_tallyPost 26 = .ok (.iload_n 2, 1) := by decide +kernel
theorem dX6_tallyPost_27 : decode cX6_tallyPost 27 = .ok (.bipush 84, 2) := by decide +kernel
theorem dX6_tallyPost_29 : decode cX6_tallyPost 29 = .ok (.imul, 1) := by decide +kernel
theorem dX6_tallyPost_30 : decode cX6_tallyPost 30 = .ok (.iload_n 3, 1) := by decide +kernel
theorem dX6_tallyPost_31 : decode cX6_tallyPost 31 = .ok (.iadd, 1) := by decide +kernel
theorem dX6_tallyPost_32 : decode cX6_tallyPost 32 = .ok (.aload_n 0, 1) := by decide +kernel
theorem dX6_tallyPost_33 : decode cX6_tallyPost 33 = .ok (.getfield 65, 3) := by decide +kernel
theorem dX6_tallyPost_36 : decode cX6_tallyPost 36 = .ok (.invokevirtual 144, 3) := by decide +kernel
theorem dX6_tallyPost_39 : decode cX6_tallyPost 39 = .ok (.invokevirtual 161, 3) := by decide +kernel
theorem dX6_tallyPost_42 : decode cX6_tallyPost 42 = .ok (.iinc 3 1, 3) := by decide +kernel
theorem dX6_tallyPost_45 : decode cX6_tallyPost 45 = .ok (.goto (-35), 3) := by decide +kernel
theorem dX6_tallyPost_48 : decode cX6_tallyPost 48 = .ok (.return_, 1) := by decide +kernel
theorem dX6_sumOfCounts_0 : decode cX6_sumOfCounts 0 = .ok (.iconst 0, 1) := by decide +kernel
theorem dX6_sumOfCounts_1 : decode cX6_sumOfCounts 1 = .ok (.istore_n 2, 1) := by decide +kernel
theorem dX6_sumOfCounts_2 : decode cX6_sumOfCounts 2 = .ok (.iconst 0, 1) := by decide +kernel
theorem dX6_sumOfCounts_3 : decode cX6_sumOfCounts 3 = .ok (.istore_n 3, 1) := by decide +kernel
theorem dX6_sumOfCounts_4 : decode cX6_sumOfCounts 4 = .ok (.iload_n 3, 1) := by decide +kernel
theorem dX6_sumOfCounts_5 : decode cX6_sumOfCounts 5 = .ok (.bipush 84, 2) := by decide +kernel
theorem dX6_sumOfCounts_7 : decode cX6_sumOfCounts 7 = .ok (.if_icmp .ge 29, 3) := by decide +kernel
theorem dX6_sumOfCounts_10 : decode cX6_sumOfCounts 10 = .ok (.iload_n 2, 1) := by decide +kernel
theorem dX6_sumOfCounts_11 : decode cX6_sumOfCounts 11 = .ok (.aload_n 0, 1) := by decide +kernel
theorem dX6_sumOfCounts_12 : decode cX6_sumOfCounts 12 = .ok (.getfield 15, 3) := by decide +kernel
theorem dX6_sumOfCounts_15 : decode cX6_sumOfCounts 15 = .ok (.iload_n 1, 1) := by decide +kernel
theorem dX6_sumOfCounts_16 : decode cX6_sumOfCounts 16 = .ok (.bipush 84, 2) := by decide +kernel
theorem dX6_sumOfCounts_18 : decode cX6_sumOfCounts 18 = .ok (.imul, 1) := by decide +kernel
theorem dX6_sumOfCounts_19 : decode cX6_sumOfCounts 19 = .ok (.iload_n 3, 1) := by decide +kernel
theorem dX6_sumOfCounts_20 : decode cX6_sumOfCounts 20 = .ok (.iadd, 1) := by decide +kernel
theorem dX6_sumOfCounts_21 : decode cX6_sumOfCounts 21 = .ok (.aload_n 0, 1) := by decide +kernel
theorem dX6_sumOfCounts_22 : decode cX6_sumOfCounts 22 = .ok (.getfield 65, 3) := by decide +kernel
theorem dX6_sumOfCounts_25 : decode cX6_sumOfCounts 25 = .ok (.invokevirtual 144, 3) := by decide +kernel
theorem dX6_sumOfCounts_28 : decode cX6_sumOfCounts 28 = .ok (.iadd, 1) := by decide +kernel
theorem dX6_sumOfCounts_29 : decode cX6_sumOfCounts 29 = .ok (.istore_n 2, 1) := by decide +kernel
theorem dX6_sumOfCounts_30 : decode cX6_sumOfCounts 30 = .ok (.iinc 3 1, 3) := by decide +kernel
theorem dX6_sumOfCounts_33 : decode cX6_sumOfCounts 33 = .ok (.goto (-29), 3) := by decide +kernel
theorem dX6_sumOfCounts_36 : decode cX6_sumOfCounts 36 = .ok (.iload_n 2, 1) := by decide +kernel
theorem dX6_sumOfCounts_37 : decode cX6_sumOfCounts 37 = .ok (.ireturn, 1) := by decide +kernel
theorem dX6_drawDays_0 : decode cX6_drawDays 0 = .ok (.aload_n 0, 1) := by decide +kernel
theorem dX6_drawDays_1 : decode cX6_drawDays 1 = .ok (.iconst 0, 1) := by decide +kernel
theorem dX6_drawDays_2 : decode cX6_drawDays 2 = .ok (.putfield 37, 3) := by decide +kernel
theorem dX6_drawDays_5 : decode cX6_drawDays 5 = .ok (.iconst 0, 1) := by decide +kernel
theorem dX6_drawDays_6 : decode cX6_drawDays 6 = .ok (.istore_n 3, 1) := by decide +kernel
theorem dX6_drawDays_7 : decode cX6_drawDays 7 = .ok (.iload_n 3, 1) := by decide +kernel
theorem dX6_drawDays_8 : decode cX6_drawDays 8 = .ok (.bipush 84, 2) := by decide +kernel
theorem dX6_drawDays_10 : decode cX6_drawDays 10 = .ok (.if_icmp .ge 72, 3) := by decide +kernel
theorem dX6_drawDays_13 : decode cX6_drawDays 13 = .ok (.aload_n 0, 1) := by decide +kernel
theorem dX6_drawDays_14 : decode cX6_drawDays 14 = .ok (.getfield 37, 3) := by decide +kernel
theorem dX6_drawDays_17 : decode cX6_drawDays 17 = .ok (.iload_n 2, 1) := by decide +kernel
theorem dX6_drawDays_18 : decode cX6_drawDays 18 = .ok (.if_icmp .ge 64, 3) := by decide +kernel
theorem dX6_drawDays_21 : decode cX6_drawDays 21 = .ok (.aload_n 0, 1) := by decide +kernel
theorem dX6_drawDays_22 : decode cX6_drawDays 22 = .ok (.getfield 15, 3) := by decide +kernel
theorem dX6_drawDays_25 : decode cX6_drawDays 25 = .ok (.iload_n 1, 1) := by decide +kernel
theorem dX6_drawDays_26 : decode cX6_drawDays 26 = .ok (.bipush 84, 2) := by decide +kernel
theorem dX6_drawDays_28 : decode cX6_drawDays 28 = .ok (.imul, 1) := by decide +kernel
theorem dX6_drawDays_29 : decode cX6_drawDays 29 = .ok (.iload_n 3, 1) := by decide +kernel
theorem dX6_drawDays_30 : decode cX6_drawDays 30 = .ok (.iadd, 1) := by decide +kernel
theorem dX6_drawDays_31 : decode cX6_drawDays 31 = .ok (.aload_n 0, 1) := by decide +kernel
theorem dX6_drawDays_32 : decode cX6_drawDays 32 = .ok (.getfield 65, 3) := by decide +kernel
theorem dX6_drawDays_35 : decode cX6_drawDays 35 = .ok (.invokevirtual 144, 3) := by decide +kernel
theorem dX6_drawDays_38 : decode cX6_drawDays 38 = .ok (.istore 4, 2) := by decide +kernel
theorem dX6_drawDays_40 : decode cX6_drawDays 40 = .ok (.iload 4, 2) := by decide +kernel
theorem dX6_drawDays_42 : decode cX6_drawDays 42 = .ok (.ifCond .lt 34, 3) := by decide +kernel
theorem dX6_drawDays_45 : decode cX6_drawDays 45 = .ok (.aload_n 0, 1) := by decide +kernel
theorem dX6_drawDays_46 : decode cX6_drawDays 46 = .ok (.getfield 30, 3) := by decide +kernel
theorem dX6_drawDays_49 : decode cX6_drawDays 49 = .ok (.aload_n 0, 1) := by decide +kernel
theorem dX6_drawDays_50 : decode cX6_drawDays 50 = .ok (.getfield 37, 3) := by decide +kernel
theorem dX6_drawDays_53 : decode cX6_drawDays 53 = .ok (.iload_n 3, 1) := by decide +kernel
theorem dX6_drawDays_54 : decode cX6_drawDays 54 = .ok (.iastore, 1) := by decide +kernel
theorem dX6_drawDays_55 : decode cX6_drawDays 55 = .ok (.aload_n 0, 1) := by decide +kernel
theorem dX6_drawDays_56 : decode cX6_drawDays 56 = .ok (.getfield 34, 3) := by decide +kernel
theorem dX6_drawDays_59 : decode cX6_drawDays 59 = .ok (.aload_n 0, 1) := by decide +kernel
theorem dX6_drawDays_60 : decode cX6_drawDays 60 = .ok (.getfield 37, 3) := by decide +kernel
theorem dX6_drawDays_63 : decode cX6_drawDays 63 = .ok (.iload 4, 2) := by decide +kernel
theorem dX6_drawDays_65 : decode cX6_drawDays 65 = .ok (.iastore, 1) := by decide +kernel
theorem dX6_drawDays_66 : decode cX6_drawDays 66 = .ok (.aload_n 0, 1) := by decide +kernel
theorem dX6_drawDays_67 : decode cX6_drawDays 67 = .ok (.dup, 1) := by decide +kernel
theorem dX6_drawDays_68 : decode cX6_drawDays 68 = .ok (.getfield 37, 3) := by decide +kernel
theorem dX6_drawDays_71 : decode cX6_drawDays 71 = .ok (.iconst 1, 1) := by decide +kernel
theorem dX6_drawDays_72 : decode cX6_drawDays 72 = .ok (.iadd, 1) := by decide +kernel
theorem dX6_drawDays_73 : decode cX6_drawDays 73 = .ok (.putfield 37, 3) := by decide +kernel
theorem dX6_drawDays_76 : decode cX6_drawDays 76 = .ok (.iinc 3 1, 3) := by decide +kernel
theorem dX6_drawDays_79 : decode cX6_drawDays 79 = .ok (.goto (-72), 3) := by decide +kernel
theorem dX6_drawDays_82 : decode cX6_drawDays 82 = .ok (.return_, 1) := by decide +kernel
theorem dX6_weighSample_0 : decode cX6_weighSample 0 = .ok (.aload_n 0, 1) := by decide +kernel
theorem dX6_weighSample_1 : decode cX6_weighSample 1 = .ok (.getfield 41, 3) := by decide +kernel
theorem dX6_weighSample_4 : decode cX6_weighSample 4 = .ok (.iload_n 1, 1) := by decide +kernel
theorem dX6_weighSample_5 : decode cX6_weighSample 5 = .ok (.lconst 0, 1) := by decide +kernel
theorem dX6_weighSample_6 : decode cX6_weighSample 6 = .ok (.lastore, 1) := by decide +kernel
theorem dX6_weighSample_7 : decode cX6_weighSample 7 = .ok (.aload_n 0, 1) := by decide +kernel
theorem dX6_weighSample_8 : decode cX6_weighSample 8 = .ok (.getfield 45, 3) := by decide +kernel
theorem dX6_weighSample_11 : decode cX6_weighSample 11 = .ok (.iload_n 1, 1) := by decide +kernel
theorem dX6_weighSample_12 : decode cX6_weighSample 12 = .ok (.lconst 0, 1) := by decide +kernel
theorem dX6_weighSample_13 : decode cX6_weighSample 13 = .ok (.lastore, 1) := by decide +kernel
theorem dX6_weighSample_14 : decode cX6_weighSample 14 = .ok (.aload_n 0, 1) := by decide +kernel
theorem dX6_weighSample_15 : decode cX6_weighSample 15 = .ok (.getfield 22, 3) := by decide +kernel
theorem dX6_weighSample_18 : decode cX6_weighSample 18 = .ok (.iload_n 1, 1) := by decide +kernel
theorem dX6_weighSample_19 : decode cX6_weighSample 19 = .ok (.invokevirtual 81, 3) := by decide +kernel
theorem dX6_weighSample_22 : decode cX6_weighSample 22 = .ok (.ifCond .eq 65, 3) := by decide +kernel
theorem dX6_weighSample_25 : decode cX6_weighSample 25 = .ok (.iconst 0, 1) := by decide +kernel
theorem dX6_weighSample_26 : decode cX6_weighSample 26 = .ok (.istore_n 2, 1) := by decide +kernel
theorem dX6_weighSample_27 : decode cX6_weighSample 27 = .ok (.iload_n 2, 1) := by decide +kernel
theorem dX6_weighSample_28 : decode cX6_weighSample 28 = .ok (.aload_n 0, 1) := by decide +kernel
theorem dX6_weighSample_29 : decode cX6_weighSample 29 = .ok (.getfield 37, 3) := by decide +kernel
theorem dX6_weighSample_32 : decode cX6_weighSample 32 = .ok (.if_icmp .ge 55, 3) := by decide +kernel
theorem dX6_weighSample_35 : decode cX6_weighSample 35 = .ok (.aload_n 0, 1) := by decide +kernel
theorem dX6_weighSample_36 : decode cX6_weighSample 36 = .ok (.getfield 22, 3) := by decide +kernel
theorem dX6_weighSample_39 : decode cX6_weighSample 39 = .ok (.iload_n 1, 1) := by decide +kernel
theorem dX6_weighSample_40 : decode cX6_weighSample 40 = .ok (.aload_n 0, 1) := by decide +kernel
theorem dX6_weighSample_41 : decode cX6_weighSample 41 = .ok (.getfield 30, 3) := by decide +kernel
theorem dX6_weighSample_44 : decode cX6_weighSample 44 = .ok (.iload_n 2, 1) := by decide +kernel
theorem dX6_weighSample_45 : decode cX6_weighSample 45 = .ok (.iaload, 1) := by decide +kernel
theorem dX6_weighSample_46 : decode cX6_weighSample 46 = .ok (.invokevirtual 88, 3) := by decide +kernel
theorem dX6_weighSample_49 : decode cX6_weighSample 49 = .ok (.i2l, 1) := by decide +kernel
theorem dX6_weighSample_50 : decode cX6_weighSample 50 = .ok (.lstore_n 3, 1) := by decide +kernel
theorem dX6_weighSample_51 : decode cX6_weighSample 51 = .ok (.aload_n 0, 1) := by decide +kernel
theorem dX6_weighSample_52 : decode cX6_weighSample 52 = .ok (.getfield 41, 3) := by decide +kernel
theorem dX6_weighSample_55 : decode cX6_weighSample 55 = .ok (.iload_n 1, 1) := by decide +kernel
theorem dX6_weighSample_56 : decode cX6_weighSample 56 = .ok (.dup2, 1) := by decide +kernel
theorem dX6_weighSample_57 : decode cX6_weighSample 57 = .ok (.laload, 1) := by decide +kernel
theorem dX6_weighSample_58 : decode cX6_weighSample 58 = .ok (.lload_n 3, 1) := by decide +kernel
theorem dX6_weighSample_59 : decode cX6_weighSample 59 = .ok (.aload_n 0, 1) := by decide +kernel
theorem dX6_weighSample_60 : decode cX6_weighSample 60 = .ok (.getfield 34, 3) := by decide +kernel
theorem dX6_weighSample_63 : decode cX6_weighSample 63 = .ok (.iload_n 2, 1) := by decide +kernel
theorem dX6_weighSample_64 : decode cX6_weighSample 64 = .ok (.iaload, 1) := by decide +kernel
theorem dX6_weighSample_65 : decode cX6_weighSample 65 = .ok (.i2l, 1) := by decide +kernel
theorem dX6_weighSample_66 : decode cX6_weighSample 66 = .ok (.lmul, 1) := by decide +kernel
theorem dX6_weighSample_67 : decode cX6_weighSample 67 = .ok (.ladd, 1) := by decide +kernel
theorem dX6_weighSample_68 : decode cX6_weighSample 68 = .ok (.lastore, 1) := by decide +kernel
theorem dX6_weighSample_69 : decode cX6_weighSample 69 = .ok (.aload_n 0, 1) := by decide +kernel
theorem dX6_weighSample_70 : decode cX6_weighSample 70 = .ok (.getfield 45, 3) := by decide +kernel
theorem dX6_weighSample_73 : decode cX6_weighSample 73 = .ok (.iload_n 1, 1) := by decide +kernel
theorem dX6_weighSample_74 : decode cX6_weighSample 74 = .ok (.dup2, 1) := by decide +kernel
theorem dX6_weighSample_75 : decode cX6_weighSample 75 = .ok (.laload, 1) := by decide +kernel
theorem dX6_weighSample_76 : decode cX6_weighSample 76 = .ok (.lload_n 3, 1) := by decide +kernel
theorem dX6_weighSample_77 : decode cX6_weighSample 77 = .ok (.lload_n 3, 1) := by decide +kernel
theorem dX6_weighSample_78 : decode cX6_weighSample 78 = .ok (.lmul, 1) := by decide +kernel
theorem dX6_weighSample_79 : decode cX6_weighSample 79 = .ok (.ladd, 1) := by decide +kernel
theorem dX6_weighSample_80 : decode cX6_weighSample 80 = .ok (.lastore, 1) := by decide +kernel
theorem dX6_weighSample_81 : decode cX6_weighSample 81 = .ok (.iinc 2 1, 3) := by decide +kernel
theorem dX6_weighSample_84 : decode cX6_weighSample 84 = .ok (.goto (-57), 3) := by decide +kernel
theorem dX6_weighSample_87 : decode cX6_weighSample 87 = .ok (.return_, 1) := by decide +kernel
theorem dX6_fits_0 : decode cX6_fits 0 = .ok (.aload_n 0, 1) := by decide +kernel
theorem dX6_fits_1 : decode cX6_fits 1 = .ok (.getfield 45, 3) := by decide +kernel
theorem dX6_fits_4 : decode cX6_fits 4 = .ok (.iload_n 1, 1) := by decide +kernel
theorem dX6_fits_5 : decode cX6_fits 5 = .ok (.laload, 1) := by decide +kernel
theorem dX6_fits_6 : decode cX6_fits 6 = .ok (.lconst 0, 1) := by decide +kernel
theorem dX6_fits_7 : decode cX6_fits 7 = .ok (.lcmp, 1) := by decide +kernel
theorem dX6_fits_8 : decode cX6_fits 8 = .ok (.ifCond .le 7, 3) := by decide +kernel
theorem dX6_fits_11 : decode cX6_fits 11 = .ok (.iconst 1, 1) := by decide +kernel
theorem dX6_fits_12 : decode cX6_fits 12 = .ok (.goto 4, 3) := by decide +kernel
theorem dX6_fits_15 : decode cX6_fits 15 = .ok (.iconst 0, 1) := by decide +kernel
theorem dX6_fits_16 : decode cX6_fits 16 = .ok (.ireturn, 1) := by decide +kernel
theorem dX6_fitsAhead_0 : decode cX6_fitsAhead 0 = .ok (.iconst 0, 1) := by decide +kernel
theorem dX6_fitsAhead_1 : decode cX6_fitsAhead 1 = .ok (.istore_n 2, 1) := by decide +kernel
theorem dX6_fitsAhead_2 : decode cX6_fitsAhead 2 = .ok (.iconst 0, 1) := by decide +kernel
theorem dX6_fitsAhead_3 : decode cX6_fitsAhead 3 = .ok (.istore_n 3, 1) := by decide +kernel
theorem dX6_fitsAhead_4 : decode cX6_fitsAhead 4 = .ok (.iload_n 3, 1) := by decide +kernel
theorem dX6_fitsAhead_5 : decode cX6_fitsAhead 5 = .ok (.iconst 4, 1) := by decide +kernel
theorem dX6_fitsAhead_6 : decode cX6_fitsAhead 6 = .ok (.if_icmp .ge 83, 3) := by decide +kernel
theorem dX6_fitsAhead_9 : decode cX6_fitsAhead 9 = .ok (.iload_n 3, 1) := by decide +kernel
theorem dX6_fitsAhead_10 : decode cX6_fitsAhead 10 = .ok (.iload_n 1, 1) := by decide +kernel
theorem dX6_fitsAhead_11 : decode cX6_fitsAhead 11 = .ok (.if_icmp .eq 72, 3) := by decide +kernel
theorem dX6_fitsAhead_14 : decode cX6_fitsAhead 14 = .ok (.aload_n 0, 1) := by decide +kernel
theorem dX6_fitsAhead_15 : decode cX6_fitsAhead 15 = .ok (.iload_n 3, 1) := by decide +kernel
theorem dX6_fitsAhead_16 : decode cX6_fitsAhead 16 = .ok (.invokevirtual 103, 3) := by decide +kernel
theorem dX6_fitsAhead_19 : decode cX6_fitsAhead 19 = .ok (.ifCond .eq 64, 3) := by decide +kernel
theorem dX6_fitsAhead_22 : decode cX6_fitsAhead 22 = .ok (.aload_n 0, 1) := by decide +kernel
theorem dX6_fitsAhead_23 : decode cX6_fitsAhead 23 = .ok (.getfield 41, 3) := by decide +kernel
theorem dX6_fitsAhead_26 : decode cX6_fitsAhead 26 = .ok (.iload_n 3, 1) := by decide +kernel
theorem dX6_fitsAhead_27 : decode cX6_fitsAhead 27 = .ok (.laload, 1) := by decide +kernel
theorem dX6_fitsAhead_28 : decode cX6_fitsAhead 28 = .ok (.aload_n 0, 1) := by decide +kernel
theorem dX6_fitsAhead_29 : decode cX6_fitsAhead 29 = .ok (.getfield 41, 3) := by decide +kernel
theorem dX6_fitsAhead_32 : decode cX6_fitsAhead 32 = .ok (.iload_n 3, 1) := by decide +kernel
theorem dX6_fitsAhead_33 : decode cX6_fitsAhead 33 = .ok (.laload, 1) := by decide +kernel
theorem dX6_fitsAhead_34 : decode cX6_fitsAhead 34 = .ok (.lmul, 1) := by decide +kernel
theorem dX6_fitsAhead_35 : decode cX6_fitsAhead 35 = .ok (.aload_n 0, 1) := by decide +kernel
theorem dX6_fitsAhead_36 : decode cX6_fitsAhead 36 = .ok (.getfield 45, 3) := by decide +kernel
theorem dX6_fitsAhead_39 : decode cX6_fitsAhead 39 = .ok (.iload_n 3, 1) := by decide +kernel
theorem dX6_fitsAhead_40 : decode cX6_fitsAhead 40 = .ok (.laload, 1) := by decide +kernel
theorem dX6_fitsAhead_41 : decode cX6_fitsAhead 41 = .ok (.aload_n 0, 1) := by decide +kernel
theorem dX6_fitsAhead_42 : decode cX6_fitsAhead 42 = .ok (.getfield 41, 3) := by decide +kernel
theorem dX6_fitsAhead_45 : decode cX6_fitsAhead 45 = .ok (.iload_n 1, 1) := by decide +kernel
theorem dX6_fitsAhead_46 : decode cX6_fitsAhead 46 = .ok (.laload, 1) := by decide +kernel
theorem dX6_fitsAhead_47 : decode cX6_fitsAhead 47 = .ok (.aload_n 0, 1) := by decide +kernel
theorem dX6_fitsAhead_48 : decode cX6_fitsAhead 48 = .ok (.getfield 41, 3) := by decide +kernel
theorem dX6_fitsAhead_51 : decode cX6_fitsAhead 51 = .ok (.iload_n 1, 1) := by decide +kernel
theorem dX6_fitsAhead_52 : decode cX6_fitsAhead 52 = .ok (.laload, 1) := by decide +kernel
theorem dX6_fitsAhead_53 : decode cX6_fitsAhead 53 = .ok (.lmul, 1) := by decide +kernel
theorem dX6_fitsAhead_54 : decode cX6_fitsAhead 54 = .ok (.aload_n 0, 1) := by decide +kernel
theorem dX6_fitsAhead_55 : decode cX6_fitsAhead 55 = .ok (.getfield 45, 3) := by decide +kernel
theorem dX6_fitsAhead_58 : decode cX6_fitsAhead 58 = .ok (.iload_n 1, 1) := by decide +kernel
theorem dX6_fitsAhead_59 : decode cX6_fitsAhead 59 = .ok (.laload, 1) := by decide +kernel
theorem dX6_fitsAhead_60 : decode cX6_fitsAhead 60 = .ok (.invokestatic 164, 3) := by decide +kernel
theorem dX6_fitsAhead_63 : decode cX6_fitsAhead 63 = .ok (.istore 4, 2) := by decide +kernel
theorem dX6_fitsAhead_65 : decode cX6_fitsAhead 65 = .ok (.iload 4, 2) := by decide +kernel
theorem dX6_fitsAhead_67 : decode cX6_fitsAhead 67 = .ok (.ifCond .gt 13, 3) := by decide +kernel
theorem dX6_fitsAhead_70 : decode cX6_fitsAhead 70 = .ok (.iload 4, 2) := by decide +kernel
theorem dX6_fitsAhead_72 : decode cX6_fitsAhead 72 = .ok (.ifCond .ne 11, 3) := by decide +kernel
theorem dX6_fitsAhead_75 : decode cX6_fitsAhead 75 = .ok (.iload_n 3, 1) := by decide +kernel
theorem dX6_fitsAhead_76 : decode cX6_fitsAhead 76 = .ok (.iload_n 1, 1) := by decide +kernel
theorem dX6_fitsAhead_77 : decode cX6_fitsAhead 77 = .ok (.if_icmp .ge 6, 3) := by decide +kernel
theorem dX6_fitsAhead_80 : decode cX6_fitsAhead 80 = .ok (.iinc 2 1, 3) := by decide +kernel
theorem dX6_fitsAhead_83 : decode cX6_fitsAhead 83 = .ok (.iinc 3 1, 3) := by decide +kernel
theorem dX6_fitsAhead_86 : decode cX6_fitsAhead 86 = .ok (.goto (-82), 3) := by decide +kernel
theorem dX6_fitsAhead_89 : decode cX6_fitsAhead 89 = .ok (.iload_n 2, 1) := by decide +kernel
theorem dX6_fitsAhead_90 : decode cX6_fitsAhead 90 = .ok (.ireturn, 1) := by decide +kernel
theorem dX6_putLedYear_0 : decode cX6_putLedYear 0 = .ok (.aload_n 2, 1) := by decide +kernel
theorem dX6_putLedYear_1 : decode cX6_putLedYear 1 = .ok (.aload_n 0, 1) := by decide +kernel
theorem dX6_putLedYear_2 : decode cX6_putLedYear 2 = .ok (.getfield 41, 3) := by decide +kernel
theorem dX6_putLedYear_5 : decode cX6_putLedYear 5 = .ok (.iload_n 1, 1) := by decide +kernel
theorem dX6_putLedYear_6 : decode cX6_putLedYear 6 = .ok (.laload, 1) := by decide +kernel
theorem dX6_putLedYear_7 : decode cX6_putLedYear 7 = .ok (.aload_n 0, 1) := by decide +kernel
theorem dX6_putLedYear_8 : decode cX6_putLedYear 8 = .ok (.getfield 22, 3) := by decide +kernel
theorem dX6_putLedYear_11 : decode cX6_putLedYear 11 = .ok (.iload_n 1, 1) := by decide +kernel
theorem dX6_putLedYear_12 : decode cX6_putLedYear 12 = .ok (.invokevirtual 168, 3) := by decide +kernel
theorem dX6_putLedYear_15 : decode cX6_putLedYear 15 = .ok (.lmul, 1) := by decide +kernel
theorem dX6_putLedYear_16 : decode cX6_putLedYear 16 = .ok (.aload_n 0, 1) := by decide +kernel
theorem dX6_putLedYear_17 : decode cX6_putLedYear 17 = .ok (.getfield 45, 3) := by decide +kernel
theorem dX6_putLedYear_20 : decode cX6_putLedYear 20 = .ok (.iload_n 1, 1) := by decide +kernel
theorem dX6_putLedYear_21 : decode cX6_putLedYear 21 = .ok (.laload, 1) := by decide +kernel
theorem dX6_putLedYear_22 : decode cX6_putLedYear 22 = .ok (.invokevirtual 112, 3) := by decide +kernel
theorem dX6_putLedYear_25 : decode cX6_putLedYear 25 = .ok (.return_, 1) := by decide +kernel
end
section
theorem dX7_init_0 : decode cX7_init 0 = .ok (.aload_n 0, 1) := by decide +kernel
theorem dX7_init_1 : decode cX7_init 1 = .ok (.invokespecial 3, 3) := by decide +kernel
theorem dX7_init_4 : decode cX7_init 4 = .ok (.aload_n 0, 1) := by decide +kernel
theorem dX7_init_5 : decode cX7_init 5 = .ok (.new 9, 3) := by decide +kernel
theorem dX7_init_8 : decode cX7_init 8 = .ok (.dup, 1) := by decide +kernel
theorem dX7_init_9 : decode cX7_init 9 = .ok (.invokespecial 11, 3) := by decide +kernel
theorem dX7_init_12 : decode cX7_init 12 = .ok (.putfield 12, 3) := by decide +kernel
theorem dX7_init_15 : decode cX7_init 15 = .ok (.aload_n 0, 1) := by decide +kernel
theorem dX7_init_16 : decode cX7_init 16 = .ok (.new 16, 3) := by decide +kernel
theorem dX7_init_19 : decode cX7_init 19 = .ok (.dup, 1) := by decide +kernel
theorem dX7_init_20 : decode cX7_init 20 = .ok (.invokespecial 18, 3) := by decide +kernel
theorem dX7_init_23 : decode cX7_init 23 = .ok (.putfield 19, 3) := by decide +kernel
theorem dX7_init_26 : decode cX7_init 26 = .ok (.aload_n 0, 1) := by decide +kernel
theorem dX7_init_27 : decode cX7_init 27 = .ok (.new 23, 3) := by decide +kernel
theorem dX7_init_30 : decode cX7_init 30 = .ok (.dup, 1) := by decide +kernel
theorem dX7_init_31 : decode cX7_init 31 = .ok (.invokespecial 25, 3) := by decide +kernel
theorem dX7_init_34 : decode cX7_init 34 = .ok (.putfield 26, 3) := by decide +kernel
theorem dX7_init_37 : decode cX7_init 37 = .ok (.aload_n 0, 1) := by decide +kernel
theorem dX7_init_38 : decode cX7_init 38 = .ok (.new 30, 3) := by decide +kernel
theorem dX7_init_41 : decode cX7_init 41 = .ok (.dup, 1) := by decide +kernel
theorem dX7_init_42 : decode cX7_init 42 = .ok (.aload_n 0, 1) := by decide +kernel
theorem dX7_init_43 : decode cX7_init 43 = .ok (.getfield 19, 3) := by decide +kernel
theorem dX7_init_46 : decode cX7_init 46 = .ok (.aload_n 0, 1) := by decide +kernel
theorem dX7_init_47 : decode cX7_init 47 = .ok (.getfield 26, 3) := by decide +kernel
theorem dX7_init_50 : decode cX7_init 50 = .ok (.invokespecial 32, 3) := by decide +kernel
theorem dX7_init_53 : decode cX7_init 53 = .ok (.putfield 35, 3) := by decide +kernel
theorem dX7_init_56 : decode cX7_init 56 = .ok (.aload_n 0, 1) := by decide +kernel
theorem dX7_init_57 : decode cX7_init 57 = .ok (.new 39, 3) := by decide +kernel
theorem dX7_init_60 : decode cX7_init 60 = .ok (.dup, 1) := by decide +kernel
theorem dX7_init_61 : decode cX7_init 61 = .ok (.invokespecial 41, 3) := by decide +kernel
theorem dX7_init_64 : decode cX7_init 64 = .ok (.putfield 42, 3) := by decide +kernel
theorem dX7_init_67 : decode cX7_init 67 = .ok (.aload_n 0, 1) := by decide +kernel
theorem dX7_init_68 : decode cX7_init 68 = .ok (.new 46, 3) := by decide +kernel
theorem dX7_init_71 : decode cX7_init 71 = .ok (.dup, 1) := by decide +kernel
theorem dX7_init_72 : decode cX7_init 72 = .ok (.invokespecial 48, 3) := by decide +kernel
theorem dX7_init_75 : decode cX7_init 75 = .ok (.putfield 49, 3) := by decide +kernel
theorem dX7_init_78 : decode cX7_init 78 = .ok (.aload_n 0, 1) := by decide +kernel
theorem dX7_init_79 : decode cX7_init 79 = .ok (.iconst 0, 1) := by decide +kernel
theorem dX7_init_80 : decode cX7_init 80 = .ok (.putfield 53, 3) := by decide +kernel
theorem dX7_init_83 : decode cX7_init 83 = .ok (.return_, 1) := by decide +kernel
theorem dX7_feed_0 : decode cX7_feed 0 = .ok (.aload_n 0, 1) := by decide +kernel
theorem dX7_feed_1 : decode cX7_feed 1 = .ok (.getfield 12, 3) := by decide +kernel
theorem dX7_feed_4 : decode cX7_feed 4 = .ok (.invokevirtual 57, 3) := by decide +kernel
theorem dX7_feed_7 : decode cX7_feed 7 = .ok (.bipush 20, 2) := by decide +kernel
theorem dX7_feed_9 : decode cX7_feed 9 = .ok (.iadd, 1) := by decide +kernel
theorem dX7_feed_10 : decode cX7_feed 10 = .ok (.sipush 200, 3) := by decide +kernel
theorem dX7_feed_13 : decode cX7_feed 13 = .ok (.if_icmp .le 5, 3) := by decide +kernel
theorem dX7_feed_16 : decode cX7_feed 16 = .ok (.iconst (-1), 1) := by decide +kernel
theorem dX7_feed_17 : decode cX7_feed 17 = .ok (.ireturn, 1) := by decide +kernel
theorem dX7_feed_18 : decode cX7_feed 18 = .ok (.aload_n 0, 1) := by decide +kernel
theorem dX7_feed_19 : decode cX7_feed 19 = .ok (.getfield 12, 3) := by decide +kernel
theorem dX7_feed_22 : decode cX7_feed 22 = .ok (.iload_n 1, 1) := by decide +kernel
theorem dX7_feed_23 : decode cX7_feed 23 = .ok (.invokevirtual 61, 3) := by decide +kernel
theorem dX7_feed_26 : decode cX7_feed 26 = .ok (.aload_n 0, 1) := by decide +kernel
theorem dX7_feed_27 : decode cX7_feed 27 = .ok (.getfield 12, 3) := by decide +kernel
theorem dX7_feed_30 : decode cX7_feed 30 = .ok (.iload_n 2, 1) := by decide +kernel
theorem dX7_feed_31 : decode cX7_feed 31 = .ok (.invokevirtual 61, 3) := by decide +kernel
theorem dX7_feed_34 : decode cX7_feed 34 = .ok (.aload_n 0, 1) := by decide +kernel
theorem dX7_feed_35 : decode cX7_feed 35 = .ok (.getfield 12, 3) := by decide +kernel
theorem dX7_feed_38 : decode cX7_feed 38 = .ok (.iload_n 3, 1) := by decide +kernel
theorem dX7_feed_39 : decode cX7_feed 39 = .ok (.invokevirtual 61, 3) := by decide +kernel
theorem dX7_feed_42 : decode cX7_feed 42 = .ok (.aload_n 0, 1) := by decide +kernel
theorem dX7_feed_43 : decode cX7_feed 43 = .ok (.getfield 12, 3) := by decide +kernel
theorem dX7_feed_46 : decode cX7_feed 46 = .ok (.iload 4, 2) := by decide +kernel
theorem dX7_feed_48 : decode cX7_feed 48 = .ok (.invokevirtual 61, 3) := by decide +kernel
theorem dX7_feed_51 : decode cX7_feed 51 = .ok (.aload_n 0, 1) := by decide +kernel
theorem dX7_feed_52 : decode cX7_feed 52 = .ok (.getfield 12, 3) := by decide +kernel
theorem dX7_feed_55 : decode cX7_feed 55 = .ok (.iload 5, 2) := by decide +kernel
theorem dX7_feed_57 : decode cX7_feed 57 = .ok (.invokevirtual 61, 3) := by decide +kernel
theorem dX7_feed_60 : decode cX7_feed 60 = .ok (.aload_n 0, 1) := by decide +kernel
theorem dX7_feed_61 : decode cX7_feed 61 = .ok (.getfield 12, 3) := by decide +kernel
theorem dX7_feed_64 : decode cX7_feed 64 = .ok (.invokevirtual 57, 3) := by decide +kernel
theorem dX7_feed_67 : decode cX7_feed 67 = .ok (.ireturn, 1) := by decide +kernel
theorem dX7_end_0 : decode cX7_end 0 = .ok (.aload_n 0, 1) := by decide +kernel
theorem dX7_end_1 : decode cX7_end 1 = .ok (.getfield 12, 3) := by decide +kernel
theorem dX7_end_4 : decode cX7_end 4 = .ok (.iload_n 1, 1) := by decide +kernel
theorem dX7_end_5 : decode cX7_end 5 = .ok (.invokevirtual 65, 3) := by decide +kernel
theorem dX7_end_8 : decode cX7_end 8 = .ok (.ireturn, 1) := by decide +kernel
theorem dX7_road_0 : decode cX7_road 0 = .ok (.iload_n 1, 1) := by decide +kernel
theorem dX7_road_1 : decode cX7_road 1 = .ok (.bipush 16, 2) := by decide +kernel
theorem dX7_road_3 : decode cX7_road 3 = .ok (.invokestatic 69, 3) := by decide +kernel
theorem dX7_road_6 : decode cX7_road 6 = .ok (.ifCond .eq 14, 3) := by decide +kernel
theorem dX7_road_9 : decode cX7_road 9 = .ok (.aload_n 0, 1) := by decide +kernel
theorem dX7_road_10 : decode cX7_road 10 = .ok (.getfield 19, 3) := by decide +kernel
theorem dX7_road_13 : decode cX7_road 13 = .ok (.iload_n 1, 1) := by decide +kernel
theorem dX7_road_14 : decode cX7_road 14 = .ok (.invokevirtual 73, 3) := by decide +kernel
theorem dX7_road_17 : decode cX7_road 17 = .ok (.ifCond .eq 5, 3) := by decide +kernel
theorem dX7_road_20 : decode cX7_road 20 = .ok (.iconst 0, 1) := by decide +kernel
theorem dX7_road_21 : decode cX7_road 21 = .ok (.ireturn, 1) := by decide +kernel
theorem dX7_road_22 : decode cX7_road 22 = .ok (.iload_n 2, 1) := by decide +kernel
theorem dX7_road_23 : decode cX7_road 23 = .ok (.bipush 8, 2) := by decide +kernel
theorem dX7_road_25 : decode cX7_road 25 = .ok (.invokestatic 69, 3) := by decide +kernel
theorem dX7_road_28 : decode cX7_road 28 = .ok (.ifCond .eq 17, 3) := by decide +kernel
theorem dX7_road_31 : decode cX7_road 31 = .ok (.iload_n 3, 1) := by decide +kernel
theorem dX7_road_32 : decode cX7_road 32 = .ok (.bipush 8, 2) := by decide +kernel
theorem dX7_road_34 : decode cX7_road 34 = .ok (.invokestatic 69, 3) := by decide +kernel
theorem dX7_road_37 : decode cX7_road 37 = .ok (.ifCond .eq 8, 3) := by decide +kernel
theorem dX7_road_40 : decode cX7_road 40 = .ok (.iload_n 2, 1) := by decide +kernel
theorem dX7_road_41 : decode cX7_road 41 = .ok (.iload_n 3, 1) := by decide +kernel
theorem dX7_road_42 : decode cX7_road 42 = .ok (.if_icmp .ne 5, 3) := by decide +kernel
theorem dX7_road_45 : decode cX7_road 45 = .ok (.iconst 0, 1) := by decide +kernel
theorem dX7_road_46 : decode cX7_road 46 = .ok (.ireturn, 1) := by decide +kernel
theorem dX7_road_47 : decode cX7_road 47 = .ok (.iload 4, 2) := by decide +kernel
theorem dX7_road_49 : decode cX7_road 49 = .ok (.iconst (-1), 1) := by decide +kernel
theorem dX7_road_50 : decode cX7_road 50 = .ok (.if_icmp .eq 14, 3) := by decide +kernel
theorem dX7_road_53 : decode cX7_road 53 = .ok (.iload 4, 2) := by decide +kernel
theorem dX7_road_55 : decode cX7_road 55 = .ok (.iconst 4, 1) := by decide +kernel
theorem dX7_road_56 : decode cX7_road 56 = .ok (.invokestatic 69, 3) := by decide +kernel
theorem dX7_road_59 : decode cX7_road 59 = .ok (.ifCond .ne 5, 3) := by decide +kernel
theorem dX7_road_62 : decode cX7_road 62 = .ok (.iconst 0, 1) := by decide +kernel
theorem dX7_road_63 : decode cX7_road 63 = .ok (.ireturn, 1) := by decide +kernel
theorem dX7_road_64 : decode cX7_road 64 = .ok (.aload_n 0, 1) := by decide +kernel
theorem dX7_road_65 : decode cX7_road 65 = .ok (.getfield 19, 3) := by decide +kernel
theorem dX7_road_68 : decode cX7_road 68 = .ok (.iload_n 1, 1) := by decide +kernel
theorem dX7_road_69 : decode cX7_road 69 = .ok (.iload_n 2, 1) := by decide +kernel
theorem dX7_road_70 : decode cX7_road 70 = .ok (.iload_n 3, 1) := by decide +kernel
theorem dX7_road_71 : decode cX7_road 71 = .ok (.iload 4, 2) := by decide +kernel
theorem dX7_road_73 : decode cX7_road 73 = .ok (.invokevirtual 76, 3) := by decide +kernel
theorem dX7_road_76 : decode cX7_road 76 = .ok (.aload_n 0, 1) := by decide +kernel
theorem dX7_road_77 : decode cX7_road 77 = .ok (.getfield 35, 3) := by decide +kernel
theorem dX7_road_80 : decode cX7_road 80 = .ok (.invokevirtual 80, 3) := by decide +kernel
theorem dX7_road_83 : decode cX7_road 83 = .ok (.iconst 1, 1) := by decide +kernel
theorem dX7_road_84 : decode cX7_road 84 = .ok (.ireturn, 1) := by decide +kernel
theorem dX7_count_0 : decode cX7_count 0 = .ok (.aload_n 0, 1) := by decide +kernel
theorem dX7_count_1 : decode cX7_count 1 = .ok (.iload_n 1, 1) := by decide +kernel
theorem dX7_count_2 : decode cX7_count 2 = .ok (.iload_n 2, 1) := by decide +kernel
theorem dX7_count_3 : decode cX7_count 3 = .ok (.invokevirtual 83, 3) := by decide +kernel
theorem dX7_count_6 : decode cX7_count 6 = .ok (.istore_n 3, 1) := by decide +kernel
theorem dX7_count_7 : decode cX7_count 7 = .ok (.aload_n 0, 1) := by decide +kernel
theorem dX7_count_8 : decode cX7_count 8 = .ok (.getfield 12, 3) := by decide +kernel
theorem dX7_count_11 : decode cX7_count 11 = .ok (.iconst 0, 1) := by decide +kernel
theorem dX7_count_12 : decode cX7_count 12 = .ok (.invokevirtual 65, 3) := by decide +kernel
theorem dX7_count_15 : decode cX7_count 15 = .ok (.pop, 1) := by decide +kernel
theorem dX7_count_16 : decode cX7_count 16 = .ok (.aload_n 0, 1) := by decide +kernel
theorem dX7_count_17 : decode cX7_count 17 = .ok (.getfield 35, 3) := by decide +kernel
theorem dX7_count_20 : decode cX7_count 20 = .ok (.invokevirtual 80, 3) := by decide +kernel
theorem dX7_count_23 : decode cX7_count 23 = .ok (.iload_n 3, 1) := by decide +kernel
theorem dX7_count_24 : decode cX7_count 24 = .ok (.ireturn, 1) := by decide +kernel
theorem dX7_counts_0 : decode cX7_counts 0 = .ok (.aload_n 0, 1) := by decide +kernel
theorem dX7_counts_1 : decode cX7_counts 1 = .ok (.iload_n 1, 1) := by decide +kernel
theorem dX7_counts_2 : decode cX7_counts 2 = .ok (.iload_n 2, 1) := by decide +kernel
theorem dX7_counts_3 : decode cX7_counts 3 = .ok (.invokevirtual 87, 3) := by decide +kernel
theorem dX7_counts_6 : decode cX7_counts 6 = .ok (.istore_n 3, 1) := by decide +kernel
theorem dX7_counts_7 : decode cX7_counts 7 = .ok (.aload_n 0, 1) := by decide +kernel
theorem dX7_counts_8 : decode cX7_counts 8 = .ok (.getfield 12, 3) := by decide +kernel
theorem dX7_counts_11 : decode cX7_counts 11 = .ok (.iconst 0, 1) := by decide +kernel
theorem dX7_counts_12 : decode cX7_counts 12 = .ok (.invokevirtual 65, 3) := by decide +kernel
theorem dX7_counts_15 : decode cX7_counts 15 = .ok (.pop, 1) := by decide +kernel
theorem dX7_counts_16 : decode cX7_counts 16 = .ok (.aload_n 0, 1) := by decide +kernel
theorem dX7_counts_17 : decode cX7_counts 17 = .ok (.getfield 35, 3) := by decide +kernel
theorem dX7_counts_20 : decode cX7_counts 20 = .ok (.invokevirtual 80, 3) := by decide +kernel
theorem dX7_counts_23 : decode cX7_counts 23 = .ok (.iload_n 3, 1) := by decide +kernel
theorem dX7_counts_24 : decode cX7_counts 24 = .ok (.ireturn, 1) := by decide +kernel
theorem dX7_later_0 : decode cX7_later 0 = .ok (.aload_n 0, 1) := by decide +kernel
theorem dX7_later_1 : decode cX7_later 1 = .ok (.getfield 53, 3) := by decide +kernel
theorem dX7_later_4 : decode cX7_later 4 = .ok (.bipush 99, 2) := by decide +kernel
theorem dX7_later_6 : decode cX7_later 6 = .ok (.if_icmp .lt 5, 3) := by decide +kernel
theorem dX7_later_9 : decode cX7_later 9 = .ok (.iconst (-1), 1) := by decide +kernel
theorem dX7_later_10 : decode cX7_later 10 = .ok (.ireturn, 1) := by decide +kernel
theorem dX7_later_11 : decode cX7_later 11 = .ok (.aload_n 0, 1) := by decide +kernel
theorem dX7_later_12 : decode cX7_later 12 = .ok (.dup, 1) := by decide +kernel
theorem dX7_later_13 : decode cX7_later 13 = .ok (.getfield 53, 3) := by decide +kernel
theorem dX7_later_16 : decode cX7_later 16 = .ok (.iconst 1, 1) := by decide +kernel
theorem dX7_later_17 : decode cX7_later 17 = .ok (.iadd, 1) := by decide +kernel
theorem dX7_later_18 : decode cX7_later 18 = .ok (.putfield 53, 3) := by decide +kernel
theorem dX7_later_21 : decode cX7_later 21 = .ok (.aload_n 0, 1) := by decide +kernel
theorem dX7_later_22 : decode cX7_later 22 = .ok (.getfield 53, 3) := by decide +kernel
theorem dX7_later_25 : decode cX7_later 25 = .ok (.ireturn, 1) := by decide +kernel
theorem dX7_works_0 : decode cX7_works 0 = .ok (.aload_n 0, 1) := by decide +kernel
theorem dX7_works_1 : decode cX7_works 1 = .ok (.getfield 19, 3) := by decide +kernel
theorem dX7_works_4 : decode cX7_works 4 = .ok (.iload_n 1, 1) := by decide +kernel
theorem dX7_works_5 : decode cX7_works 5 = .ok (.invokevirtual 73, 3) := by decide +kernel
theorem dX7_works_8 : decode cX7_works 8 = .ok (.ifCond .eq 18, 3) := by decide +kernel
theorem dX7_works_11 : decode cX7_works 11 = .ok (.iload_n 2, 1) := by decide +kernel
theorem dX7_works_12 : decode cX7_works 12 = .ok (.ifCond .lt 14, 3) := by decide +kernel
theorem dX7_works_15 : decode cX7_works 15 = .ok (.iload_n 2, 1) := by decide +kernel
theorem dX7_works_16 : decode cX7_works 16 = .ok (.iload_n 3, 1) := by decide +kernel
theorem dX7_works_17 : decode cX7_works 17 = .ok (.if_icmp .gt 9, 3) := by decide +kernel
theorem dX7_works_20 : decode cX7_works 20 = .ok (.iload_n 3, 1) := by decide +kernel
theorem dX7_works_21 : decode cX7_works 21 = .ok (.bipush 84, 2) := by decide +kernel
theorem dX7_works_23 : decode cX7_works 23 = .ok (.if_icmp .le 5, 3) := by decide +kernel
theorem dX7_works_26 : decode cX7_works 26 = .ok (.iconst (-1), 1) := by decide +kernel
theorem dX7_works_27 : decode cX7_works 27 = .ok (.ireturn, 1) := by decide +kernel
theorem dX7_works_28 : decode cX7_works 28 = .ok (.iconst 0, 1) := by decide +kernel
theorem dX7_works_29 : decode cX7_works 29 = .ok (.istore 5, 2) := by decide +kernel
theorem dX7_works_31 : decode cX7_works 31 = .ok (.iload_n 2, 1) := by decide +kernel
theorem dX7_works_32 : decode cX7_works 32 = .ok (.istore 6, 2) := by decide +kernel
theorem dX7_works_34 : decode cX7_works 34 = .ok (.iload 6, 2) := by decide +kernel
theorem dX7_works_36 : decode cX7_works 36 = .ok (.iload_n 3, 1) := by decide +kernel
theorem dX7_works_37 : decode cX7_works 37 = .ok (.if_icmp .ge 31, 3) := by decide +kernel
theorem dX7_works_40 : decode cX7_works 40 = .ok (.aload_n 0, 1) := by decide +kernel
theorem dX7_works_41 : decode cX7_works 41 = .ok (.getfield 26, 3) := by decide +kernel
theorem dX7_works_44 : decode cX7_works 44 = .ok (.iload_n 1, 1) := by decide +kernel
theorem dX7_works_45 : decode cX7_works 45 = .ok (.bipush 84, 2) := by decide +kernel
theorem dX7_works_47 : decode cX7_works 47 = .ok (.imul, 1) := by decide +kernel
theorem dX7_works_48 : decode cX7_works 48 = .ok (.iload 6, 2) := by decide +kernel
theorem dX7_works_50 : decode cX7_works 50 = .ok (.iadd, 1) := by decide +kernel
theorem dX7_works_51 : decode cX7_works 51 = .ok (.iload 4, 2) := by decide +kernel
theorem dX7_works_53 : decode cX7_works 53 = .ok (.invokevirtual 90, 3) := by decide +kernel
theorem dX7_works_56 : decode cX7_works 56 = .ok (.ifCond .eq 6, 3) := by decide +kernel
theorem dX7_works_59 : decode cX7_works 59 = .ok (.iinc 5 1, 3) := by decide +kernel
theorem dX7_works_62 : decode cX7_works 62 = .ok (.iinc 6 1, 3) := by decide +kernel
theorem dX7_works_65 : decode cX7_works 65 = .ok (.goto (-31), 3) := by decide +kernel
theorem dX7_works_68 : decode cX7_works 68 = .ok (.aload_n 0, 1) := by decide +kernel
theorem dX7_works_69 : decode cX7_works 69 = .ok (.getfield 35, 3) := by decide +kernel
theorem dX7_works_72 : decode cX7_works 72 = .ok (.invokevirtual 80, 3) := by decide +kernel
theorem dX7_works_75 : decode cX7_works 75 = .ok (.iload 5, 2) := by decide +kernel
theorem dX7_works_77 : decode cX7_works 77 = .ok (.ireturn, 1) := by decide +kernel
theorem dX7_seen_0 : decode cX7_seen 0 = .ok (.aload_n 0, 1) := by decide +kernel
theorem dX7_seen_1 : decode cX7_seen 1 = .ok (.iload_n 1, 1) := by decide +kernel
theorem dX7_seen_2 : decode cX7_seen 2 = .ok (.iload_n 3, 1) := by decide +kernel
theorem dX7_seen_3 : decode cX7_seen 3 = .ok (.invokevirtual 94, 3) := by decide +kernel
theorem dX7_seen_6 : decode cX7_seen 6 = .ok (.ifCond .eq 12, 3) := by decide +kernel
theorem dX7_seen_9 : decode cX7_seen 9 = .ok (.iload_n 2, 1) := by decide +kernel
theorem dX7_seen_10 : decode cX7_seen 10 = .ok (.bipush 84, 2) := by decide +kernel
theorem dX7_seen_12 : decode cX7_seen 12 = .ok (.invokestatic 69, 3) := by decide +kernel
theorem dX7_seen_15 : decode cX7_seen 15 = .ok (.ifCond .ne 6, 3) := by decide +kernel
theorem dX7_seen_18 : decode cX7_seen 18 = .ok (.bipush (-4), 2) := by decide +kernel
theorem dX7_seen_20 : decode cX7_seen 20 = .ok (.ireturn, 1) := by decide +kernel
theorem dX7_seen_21 : decode cX7_seen 21 = .ok (.aload_n 0, 1) := by decide +kernel
theorem dX7_seen_22 : decode cX7_seen 22 = .ok (.getfield 26, 3) := by decide +kernel
theorem dX7_seen_25 : decode cX7_seen 25 = .ok (.iload_n 1, 1) := by decide +kernel
theorem dX7_seen_26 : decode cX7_seen 26 = .ok (.bipush 84, 2) := by decide +kernel
theorem dX7_seen_28 : decode cX7_seen 28 = .ok (.imul, 1) := by decide +kernel
theorem dX7_seen_29 : decode cX7_seen 29 = .ok (.iload_n 2, 1) := by decide +kernel
theorem dX7_seen_30 : decode cX7_seen 30 = .ok (.iadd, 1) := by decide +kernel
theorem dX7_seen_31 : decode cX7_seen 31 = .ok (.iload_n 3, 1) := by decide +kernel
theorem dX7_seen_32 : decode cX7_seen 32 = .ok (.invokevirtual 97, 3) := by decide +kernel
theorem dX7_seen_35 : decode cX7_seen 35 = .ok (.ireturn, 1) := by decide +kernel
theorem dX7_kind_0 : decode cX7_kind 0 = .ok (.aload_n 0, 1) := by decide +kernel
theorem dX7_kind_1 : decode cX7_kind 1 = .ok (.iload_n 1, 1) := by decide +kernel
theorem dX7_kind_2 : decode cX7_kind 2 = .ok (.iload_n 3, 1) := by decide +kernel
theorem dX7_kind_3 : decode cX7_kind 3 = .ok (.invokevirtual 94, 3) := by decide +kernel
theorem dX7_kind_6 : decode cX7_kind 6 = .ok (.ifCond .eq 21, 3) := by decide +kernel
theorem dX7_kind_9 : decode cX7_kind 9 = .ok (.iload_n 2, 1) := by decide +kernel
theorem dX7_kind_10 : decode cX7_kind 10 = .ok (.bipush 84, 2) := by decide +kernel
theorem dX7_kind_12 : decode cX7_kind 12 = .ok (.invokestatic 69, 3) := by decide +kernel
theorem dX7_kind_15 : decode cX7_kind 15 = .ok (.ifCond .eq 12, 3) := by decide +kernel
theorem dX7_kind_18 : decode cX7_kind 18 = .ok (.iload 4, 2) := by decide +kernel
theorem dX7_kind_20 : decode cX7_kind 20 = .ok (.iconst 3, 1) := by decide +kernel
theorem dX7_kind_21 : decode cX7_kind 21 = .ok (.invokestatic 69, 3) := by decide +kernel
theorem dX7_kind_24 : decode cX7_kind 24 = .ok (.ifCond .ne 5, 3) := by decide +kernel
theorem dX7_kind_27 : decode cX7_kind 27 = .ok (.iconst (-1), 1) := by decide +kernel
theorem dX7_kind_28 : decode cX7_kind 28 = .ok (.ireturn, 1) := by decide +kernel
theorem dX7_kind_29 : decode cX7_kind 29 = .ok (.iload_n 1, 1) := by decide +kernel
theorem dX7_kind_30 : decode cX7_kind 30 = .ok (.bipush 84, 2) := by decide +kernel
theorem dX7_kind_32 : decode cX7_kind 32 = .ok (.imul, 1) := by decide +kernel
theorem dX7_kind_33 : decode cX7_kind 33 = .ok (.iload_n 2, 1) := by decide +kernel
theorem dX7_kind_34 : decode cX7_kind 34 = .ok (.iadd, 1) := by decide +kernel
theorem dX7_kind_35 : decode cX7_kind 35 = .ok (.istore 5, 2) := by decide +kernel
theorem dX7_kind_37 : decode cX7_kind 37 = .ok (.aload_n 0, 1) := by decide +kernel
theorem dX7_kind_38 : decode cX7_kind 38 = .ok (.getfield 26, 3) := by decide +kernel
theorem dX7_kind_41 : decode cX7_kind 41 = .ok (.iload 5, 2) := by decide +kernel
theorem dX7_kind_43 : decode cX7_kind 43 = .ok (.iload_n 3, 1) := by decide +kernel
theorem dX7_kind_44 : decode cX7_kind 44 = .ok (.invokevirtual 97, 3) := by decide +kernel
theorem dX7_kind_47 : decode cX7_kind 47 = .ok (.ifCond .ge 7, 3) := by decide +kernel
theorem dX7_kind_50 : decode cX7_kind 50 = .ok (.iconst (-1), 1) := by decide +kernel
theorem dX7_kind_51 : decode cX7_kind 51 = .ok (.goto 15, 3) := by decide +kernel
theorem dX7_kind_54 : decode cX7_kind 54 = .ok (.aload_n 0, 1) := by decide +kernel
theorem dX7_kind_55 : decode cX7_kind 55 = .ok (.getfield 26, 3) := by decide +kernel
theorem dX7_kind_58 : decode cX7_kind 58 = .ok (.iload 5, 2) := by decide +kernel
theorem dX7_kind_60 : decode cX7_kind 60 = .ok (.iload_n 3, 1) := by decide +kernel
theorem dX7_kind_61 : decode cX7_kind 61 = .ok (.iload 4, 2) := by decide +kernel
theorem dX7_kind_63 : decode cX7_kind 63 = .ok (.invokevirtual 100, 3) := by decide +kernel
theorem dX7_kind_66 : decode cX7_kind 66 = .ok (.ireturn, 1) := by decide +kernel
theorem dX7_whole_0 : decode cX7_whole 0 = .ok (.aload_n 0, 1) := by decide +kernel
theorem dX7_whole_1 : decode cX7_whole 1 = .ok (.iload_n 1, 1) := by decide +kernel
theorem dX7_whole_2 : decode cX7_whole 2 = .ok (.iload_n 2, 1) := by decide +kernel
theorem dX7_whole_3 : decode cX7_whole 3 = .ok (.invokevirtual 94, 3) := by decide +kernel
theorem dX7_whole_6 : decode cX7_whole 6 = .ok (.ifCond .ne 5, 3) := by decide +kernel
theorem dX7_whole_9 : decode cX7_whole 9 = .ok (.iconst (-1), 1) := by decide +kernel
theorem dX7_whole_10 : decode cX7_whole 10 = .ok (.ireturn, 1) := by decide +kernel
theorem dX7_whole_11 : decode cX7_whole 11 = .ok (.aload_n 0, 1) := by decide +kernel
theorem dX7_whole_12 : decode cX7_whole 12 = .ok (.getfield 35, 3) := by decide +kernel
theorem dX7_whole_15 : decode cX7_whole 15 = .ok (.iload_n 2, 1) := by decide +kernel
theorem dX7_whole_16 : decode cX7_whole 16 = .ok (.invokevirtual 104, 3) := by decide +kernel
theorem dX7_whole_19 : decode cX7_whole 19 = .ok (.aload_n 0, 1) := by decide +kernel
theorem dX7_whole_20 : decode cX7_whole 20 = .ok (.getfield 35, 3) := by decide +kernel
theorem dX7_whole_23 : decode cX7_whole 23 = .ok (.iload_n 1, 1) := by decide +kernel
theorem dX7_whole_24 : decode cX7_whole 24 = .ok (.invokevirtual 107, 3) := by decide +kernel
theorem dX7_whole_27 : decode cX7_whole 27 = .ok (.ifCond .eq 7, 3) := by decide +kernel
theorem dX7_whole_30 : decode cX7_whole 30 = .ok (.iconst 1, 1) := by decide +kernel
theorem dX7_whole_31 : decode cX7_whole 31 = .ok (.goto 4, 3) := by decide +kernel
theorem dX7_whole_34 : decode cX7_whole 34 = .ok (.iconst 0, 1) := by decide +kernel
theorem dX7_whole_35 : decode cX7_whole 35 = .ok (.ireturn, 1) := by decide +kernel
theorem dX7_posts_0 : decode cX7_posts 0 = .ok (.iload_n 1, 1) := by decide +kernel
theorem dX7_posts_1 : decode cX7_posts 1 = .ok (.iconst 4, 1) := by decide +kernel
theorem dX7_posts_2 : decode cX7_posts 2 = .ok (.invokestatic 69, 3) := by decide +kernel
theorem dX7_posts_5 : decode cX7_posts 5 = .ok (.ifCond .eq 7, 3) := by decide +kernel
theorem dX7_posts_8 : decode cX7_posts 8 = .ok (.iload_n 2, 1) := by decide +kernel
theorem dX7_posts_9 : decode cX7_posts 9 = .ok (.ifCond .ge 5, 3) := by decide +kernel
theorem dX7_posts_12 : decode cX7_posts 12 = .ok (.iconst (-1), 1) := by decide +kernel
theorem dX7_posts_13 : decode cX7_posts 13 = .ok (.ireturn, 1) := by decide +kernel
theorem dX7_posts_14 : decode cX7_posts 14 = .ok (.aload_n 0, 1) := by decide +kernel
theorem dX7_posts_15 : decode cX7_posts 15 = .ok (.getfield 35, 3) := by decide +kernel
theorem dX7_posts_18 : decode cX7_posts 18 = .ok (.iload_n 2, 1) := by decide +kernel
theorem dX7_posts_19 : decode cX7_posts 19 = .ok (.invokevirtual 104, 3) := by decide +kernel
theorem dX7_posts_22 : decode cX7_posts 22 = .ok (.aload_n 0, 1) := by decide +kernel
theorem dX7_posts_23 : decode cX7_posts 23 = .ok (.getfield 35, 3) := by decide +kernel
theorem dX7_posts_26 : decode cX7_posts 26 = .ok (.iload_n 1, 1) := by decide +kernel
theorem dX7_posts_27 : decode cX7_posts 27 = .ok (.invokevirtual 110, 3) := by decide +kernel
theorem dX7_posts_30 : decode cX7_posts 30 = .ok (.ifCond .eq 14, 3) := by decide +kernel
theorem dX7_posts_33 : decode cX7_posts 33 = .ok (.aload_n 0, 1) := by decide +kernel
theorem dX7_posts_34 : decode cX7_posts 34 = .ok (.getfield 35, 3) := by decide +kernel
theorem dX7_posts_37 : decode cX7_posts 37 = .ok (.iload_n 1, 1) := by decide +kernel
theorem dX7_posts_38 : decode cX7_posts 38 = .ok (.invokevirtual 113, 3) := by decide +kernel
theorem dX7_posts_41 : decode cX7_posts 41 = .ok (.goto 4, 3) := by decide +kernel
theorem dX7_posts_44 : decode cX7_posts 44 = .ok (.iconst 0, 1) := by decide +kernel
theorem dX7_posts_45 : decode cX7_posts 45 = .ok (.ireturn, 1) := by decide +kernel
theorem dX7_worth_0 : decode cX7_worth 0 = .ok (.iload_n 1, 1) := by decide +kernel
theorem dX7_worth_1 : decode cX7_worth 1 = .ok (.iconst 4, 1) := by decide +kernel
theorem dX7_worth_2 : decode cX7_worth 2 = .ok (.invokestatic 69, 3) := by decide +kernel
theorem dX7_worth_5 : decode cX7_worth 5 = .ok (.ifCond .eq 16, 3) := by decide +kernel
theorem dX7_worth_8 : decode cX7_worth 8 = .ok (.iload_n 2, 1) := by decide +kernel
theorem dX7_worth_9 : decode cX7_worth 9 = .ok (.bipush 84, 2) := by decide +kernel
theorem dX7_worth_11 : decode cX7_worth 11 = .ok (.invokestatic 69, 3) := by decide +kernel
theorem dX7_worth_14 : decode cX7_worth 14 = .ok (.ifCond .eq 7, 3) := by decide +kernel
theorem dX7_worth_17 : decode cX7_worth 17 = .ok (.iload_n 3, 1) := by decide +kernel
theorem dX7_worth_18 : decode cX7_worth 18 = .ok (.ifCond .ge 13, 3) := by decide +kernel
theorem dX7_worth_21 : decode cX7_worth 21 = .ok (.new 117, 3) := by decide +kernel
theorem dX7_worth_24 : decode cX7_worth 24 = .ok (.dup, 1) := by decide +kernel
theorem dX7_worth_25 : decode cX7_worth 25 = .ok (.ldc 119, 2) := by decide +kernel
theorem dX7_worth_27 : decode cX7_worth 27 = .ok (.invokespecial 121, 3) := by decide +kernel
theorem dX7_worth_30 : decode cX7_worth 30 = .ok (.athrow, 1) := by decide +kernel
theorem dX7_worth_31 : decode cX7_worth 31 = .ok (.aload_n 0, 1) := by decide +kernel
theorem dX7_worth_32 : decode cX7_worth 32 = .ok (.getfield 35, 3) := by decide +kernel
theorem dX7_worth_35 : decode cX7_worth 35 = .ok (.iload_n 3, 1) := by decide +kernel
theorem dX7_worth_36 : decode cX7_worth 36 = .ok (.invokevirtual 104, 3) := by decide +kernel
theorem dX7_worth_39 : decode cX7_worth 39 = .ok (.aload_n 0, 1) := by decide +kernel
theorem dX7_worth_40 : decode cX7_worth 40 = .ok (.getfield 35, 3) := by decide +kernel
theorem dX7_worth_43 : decode cX7_worth 43 = .ok (.iload_n 1, 1) := by decide +kernel
theorem dX7_worth_44 : decode cX7_worth 44 = .ok (.invokevirtual 110, 3) := by decide +kernel
theorem dX7_worth_47 : decode cX7_worth 47 = .ok (.ifCond .ne 13, 3) := by decide +kernel
theorem dX7_worth_50 : decode cX7_worth 50 = .ok (.new 117, 3) := by decide +kernel
theorem dX7_worth_53 : decode cX7_worth 53 = .ok (.dup, 1) := by decide +kernel
theorem dX7_worth_54 : decode cX7_worth 54 = .ok (.ldc 124, 2) := by decide +kernel
theorem dX7_worth_56 : decode cX7_worth 56 = .ok (.invokespecial 121, 3) := by decide +kernel
theorem dX7_worth_59 : decode cX7_worth 59 = .ok (.athrow, 1) := by decide +kernel
theorem dX7_worth_60 : decode cX7_worth 60 = .ok (.aload_n 0, 1) := by decide +kernel
theorem dX7_worth_61 : decode cX7_worth 61 = .ok (.getfield 35, 3) := by decide +kernel
theorem dX7_worth_64 : decode cX7_worth 64 = .ok (.iload_n 1, 1) := by decide +kernel
theorem dX7_worth_65 : decode cX7_worth 65 = .ok (.iload_n 2, 1) := by decide +kernel
theorem dX7_worth_66 : decode cX7_worth 66 = .ok (.invokevirtual 126, 3) := by decide +kernel
theorem dX7_worth_69 : decode cX7_worth 69 = .ok (.ireturn, 1) := by decide +kernel
theorem dX7_sample_0 : decode cX7_sample 0 = .ok (.aload_n 0, 1) := by decide +kernel
theorem dX7_sample_1 : decode cX7_sample 1 = .ok (.iload_n 1, 1) := by decide +kernel
theorem dX7_sample_2 : decode cX7_sample 2 = .ok (.iload_n 2, 1) := by decide +kernel
theorem dX7_sample_3 : decode cX7_sample 3 = .ok (.invokevirtual 94, 3) := by decide +kernel
theorem dX7_sample_6 : decode cX7_sample 6 = .ok (.ifCond .ne 5, 3) := by decide +kernel
theorem dX7_sample_9 : decode cX7_sample 9 = .ok (.iconst (-1), 1) := by decide +kernel
theorem dX7_sample_10 : decode cX7_sample 10 = .ok (.ireturn, 1) := by decide +kernel
theorem dX7_sample_11 : decode cX7_sample 11 = .ok (.aload_n 0, 1) := by decide +kernel
theorem dX7_sample_12 : decode cX7_sample 12 = .ok (.getfield 35, 3) := by decide +kernel
theorem dX7_sample_15 : decode cX7_sample 15 = .ok (.iload_n 2, 1) := by decide +kernel
theorem dX7_sample_16 : decode cX7_sample 16 = .ok (.invokevirtual 104, 3) := by decide +kernel
theorem dX7_sample_19 : decode cX7_sample 19 = .ok (.aload_n 0, 1) := by decide +kernel
theorem dX7_sample_20 : decode cX7_sample 20 = .ok (.getfield 35, 3) := by decide +kernel
theorem dX7_sample_23 : decode cX7_sample 23 = .ok (.iload_n 1, 1) := by decide +kernel
theorem dX7_sample_24 : decode cX7_sample 24 = .ok (.invokevirtual 129, 3) := by decide +kernel
theorem dX7_sample_27 : decode cX7_sample 27 = .ok (.ireturn, 1) := by decide +kernel
theorem dX7_fit_0 : decode cX7_fit 0 = .ok (.aload_n 0, 1) := by decide +kernel
theorem dX7_fit_1 : decode cX7_fit 1 = .ok (.iload_n 1, 1) := by decide +kernel
theorem dX7_fit_2 : decode cX7_fit 2 = .ok (.iload_n 3, 1) := by decide +kernel
theorem dX7_fit_3 : decode cX7_fit 3 = .ok (.invokevirtual 94, 3) := by decide +kernel
theorem dX7_fit_6 : decode cX7_fit 6 = .ok (.ifCond .ne 5, 3) := by decide +kernel
theorem dX7_fit_9 : decode cX7_fit 9 = .ok (.iconst (-1), 1) := by decide +kernel
theorem dX7_fit_10 : decode cX7_fit 10 = .ok (.ireturn, 1) := by decide +kernel
theorem dX7_fit_11 : decode cX7_fit 11 = .ok (.aload_n 0, 1) := by decide +kernel
theorem dX7_fit_12 : decode cX7_fit 12 = .ok (.getfield 35, 3) := by decide +kernel
theorem dX7_fit_15 : decode cX7_fit 15 = .ok (.iload_n 3, 1) := by decide +kernel
theorem dX7_fit_16 : decode cX7_fit 16 = .ok (.invokevirtual 104, 3) := by decide +kernel
theorem dX7_fit_19 : decode cX7_fit 19 = .ok (.aload_n 0, 1) := by decide +kernel
theorem dX7_fit_20 : decode cX7_fit 20 = .ok (.getfield 35, 3) := by decide +kernel
theorem dX7_fit_23 : decode cX7_fit 23 = .ok (.iload_n 1, 1) := by decide +kernel
theorem dX7_fit_24 : decode cX7_fit 24 = .ok (.iload_n 2, 1) := by decide +kernel
theorem dX7_fit_25 : decode cX7_fit 25 = .ok (.invokevirtual 132, 3) := by decide +kernel
theorem dX7_fit_28 : decode cX7_fit 28 = .ok (.ireturn, 1) := by decide +kernel
theorem dX7_year_0 : decode cX7_year 0 = .ok (.aload_n 0, 1) := by decide +kernel
theorem dX7_year_1 : decode cX7_year 1 = .ok (.iload_n 1, 1) := by decide +kernel
theorem dX7_year_2 : decode cX7_year 2 = .ok (.iload_n 2, 1) := by decide +kernel
theorem dX7_year_3 : decode cX7_year 3 = .ok (.invokevirtual 94, 3) := by decide +kernel
theorem dX7_year_6 : decode cX7_year 6 = .ok (.ifCond .eq 10, 3) := by decide +kernel
theorem dX7_year_9 : decode cX7_year 9 = .ok (.iload_n 3, 1) := by decide +kernel
theorem dX7_year_10 : decode cX7_year 10 = .ok (.invokestatic 135, 3) := by decide +kernel
theorem dX7_year_13 : decode cX7_year 13 = .ok (.ifCond .ne 13, 3) := by decide +kernel
theorem dX7_year_16 : decode cX7_year 16 = .ok (.new 117, 3) := by decide +kernel
theorem dX7_year_19 : decode cX7_year 19 = .ok (.dup, 1) := by decide +kernel
theorem dX7_year_20 : decode cX7_year 20 = .ok (.ldc 138, 2) := by decide +kernel
theorem dX7_year_22 : decode cX7_year 22 = .ok (.invokespecial 121, 3) := by decide +kernel
theorem dX7_year_25 : decode cX7_year 25 = .ok (.athrow, 1) := by decide +kernel
theorem dX7_year_26 : decode cX7_year 26 = .ok (.aload_n 0, 1) := by decide +kernel
theorem dX7_year_27 : decode cX7_year 27 = .ok (.getfield 35, 3) := by decide +kernel
theorem dX7_year_30 : decode cX7_year 30 = .ok (.iload_n 2, 1) := by decide +kernel
theorem dX7_year_31 : decode cX7_year 31 = .ok (.invokevirtual 104, 3) := by decide +kernel
theorem dX7_year_34 : decode cX7_year 34 = .ok (.aload_n 0, 1) := by decide +kernel
theorem dX7_year_35 : decode cX7_year 35 = .ok (.getfield 35, 3) := by decide +kernel
theorem dX7_year_38 : decode cX7_year 38 = .ok (.iload_n 1, 1) := by decide +kernel
theorem dX7_year_39 : decode cX7_year 39 = .ok (.aload_n 0, 1) := by decide +kernel
theorem dX7_year_40 : decode cX7_year 40 = .ok (.getfield 49, 3) := by decide +kernel
theorem dX7_year_43 : decode cX7_year 43 = .ok (.invokevirtual 140, 3) := by decide +kernel
theorem dX7_year_46 : decode cX7_year 46 = .ok (.ifCond .ne 13, 3) := by decide +kernel
theorem dX7_year_49 : decode cX7_year 49 = .ok (.new 117, 3) := by decide +kernel
theorem dX7_year_52 : decode cX7_year 52 = .ok (.dup, 1) := by decide +kernel
theorem dX7_year_53 : decode cX7_year 53 = .ok (.ldc 144, 2) := by decide +kernel
theorem dX7_year_55 : decode cX7_year 55 = .ok (.invokespecial 121, 3) := by decide +kernel
theorem dX7_year_58 : decode cX7_year 58 = .ok (.athrow, 1) := by decide +kernel
theorem dX7_year_59 : decode cX7_year 59 = .ok (.aload_n 0, 1) := by decide +kernel
theorem dX7_year_60 : decode cX7_year 60 = .ok (.getfield 49, 3) := by decide +kernel
theorem dX7_year_63 : decode cX7_year 63 = .ok (.iload_n 3, 1) := by decide +kernel
theorem dX7_year_64 : decode cX7_year 64 = .ok (.invokevirtual 146, 3) := by decide +kernel
theorem dX7_year_67 : decode cX7_year 67 = .ok (.lreturn, 1) := by decide +kernel
theorem dX7_trial_0 : decode cX7_trial 0 = .ok (.aload_n 0, 1) := by decide +kernel
theorem dX7_trial_1 : decode cX7_trial 1 = .ok (.iload_n 1, 1) := by decide +kernel
theorem dX7_trial_2 : decode cX7_trial 2 = .ok (.iload_n 2, 1) := by decide +kernel
theorem dX7_trial_3 : decode cX7_trial 3 = .ok (.invokevirtual 94, 3) := by decide +kernel
theorem dX7_trial_6 : decode cX7_trial 6 = .ok (.ifCond .eq 10, 3) := by decide +kernel
theorem dX7_trial_9 : decode cX7_trial 9 = .ok (.iload_n 3, 1) := by decide +kernel
theorem dX7_trial_10 : decode cX7_trial 10 = .ok (.invokestatic 135, 3) := by decide +kernel
theorem dX7_trial_13 : decode cX7_trial 13 = .ok (.ifCond .ne 13, 3) := by decide +kernel
theorem dX7_trial_16 : decode cX7_trial 16 = .ok (.new 117, 3) := by decide +kernel
theorem dX7_trial_19 : decode cX7_trial 19 = .ok (.dup, 1) := by decide +kernel
theorem dX7_trial_20 : decode cX7_trial 20 = .ok (.ldc 138, 2) := by decide +kernel
theorem dX7_trial_22 : decode cX7_trial 22 = .ok (.invokespecial 121, 3) := by decide +kernel
theorem dX7_trial_25 : decode cX7_trial 25 = .ok (.athrow, 1) := by decide +kernel
theorem dX7_trial_26 : decode cX7_trial 26 = .ok (.aload_n 0, 1) := by decide +kernel
theorem dX7_trial_27 : decode cX7_trial 27 = .ok (.getfield 35, 3) := by decide +kernel
theorem dX7_trial_30 : decode cX7_trial 30 = .ok (.iload_n 2, 1) := by decide +kernel
theorem dX7_trial_31 : decode cX7_trial 31 = .ok (.invokevirtual 104, 3) := by decide +kernel
theorem dX7_trial_34 : decode cX7_trial 34 = .ok (.aload_n 0, 1) := by decide +kernel
theorem dX7_trial_35 : decode cX7_trial 35 = .ok (.getfield 35, 3) := by decide +kernel
theorem dX7_trial_38 : decode cX7_trial 38 = .ok (.iload_n 1, 1) := by decide +kernel
theorem dX7_trial_39 : decode cX7_trial 39 = .ok (.aload_n 0, 1) := by decide +kernel
theorem dX7_trial_40 : decode cX7_trial 40 = .ok (.getfield 49, 3) := by decide +kernel
theorem dX7_trial_43 : decode cX7_trial 43 = .ok (.invokevirtual 150, 3) := by decide +kernel
theorem dX7_trial_46 : decode cX7_trial 46 = .ok (.ifCond .ne 13, 3) := by decide +kernel
theorem dX7_trial_49 : decode cX7_trial 49 = .ok (.new 117, 3) := by decide +kernel
theorem dX7_trial_52 : decode cX7_trial 52 = .ok (.dup, 1) := by decide +kernel
theorem dX7_trial_53 : decode cX7_trial 53 = .ok (.ldc 153, 2) := by decide +kernel
theorem dX7_trial_55 : decode cX7_trial 55 = .ok (.invokespecial 121, 3) := by decide +kernel
theorem dX7_trial_58 : decode cX7_trial 58 = .ok (.athrow, 1) := by decide +kernel
theorem dX7_trial_59 : decode cX7_trial 59 = .ok (.aload_n 0, 1) := by decide +kernel
theorem dX7_trial_60 : decode cX7_trial 60 = .ok (.getfield 49, 3) := by decide +kernel
theorem dX7_trial_63 : decode cX7_trial 63 = .ok (.iload_n 3, 1) := by decide +kernel
theorem dX7_trial_64 : decode cX7_trial 64 = .ok (.invokevirtual 146, 3) := by decide +kernel
theorem dX7_trial_67 : decode cX7_trial 67 = .ok (.lreturn, 1) := by decide +kernel
theorem dX7_flow_0 : decode cX7_flow 0 = .ok (.aload_n 0, 1) := by decide +kernel
theorem dX7_flow_1 : decode cX7_flow 1 = .ok (.iload_n 1, 1) := by decide +kernel
theorem dX7_flow_2 : decode cX7_flow 2 = .ok (.iload_n 2, 1) := by decide +kernel
theorem dX7_flow_3 : decode cX7_flow 3 = .ok (.invokevirtual 94, 3) := by decide +kernel
theorem dX7_flow_6 : decode cX7_flow 6 = .ok (.ifCond .ne 5, 3) := by decide +kernel
theorem dX7_flow_9 : decode cX7_flow 9 = .ok (.iconst (-1), 1) := by decide +kernel
theorem dX7_flow_10 : decode cX7_flow 10 = .ok (.ireturn, 1) := by decide +kernel
theorem dX7_flow_11 : decode cX7_flow 11 = .ok (.aload_n 0, 1) := by decide +kernel
theorem dX7_flow_12 : decode cX7_flow 12 = .ok (.getfield 35, 3) := by decide +kernel
theorem dX7_flow_15 : decode cX7_flow 15 = .ok (.iload_n 2, 1) := by decide +kernel
theorem dX7_flow_16 : decode cX7_flow 16 = .ok (.invokevirtual 104, 3) := by decide +kernel
theorem dX7_flow_19 : decode cX7_flow 19 = .ok (.aload_n 0, 1) := by decide +kernel
theorem dX7_flow_20 : decode cX7_flow 20 = .ok (.getfield 35, 3) := by decide +kernel
theorem dX7_flow_23 : decode cX7_flow 23 = .ok (.invokevirtual 155, 3) := by decide +kernel
theorem dX7_flow_26 : decode cX7_flow 26 = .ok (.aload_n 0, 1) := by decide +kernel
theorem dX7_flow_27 : decode cX7_flow 27 = .ok (.getfield 35, 3) := by decide +kernel
theorem dX7_flow_30 : decode cX7_flow 30 = .ok (.iload_n 1, 1) := by decide +kernel
theorem dX7_flow_31 : decode cX7_flow 31 = .ok (.invokevirtual 158, 3) := by decide +kernel
theorem dX7_flow_34 : decode cX7_flow 34 = .ok (.ireturn, 1) := by decide +kernel
theorem dX7_missing_0 : decode cX7_missing 0 = .ok (.iload_n 1, 1) := by decide +kernel
theorem dX7_missing_1 : decode cX7_missing 1 = .ok (.bipush 8, 2) := by decide +kernel
theorem dX7_missing_3 : decode cX7_missing 3 = .ok (.invokestatic 69, 3) := by decide +kernel
theorem dX7_missing_6 : decode cX7_missing 6 = .ok (.ifCond .eq 7, 3) := by decide +kernel
theorem dX7_missing_9 : decode cX7_missing 9 = .ok (.iload_n 2, 1) := by decide +kernel
theorem dX7_missing_10 : decode cX7_missing 10 = .ok (.ifCond .ge 13, 3) := by decide +kernel
theorem dX7_missing_13 : decode cX7_missing 13 = .ok (.new 117, 3) := by decide +kernel
theorem dX7_missing_16 : decode cX7_missing 16 = .ok (.dup, 1) := by decide +kernel
theorem dX7_missing_17 : decode cX7_missing 17 = .ok (.ldc 161, 2) := by decide +kernel
theorem dX7_missing_19 : decode cX7_missing 19 = .ok (.invokespecial 121, 3) := by decide +kernel
theorem dX7_missing_22 : decode cX7_missing 22 = .ok (.athrow, 1) := by decide +kernel
theorem dX7_missing_23 : decode cX7_missing 23 = .ok (.aload_n 0, 1) := by decide +kernel
theorem dX7_missing_24 : decode cX7_missing 24 = .ok (.getfield 35, 3) := by decide +kernel
theorem dX7_missing_27 : decode cX7_missing 27 = .ok (.iload_n 2, 1) := by decide +kernel
theorem dX7_missing_28 : decode cX7_missing 28 = .ok (.invokevirtual 104, 3) := by decide +kernel
theorem dX7_missing_31 : decode cX7_missing 31 = .ok (.aload_n 0, 1) := by decide +kernel
theorem dX7_missing_32 : decode cX7_missing 32 = .ok (.getfield 35, 3) := by decide +kernel
theorem dX7_missing_35 : decode cX7_missing 35 = .ok (.invokevirtual 155, 3) := by decide +kernel
theorem dX7_missing_38 : decode cX7_missing 38 = .ok (.aload_n 0, 1) := by decide +kernel
theorem dX7_missing_39 : decode cX7_missing 39 = .ok (.iload_n 1, 1) := by decide +kernel
theorem dX7_missing_40 : decode cX7_missing 40 = .ok (.invokevirtual 163, 3) := by decide +kernel
theorem dX7_missing_43 : decode cX7_missing 43 = .ok (.ireturn, 1) := by decide +kernel
theorem dX7_agreed_0 : decode cX7_agreed 0 = .ok (.aload_n 0, 1) := by decide +kernel
theorem dX7_agreed_1 : decode cX7_agreed 1 = .ok (.iload_n 1, 1) := by decide +kernel
theorem dX7_agreed_2 : decode cX7_agreed 2 = .ok (.iload_n 2, 1) := by decide +kernel
theorem dX7_agreed_3 : decode cX7_agreed 3 = .ok (.invokevirtual 94, 3) := by decide +kernel
theorem dX7_agreed_6 : decode cX7_agreed 6 = .ok (.ifCond .eq 10, 3) := by decide +kernel
theorem dX7_agreed_9 : decode cX7_agreed 9 = .ok (.iload_n 3, 1) := by decide +kernel
theorem dX7_agreed_10 : decode cX7_agreed 10 = .ok (.invokestatic 135, 3) := by decide +kernel
theorem dX7_agreed_13 : decode cX7_agreed 13 = .ok (.ifCond .ne 13, 3) := by decide +kernel
theorem dX7_agreed_16 : decode cX7_agreed 16 = .ok (.new 117, 3) := by decide +kernel
theorem dX7_agreed_19 : decode cX7_agreed 19 = .ok (.dup, 1) := by decide +kernel
theorem dX7_agreed_20 : decode cX7_agreed 20 = .ok (.ldc 138, 2) := by decide +kernel
theorem dX7_agreed_22 : decode cX7_agreed 22 = .ok (.invokespecial 121, 3) := by decide +kernel
theorem dX7_agreed_25 : decode cX7_agreed 25 = .ok (.athrow, 1) := by decide +kernel
theorem dX7_agreed_26 : decode cX7_agreed 26 = .ok (.aload_n 0, 1) := by decide +kernel
theorem dX7_agreed_27 : decode cX7_agreed 27 = .ok (.getfield 35, 3) := by decide +kernel
theorem dX7_agreed_30 : decode cX7_agreed 30 = .ok (.iload_n 2, 1) := by decide +kernel
theorem dX7_agreed_31 : decode cX7_agreed 31 = .ok (.invokevirtual 104, 3) := by decide +kernel
theorem dX7_agreed_34 : decode cX7_agreed 34 = .ok (.aload_n 0, 1) := by decide +kernel
theorem dX7_agreed_35 : decode cX7_agreed 35 = .ok (.getfield 35, 3) := by decide +kernel
theorem dX7_agreed_38 : decode cX7_agreed 38 = .ok (.invokevirtual 155, 3) := by decide +kernel
theorem dX7_agreed_41 : decode cX7_agreed 41 = .ok (.aload_n 0, 1) := by decide +kernel
theorem dX7_agreed_42 : decode cX7_agreed 42 = .ok (.getfield 35, 3) := by decide +kernel
theorem dX7_agreed_45 : decode cX7_agreed 45 = .ok (.iload_n 1, 1) := by decide +kernel
theorem dX7_agreed_46 : decode cX7_agreed 46 = .ok (.invokevirtual 158, 3) := by decide +kernel
theorem dX7_agreed_49 : decode cX7_agreed 49 = .ok (.iconst (-1), 1) := by decide +kernel
theorem dX7_agreed_50 : decode cX7_agreed 50 = .ok (.if_icmp .ne 13, 3) := by decide +kernel
theorem dX7_agreed_53 : decode cX7_agreed 53 = .ok (.new 117, 3) := by decide +kernel
theorem dX7_agreed_56 : decode cX7_agreed 56 = .ok (.dup, 1) := by decide +kernel
theorem dX7_agreed_57 : decode cX7_agreed 57 = .ok (.ldc 166, 2) := by decide +kernel
theorem dX7_agreed_59 : decode cX7_agreed 59 = .ok (.invokespecial 121, 3) := by decide +kernel
theorem dX7_agreed_62 : decode cX7_agreed 62 = .ok (.athrow, 1) := by decide +kernel
theorem dX7_agreed_63 : decode cX7_agreed 63 = .ok (.aload_n 0, 1) := by decide +kernel
theorem dX7_agreed_64 : decode cX7_agreed 64 = .ok (.invokevirtual 168, 3) := by decide +kernel
theorem dX7_agreed_67 : decode cX7_agreed 67 = .ok (.aload_n 0, 1) := by decide +kernel
theorem dX7_agreed_68 : decode cX7_agreed 68 = .ok (.getfield 42, 3) := by decide +kernel
theorem dX7_agreed_71 : decode cX7_agreed 71 = .ok (.aload_n 0, 1) := by decide +kernel
theorem dX7_agreed_72 : decode cX7_agreed 72 = .ok (.getfield 19, 3) := by decide +kernel
theorem dX7_agreed_75 : decode cX7_agreed 75 = .ok (.iload_n 1, 1) := by decide +kernel
theorem dX7_agreed_76 : decode cX7_agreed 76 = .ok (.invokevirtual 171, 3) := by decide +kernel
theorem dX7_agreed_79 : decode cX7_agreed 79 = .ok (.aload_n 0, 1) := by decide +kernel
theorem dX7_agreed_80 : decode cX7_agreed 80 = .ok (.getfield 19, 3) := by decide +kernel
theorem dX7_agreed_83 : decode cX7_agreed 83 = .ok (.iload_n 1, 1) := by decide +kernel
theorem dX7_agreed_84 : decode cX7_agreed 84 = .ok (.invokevirtual 174, 3) := by decide +kernel
theorem dX7_agreed_87 : decode cX7_agreed 87 = .ok (.aload_n 0, 1) := by decide +kernel
theorem dX7_agreed_88 : decode cX7_agreed 88 = .ok (.getfield 35, 3) := by decide +kernel
theorem dX7_agreed_91 : decode cX7_agreed 91 = .ok (.iload_n 1, 1) := by decide +kernel
theorem dX7_agreed_92 : decode cX7_agreed 92 = .ok (.invokevirtual 158, 3) := by decide +kernel
theorem dX7_agreed_95 : decode cX7_agreed 95 = .ok (.aload_n 0, 1) := by decide +kernel
theorem dX7_agreed_96 : decode cX7_agreed 96 = .ok (.getfield 35, 3) := by decide +kernel
theorem dX7_agreed_99 : decode cX7_agreed 99 = .ok (.iload_n 1, 1) := by decide +kernel
theorem dX7_agreed_100 : decode cX7_agreed 100 = .ok (.invokevirtual 177, 3) := by decide +kernel
theorem dX7_agreed_103 : decode cX7_agreed 103 = .ok (.aload_n 0, 1) := by decide +kernel
theorem dX7_agreed_104 : decode cX7_agreed 104 = .ok (.getfield 49, 3) := by decide +kernel
theorem dX7_agreed_107 : decode cX7_agreed 107 = .ok (.invokevirtual 180, 3) := by decide +kernel
theorem dX7_agreed_110 : decode cX7_agreed 110 = .ok (.aload_n 0, 1) := by decide +kernel
theorem dX7_agreed_111 : decode cX7_agreed 111 = .ok (.getfield 49, 3) := by decide +kernel
theorem dX7_agreed_114 : decode cX7_agreed 114 = .ok (.iload_n 3, 1) := by decide +kernel
theorem dX7_agreed_115 : decode cX7_agreed 115 = .ok (.invokevirtual 146, 3) := by decide +kernel
theorem dX7_agreed_118 : decode cX7_agreed 118 = .ok (.lreturn, 1) := by decide +kernel
theorem dX7_told_0 : decode cX7_told 0 = .ok (.iload_n 1, 1) := by decide +kernel
theorem dX7_told_1 : decode cX7_told 1 = .ok (.tableswitch 60 0 3 #[31, 39, 47, 52], 31) := by decide +kernel
theorem dX7_told_32 : decode cX7_told 32 = .ok (.aload_n 0, 1) := by decide +kernel
theorem dX7_told_33 : decode cX7_told 33 = .ok (.getfield 19, 3) := by decide +kernel
theorem dX7_told_36 : decode cX7_told 36 = .ok (.invokevirtual 184, 3) := by decide +kernel
theorem dX7_told_39 : decode cX7_told 39 = .ok (.ireturn, 1) := by decide +kernel
theorem dX7_told_40 : decode cX7_told 40 = .ok (.aload_n 0, 1) := by decide +kernel
theorem dX7_told_41 : decode cX7_told 41 = .ok (.getfield 26, 3) := by decide +kernel
theorem dX7_told_44 : decode cX7_told 44 = .ok (.invokevirtual 187, 3) := by decide +kernel
theorem dX7_told_47 : decode cX7_told 47 = .ok (.ireturn, 1) := by decide +kernel
theorem dX7_told_48 : decode cX7_told 48 = .ok (.aload_n 0, 1) := by decide +kernel
theorem dX7_told_49 : decode cX7_told 49 = .ok (.getfield 53, 3) := by decide +kernel
theorem dX7_told_52 : decode cX7_told 52 = .ok (.ireturn, 1) := by decide +kernel
theorem dX7_told_53 : decode cX7_told 53 = .ok (.aload_n 0, 1) := by decide +kernel
theorem dX7_told_54 : decode cX7_told 54 = .ok (.getfield 12, 3) := by decide +kernel
theorem dX7_told_57 : decode cX7_told 57 = .ok (.invokevirtual 57, 3) := by decide +kernel
theorem dX7_told_60 : decode cX7_told 60 = .ok (.ireturn, 1) := by decide +kernel
theorem dX7_told_61 : decode cX7_told 61 = .ok (.iconst (-1), 1) := by decide +kernel
theorem dX7_told_62 : decode cX7_told 62 = .ok (.ireturn, 1) := by decide +kernel
theorem dX7_isBelow_0 : decode cX7_isBelow 0 = .ok (.iload_n 0, 1) := by decide +kernel
theorem dX7_isBelow_1 : decode cX7_isBelow 1 = .ok (.ifCond .lt 12, 3) := by decide +kernel
theorem dX7_isBelow_4 : decode cX7_isBelow 4 = .ok (.iload_n 0, 1) := by decide +kernel
theorem dX7_isBelow_5 : decode cX7_isBelow 5 = .ok (.iload_n 1, 1) := by decide +kernel
theorem dX7_isBelow_6 : decode cX7_isBelow 6 = .ok (.if_icmp .ge 7, 3) := by decide +kernel
theorem dX7_isBelow_9 : decode cX7_isBelow 9 = .ok (.iconst 1, 1) := by decide +kernel
theorem dX7_isBelow_10 : decode cX7_isBelow 10 = .ok (.goto 4, 3) := by decide +kernel
theorem dX7_isBelow_13 : decode cX7_isBelow 13 = .ok (.iconst 0, 1) := by decide +kernel
theorem dX7_isBelow_14 : decode cX7_isBelow 14 = .ok (.ireturn, 1) := by decide +kernel
theorem dX7_isPart_0 : decode cX7_isPart 0 = .ok (.iload_n 0, 1) := by decide +kernel
theorem dX7_isPart_1 : decode cX7_isPart 1 = .ok (.ifCond .eq 8, 3) := by decide +kernel
theorem dX7_isPart_4 : decode cX7_isPart 4 = .ok (.iload_n 0, 1) := by decide +kernel
theorem dX7_isPart_5 : decode cX7_isPart 5 = .ok (.iconst 1, 1) := by decide +kernel
theorem dX7_isPart_6 : decode cX7_isPart 6 = .ok (.if_icmp .ne 7, 3) := by decide +kernel
theorem dX7_isPart_9 : decode cX7_isPart 9 = .ok (.iconst 1, 1) := by decide +kernel
theorem dX7_isPart_10 : decode cX7_isPart 10 = .ok (.goto 4, 3) := by decide +kernel
theorem dX7_isPart_13 : decode cX7_isPart 13 = .ok (.iconst 0, 1) := by decide +kernel
theorem dX7_isPart_14 : decode cX7_isPart 14 = .ok (.ireturn, 1) := by decide +kernel
theorem dX7_isAskable_0 : decode cX7_isAskable 0 = .ok (.aload_n 0, 1) := by decide +kernel
theorem dX7_isAskable_1 : decode cX7_isAskable 1 = .ok (.getfield 19, 3) := by decide +kernel
theorem dX7_isAskable_4 : decode cX7_isAskable 4 = .ok (.iload_n 1, 1) := by decide +kernel
theorem dX7_isAskable_5 : decode cX7_isAskable 5 = .ok (.invokevirtual 73, 3) := by decide +kernel
theorem dX7_isAskable_8 : decode cX7_isAskable 8 = .ok (.ifCond .eq 11, 3) := by decide +kernel
theorem dX7_isAskable_11 : decode cX7_isAskable 11 = .ok (.iload_n 2, 1) := by decide +kernel
theorem dX7_isAskable_12 : decode cX7_isAskable 12 = .ok (.ifCond .lt 7, 3) := by decide +kernel
theorem dX7_isAskable_15 : decode cX7_isAskable 15 = .ok (.iconst 1, 1) := by decide +kernel
theorem dX7_isAskable_16 : decode cX7_isAskable 16 = .ok (.goto 4, 3) := by decide +kernel
theorem dX7_isAskable_19 : decode cX7_isAskable 19 = .ok (.iconst 0, 1) := by decide +kernel
theorem dX7_isAskable_20 : decode cX7_isAskable 20 = .ok (.ireturn, 1) := by decide +kernel
theorem dX7_enterKinds_0 : decode cX7_enterKinds 0 = .ok (.aload_n 0, 1) := by decide +kernel
theorem dX7_enterKinds_1 : decode cX7_enterKinds 1 = .ok (.getfield 19, 3) := by decide +kernel
theorem dX7_enterKinds_4 : decode cX7_enterKinds 4 = .ok (.iload_n 1, 1) := by decide +kernel
theorem dX7_enterKinds_5 : decode cX7_enterKinds 5 = .ok (.invokevirtual 73, 3) := by decide +kernel
theorem dX7_enterKinds_8 : decode cX7_enterKinds 8 = .ok (.ifCond .eq 12, 3) := by decide +kernel
theorem dX7_enterKinds_11 : decode cX7_enterKinds 11 = .ok (.iload_n 2, 1) := by decide +kernel
theorem dX7_enterKinds_12 : decode cX7_enterKinds 12 = .ok (.bipush 84, 2) := by decide +kernel
theorem dX7_enterKinds_14 : decode cX7_enterKinds 14 = .ok (.invokestatic 69, 3) := by decide +kernel
theorem dX7_enterKinds_17 : decode cX7_enterKinds 17 = .ok (.ifCond .ne 5, 3) := by decide +kernel
theorem dX7_enterKinds_20 : decode cX7_enterKinds 20 = .ok (.iconst (-1), 1) := by decide +kernel
theorem dX7_enterKinds_21 : decode cX7_enterKinds 21 = .ok (.ireturn, 1) := by decide +kernel
theorem dX7_enterKinds_22 : decode cX7_enterKinds 22 = .ok (.aload_n 0, 1) := by decide +kernel
theorem dX7_enterKinds_23 : decode cX7_enterKinds 23 = .ok (.getfield 12, 3) := by decide +kernel
theorem dX7_enterKinds_26 : decode cX7_enterKinds 26 = .ok (.invokevirtual 57, 3) := by decide +kernel
theorem dX7_enterKinds_29 : decode cX7_enterKinds 29 = .ok (.bipush 7, 2) := by decide +kernel
theorem dX7_enterKinds_31 : decode cX7_enterKinds 31 = .ok (.if_icmp .ne 14, 3) := by decide +kernel
theorem dX7_enterKinds_34 : decode cX7_enterKinds 34 = .ok (.aload_n 0, 1) := by decide +kernel
theorem dX7_enterKinds_35 : decode cX7_enterKinds 35 = .ok (.getfield 26, 3) := by decide +kernel
theorem dX7_enterKinds_38 : decode cX7_enterKinds 38 = .ok (.iconst 1, 1) := by decide +kernel
theorem dX7_enterKinds_39 : decode cX7_enterKinds 39 = .ok (.invokevirtual 188, 3) := by decide +kernel
theorem dX7_enterKinds_42 : decode cX7_enterKinds 42 = .ok (.ifCond .ne 5, 3) := by decide +kernel
theorem dX7_enterKinds_45 : decode cX7_enterKinds 45 = .ok (.iconst (-1), 1) := by decide +kernel
theorem dX7_enterKinds_46 : decode cX7_enterKinds 46 = .ok (.ireturn, 1) := by decide +kernel
theorem dX7_enterKinds_47 : decode cX7_enterKinds 47 = .ok (.aload_n 0, 1) := by decide +kernel
theorem dX7_enterKinds_48 : decode cX7_enterKinds 48 = .ok (.getfield 12, 3) := by decide +kernel
theorem dX7_enterKinds_51 : decode cX7_enterKinds 51 = .ok (.iconst 0, 1) := by decide +kernel
theorem dX7_enterKinds_52 : decode cX7_enterKinds 52 = .ok (.invokevirtual 191, 3) := by decide +kernel
theorem dX7_enterKinds_55 : decode cX7_enterKinds 55 = .ok (.aload_n 0, 1) := by decide +kernel
theorem dX7_enterKinds_56 : decode cX7_enterKinds 56 = .ok (.getfield 12, 3) := by decide +kernel
theorem dX7_enterKinds_59 : decode cX7_enterKinds 59 = .ok (.iconst 3, 1) := by decide +kernel
theorem dX7_enterKinds_60 : decode cX7_enterKinds 60 = .ok (.invokevirtual 191, 3) := by decide +kernel
theorem dX7_enterKinds_63 : decode cX7_enterKinds 63 = .ok (.iadd, 1) := by decide +kernel
theorem dX7_enterKinds_64 : decode cX7_enterKinds 64 = .ok (.istore_n 3, 1) := by decide +kernel
theorem dX7_enterKinds_65 : decode cX7_enterKinds 65 = .ok (.aload_n 0, 1) := by decide +kernel
theorem dX7_enterKinds_66 : decode cX7_enterKinds 66 = .ok (.getfield 12, 3) := by decide +kernel
theorem dX7_enterKinds_69 : decode cX7_enterKinds 69 = .ok (.iconst 1, 1) := by decide +kernel
theorem dX7_enterKinds_70 : decode cX7_enterKinds 70 = .ok (.invokevirtual 191, 3) := by decide +kernel
theorem dX7_enterKinds_73 : decode cX7_enterKinds 73 = .ok (.aload_n 0, 1) := by decide +kernel
theorem dX7_enterKinds_74 : decode cX7_enterKinds 74 = .ok (.getfield 12, 3) := by decide +kernel
theorem dX7_enterKinds_77 : decode cX7_enterKinds 77 = .ok (.iconst 4, 1) := by decide +kernel
theorem dX7_enterKinds_78 : decode cX7_enterKinds 78 = .ok (.invokevirtual 191, 3) := by decide +kernel
theorem dX7_enterKinds_81 : decode cX7_enterKinds 81 = .ok (.iadd, 1) := by decide +kernel
theorem dX7_enterKinds_82 : decode cX7_enterKinds 82 = .ok (.istore 4, 2) := by decide +kernel
theorem dX7_enterKinds_84 : decode cX7_enterKinds 84 = .ok (.aload_n 0, 1) := by decide +kernel
theorem dX7_enterKinds_85 : decode cX7_enterKinds 85 = .ok (.getfield 12, 3) := by decide +kernel
theorem dX7_enterKinds_88 : decode cX7_enterKinds 88 = .ok (.iconst 2, 1) := by decide +kernel
theorem dX7_enterKinds_89 : decode cX7_enterKinds 89 = .ok (.invokevirtual 191, 3) := by decide +kernel
theorem dX7_enterKinds_92 : decode cX7_enterKinds 92 = .ok (.aload_n 0, 1) := by decide +kernel
theorem dX7_enterKinds_93 : decode cX7_enterKinds 93 = .ok (.getfield 12, 3) := by decide +kernel
theorem dX7_enterKinds_96 : decode cX7_enterKinds 96 = .ok (.iconst 5, 1) := by decide +kernel
theorem dX7_enterKinds_97 : decode cX7_enterKinds 97 = .ok (.invokevirtual 191, 3) := by decide +kernel
theorem dX7_enterKinds_100 : decode cX7_enterKinds 100 = .ok (.iadd, 1) := by decide +kernel
theorem dX7_enterKinds_101 : decode cX7_enterKinds 101 = .ok (.istore 5, 2) := by decide +kernel
theorem dX7_enterKinds_103 : decode cX7_enterKinds 103 = .ok (.iload_n 3, 1) := by decide +kernel
theorem dX7_enterKinds_104 : decode cX7_enterKinds 104 = .ok (.iload 4, 2) := by decide +kernel
theorem dX7_enterKinds_106 : decode cX7_enterKinds 106 = .ok (.iadd, 1) := by decide +kernel
theorem dX7_enterKinds_107 : decode cX7_enterKinds 107 = .ok (.iload 5, 2) := by decide +kernel
theorem dX7_enterKinds_109 : decode cX7_enterKinds 109 = .ok (.iadd, 1) := by decide +kernel
theorem dX7_enterKinds_110 : decode cX7_enterKinds 110 = .ok (.aload_n 0, 1) := by decide +kernel
theorem dX7_enterKinds_111 : decode cX7_enterKinds 111 = .ok (.getfield 12, 3) := by decide +kernel
theorem dX7_enterKinds_114 : decode cX7_enterKinds 114 = .ok (.bipush 6, 2) := by decide +kernel
theorem dX7_enterKinds_116 : decode cX7_enterKinds 116 = .ok (.invokevirtual 191, 3) := by decide +kernel
theorem dX7_enterKinds_119 : decode cX7_enterKinds 119 = .ok (.isub, 1) := by decide +kernel
theorem dX7_enterKinds_120 : decode cX7_enterKinds 120 = .ok (.istore 6, 2) := by decide +kernel
theorem dX7_enterKinds_122 : decode cX7_enterKinds 122 = .ok (.iload 6, 2) := by decide +kernel
theorem dX7_enterKinds_124 : decode cX7_enterKinds 124 = .ok (.ifCond .lt 10, 3) := by decide +kernel
theorem dX7_enterKinds_127 : decode cX7_enterKinds 127 = .ok (.iload 6, 2) := by decide +kernel
theorem dX7_enterKinds_129 : decode cX7_enterKinds 129 = .ok (.bipush 50, 2) := by decide +kernel
theorem dX7_enterKinds_131 : decode cX7_enterKinds 131 = .ok (.if_icmp .le 5, 3) := by decide +kernel
theorem dX7_enterKinds_134 : decode cX7_enterKinds 134 = .ok (.iconst (-1), 1) := by decide +kernel
theorem dX7_enterKinds_135 : decode cX7_enterKinds 135 = .ok (.ireturn, 1) := by decide +kernel
theorem dX7_enterKinds_136 : decode cX7_enterKinds 136 = .ok (.aload_n 0, 1) := by decide +kernel
theorem dX7_enterKinds_137 : decode cX7_enterKinds 137 = .ok (.getfield 26, 3) := by decide +kernel
theorem dX7_enterKinds_140 : decode cX7_enterKinds 140 = .ok (.iload_n 1, 1) := by decide +kernel
theorem dX7_enterKinds_141 : decode cX7_enterKinds 141 = .ok (.bipush 84, 2) := by decide +kernel
theorem dX7_enterKinds_143 : decode cX7_enterKinds 143 = .ok (.imul, 1) := by decide +kernel
theorem dX7_enterKinds_144 : decode cX7_enterKinds 144 = .ok (.iload_n 2, 1) := by decide +kernel
theorem dX7_enterKinds_145 : decode cX7_enterKinds 145 = .ok (.iadd, 1) := by decide +kernel
theorem dX7_enterKinds_146 : decode cX7_enterKinds 146 = .ok (.aload_n 0, 1) := by decide +kernel
theorem dX7_enterKinds_147 : decode cX7_enterKinds 147 = .ok (.getfield 53, 3) := by decide +kernel
theorem dX7_enterKinds_150 : decode cX7_enterKinds 150 = .ok (.iload 6, 2) := by decide +kernel
theorem dX7_enterKinds_152 : decode cX7_enterKinds 152 = .ok (.invokevirtual 194, 3) := by decide +kernel
theorem dX7_enterKinds_155 : decode cX7_enterKinds 155 = .ok (.aload_n 0, 1) := by decide +kernel
theorem dX7_enterKinds_156 : decode cX7_enterKinds 156 = .ok (.getfield 26, 3) := by decide +kernel
theorem dX7_enterKinds_159 : decode cX7_enterKinds 159 = .ok (.iload_n 3, 1) := by decide +kernel
theorem dX7_enterKinds_160 : decode cX7_enterKinds 160 = .ok (.iload 4, 2) := by decide +kernel
theorem dX7_enterKinds_162 : decode cX7_enterKinds 162 = .ok (.iload 5, 2) := by decide +kernel
theorem dX7_enterKinds_164 : decode cX7_enterKinds 164 = .ok (.invokevirtual 198, 3) := by decide +kernel
theorem dX7_enterKinds_167 : decode cX7_enterKinds 167 = .ok (.iload 6, 2) := by decide +kernel
theorem dX7_enterKinds_169 : decode cX7_enterKinds 169 = .ok (.ireturn, 1) := by decide +kernel
theorem dX7_enterRow_0 : decode cX7_enterRow 0 = .ok (.aload_n 0, 1) := by decide +kernel
theorem dX7_enterRow_1 : decode cX7_enterRow 1 = .ok (.getfield 12, 3) := by decide +kernel
theorem dX7_enterRow_4 : decode cX7_enterRow 4 = .ok (.invokevirtual 57, 3) := by decide +kernel
theorem dX7_enterRow_7 : decode cX7_enterRow 7 = .ok (.istore_n 3, 1) := by decide +kernel
theorem dX7_enterRow_8 : decode cX7_enterRow 8 = .ok (.aload_n 0, 1) := by decide +kernel
theorem dX7_enterRow_9 : decode cX7_enterRow 9 = .ok (.getfield 19, 3) := by decide +kernel
theorem dX7_enterRow_12 : decode cX7_enterRow 12 = .ok (.iload_n 1, 1) := by decide +kernel
theorem dX7_enterRow_13 : decode cX7_enterRow 13 = .ok (.invokevirtual 73, 3) := by decide +kernel
theorem dX7_enterRow_16 : decode cX7_enterRow 16 = .ok (.ifCond .eq 15, 3) := by decide +kernel
theorem dX7_enterRow_19 : decode cX7_enterRow 19 = .ok (.iload_n 2, 1) := by decide +kernel
theorem dX7_enterRow_20 : decode cX7_enterRow 20 = .ok (.ifCond .lt 11, 3) := by decide +kernel
theorem dX7_enterRow_23 : decode cX7_enterRow 23 = .ok (.iload_n 2, 1) := by decide +kernel
theorem dX7_enterRow_24 : decode cX7_enterRow 24 = .ok (.bipush 84, 2) := by decide +kernel
theorem dX7_enterRow_26 : decode cX7_enterRow 26 = .ok (.iload_n 3, 1) := by decide +kernel
theorem dX7_enterRow_27 : decode cX7_enterRow 27 = .ok (.isub, 1) := by decide +kernel
theorem dX7_enterRow_28 : decode cX7_enterRow 28 = .ok (.if_icmp .le 5, 3) := by decide +kernel
theorem dX7_enterRow_31 : decode cX7_enterRow 31 = .ok (.iconst (-1), 1) := by decide +kernel
theorem dX7_enterRow_32 : decode cX7_enterRow 32 = .ok (.ireturn, 1) := by decide +kernel
theorem dX7_enterRow_33 : decode cX7_enterRow 33 = .ok (.aload_n 0, 1) := by decide +kernel
theorem dX7_enterRow_34 : decode cX7_enterRow 34 = .ok (.getfield 26, 3) := by decide +kernel
theorem dX7_enterRow_37 : decode cX7_enterRow 37 = .ok (.iload_n 3, 1) := by decide +kernel
theorem dX7_enterRow_38 : decode cX7_enterRow 38 = .ok (.invokevirtual 188, 3) := by decide +kernel
theorem dX7_enterRow_41 : decode cX7_enterRow 41 = .ok (.ifCond .eq 13, 3) := by decide +kernel
theorem dX7_enterRow_44 : decode cX7_enterRow 44 = .ok (.aload_n 0, 1) := by decide +kernel
theorem dX7_enterRow_45 : decode cX7_enterRow 45 = .ok (.getfield 12, 3) := by decide +kernel
theorem dX7_enterRow_48 : decode cX7_enterRow 48 = .ok (.invokevirtual 201, 3) := by decide +kernel
theorem dX7_enterRow_51 : decode cX7_enterRow 51 = .ok (.ifCond .ne 5, 3) := by decide +kernel
theorem dX7_enterRow_54 : decode cX7_enterRow 54 = .ok (.iconst (-1), 1) := by decide +kernel
theorem dX7_enterRow_55 : decode cX7_enterRow 55 = .ok (.ireturn, 1) := by decide +kernel
theorem dX7_enterRow_56 : decode cX7_enterRow 56 = .ok (.iconst 0, 1) := by decide +kernel
theorem dX7_enterRow_57 : decode cX7_enterRow 57 = .ok (.istore 4, 2) := by decide +kernel
theorem dX7_enterRow_59 : decode cX7_enterRow 59 = .ok (.iload 4, 2) := by decide +kernel
theorem dX7_enterRow_61 : decode cX7_enterRow 61 = .ok (.iload_n 3, 1) := by decide +kernel
theorem dX7_enterRow_62 : decode cX7_enterRow 62 = .ok (.if_icmp .ge 86, 3) := by decide +kernel
theorem dX7_enterRow_65 : decode cX7_enterRow 65 = .ok (.aload_n 0, 1) := by decide +kernel
theorem dX7_enterRow_66 : decode cX7_enterRow 66 = .ok (.getfield 12, 3) := by decide +kernel
theorem dX7_enterRow_69 : decode cX7_enterRow 69 = .ok (.iload 4, 2) := by decide +kernel
theorem dX7_enterRow_71 : decode cX7_enterRow 71 = .ok (.invokevirtual 191, 3) := by decide +kernel
theorem dX7_enterRow_74 : decode cX7_enterRow 74 = .ok (.istore 5, 2) := by decide +kernel
theorem dX7_enterRow_76 : decode cX7_enterRow 76 = .ok (.iload 5, 2) := by decide +kernel
theorem dX7_enterRow_78 : decode cX7_enterRow 78 = .ok (.sipush 255, 3) := by decide +kernel
theorem dX7_enterRow_81 : decode cX7_enterRow 81 = .ok (.if_icmp .eq 7, 3) := by decide +kernel
theorem dX7_enterRow_84 : decode cX7_enterRow 84 = .ok (.iconst 1, 1) := by decide +kernel
theorem dX7_enterRow_85 : decode cX7_enterRow 85 = .ok (.goto 4, 3) := by decide +kernel
theorem dX7_enterRow_88 : decode cX7_enterRow 88 = .ok (.iconst 0, 1) := by decide +kernel
theorem dX7_enterRow_89 : decode cX7_enterRow 89 = .ok (.istore 6, 2) := by decide +kernel
theorem dX7_enterRow_91 : decode cX7_enterRow 91 = .ok (.aload_n 0, 1) := by decide +kernel
theorem dX7_enterRow_92 : decode cX7_enterRow 92 = .ok (.getfield 26, 3) := by decide +kernel
theorem dX7_enterRow_95 : decode cX7_enterRow 95 = .ok (.iload_n 1, 1) := by decide +kernel
theorem dX7_enterRow_96 : decode cX7_enterRow 96 = .ok (.bipush 84, 2) := by decide +kernel
theorem dX7_enterRow_98 : decode cX7_enterRow 98 = .ok (.imul, 1) := by decide +kernel
theorem dX7_enterRow_99 : decode cX7_enterRow 99 = .ok (.iload_n 2, 1) := by decide +kernel
theorem dX7_enterRow_100 : decode cX7_enterRow 100 = .ok (.iadd, 1) := by decide +kernel
theorem dX7_enterRow_101 : decode cX7_enterRow 101 = .ok (.iload 4, 2) := by decide +kernel
theorem dX7_enterRow_103 : decode cX7_enterRow 103 = .ok (.iadd, 1) := by decide +kernel
theorem dX7_enterRow_104 : decode cX7_enterRow 104 = .ok (.aload_n 0, 1) := by decide +kernel
theorem dX7_enterRow_105 : decode cX7_enterRow 105 = .ok (.getfield 53, 3) := by decide +kernel
theorem dX7_enterRow_108 : decode cX7_enterRow 108 = .ok (.iload 6, 2) := by decide +kernel
theorem dX7_enterRow_110 : decode cX7_enterRow 110 = .ok (.ifCond .eq 8, 3) := by decide +kernel
theorem dX7_enterRow_113 : decode cX7_enterRow 113 = .ok (.iload 5, 2) := by decide +kernel
theorem dX7_enterRow_115 : decode cX7_enterRow 115 = .ok (.goto 4, 3) := by decide +kernel
theorem dX7_enterRow_118 : decode cX7_enterRow 118 = .ok (.iconst (-1), 1) := by decide +kernel
theorem dX7_enterRow_119 : decode cX7_enterRow 119 = .ok (.invokevirtual 194, 3) := by decide +kernel
theorem dX7_enterRow_122 : decode cX7_enterRow 122 = .ok (.aload_n 0, 1) := by decide +kernel
theorem dX7_enterRow_123 : decode cX7_enterRow 123 = .ok (.getfield 26, 3) := by decide +kernel
theorem dX7_enterRow_126 : decode cX7_enterRow 126 = .ok (.iload 6, 2) := by decide +kernel
theorem dX7_enterRow_128 : decode cX7_enterRow 128 = .ok (.ifCond .eq 8, 3) := by decide +kernel
theorem dX7_enterRow_131 : decode cX7_enterRow 131 = .ok (.iload 5, 2) := by decide +kernel
theorem dX7_enterRow_133 : decode cX7_enterRow 133 = .ok (.goto 4, 3) := by decide +kernel
theorem dX7_enterRow_136 : decode cX7_enterRow 136 = .ok (.iconst 0, 1) := by decide +kernel
theorem dX7_enterRow_137 : decode cX7_enterRow 137 = .ok (.iconst 0, 1) := by decide +kernel
theorem dX7_enterRow_138 : decode cX7_enterRow 138 = .ok (.iconst 0, 1) := by decide +kernel
theorem dX7_enterRow_139 : decode cX7_enterRow 139 = .ok (.invokevirtual 198, 3) := by decide +kernel
theorem dX7_enterRow_142 : decode cX7_enterRow 142 = .ok (.iinc 4 1, 3) := by decide +kernel
theorem dX7_enterRow_145 : decode cX7_enterRow 145 = .ok (.goto (-86), 3) := by decide +kernel
theorem dX7_enterRow_148 : decode cX7_enterRow 148 = .ok (.iload_n 3, 1) := by decide +kernel
theorem dX7_enterRow_149 : decode cX7_enterRow 149 = .ok (.ireturn, 1) := by decide +kernel
theorem dX7_excessAt_0 : decode cX7_excessAt 0 = .ok (.iconst 0, 1) := by decide +kernel
theorem dX7_excessAt_1 : decode cX7_excessAt 1 = .ok (.istore_n 2, 1) := by decide +kernel
theorem dX7_excessAt_2 : decode cX7_excessAt 2 = .ok (.iconst 0, 1) := by decide +kernel
theorem dX7_excessAt_3 : decode cX7_excessAt 3 = .ok (.istore_n 3, 1) := by decide +kernel
theorem dX7_excessAt_4 : decode cX7_excessAt 4 = .ok (.iload_n 3, 1) := by decide +kernel
theorem dX7_excessAt_5 : decode cX7_excessAt 5 = .ok (.bipush 16, 2) := by decide +kernel
theorem dX7_excessAt_7 : decode cX7_excessAt 7 = .ok (.if_icmp .ge 67, 3) := by decide +kernel
theorem dX7_excessAt_10 : decode cX7_excessAt 10 = .ok (.aload_n 0, 1) := by decide +kernel
theorem dX7_excessAt_11 : decode cX7_excessAt 11 = .ok (.getfield 35, 3) := by decide +kernel
theorem dX7_excessAt_14 : decode cX7_excessAt 14 = .ok (.iload_n 3, 1) := by decide +kernel
theorem dX7_excessAt_15 : decode cX7_excessAt 15 = .ok (.invokevirtual 158, 3) := by decide +kernel
theorem dX7_excessAt_18 : decode cX7_excessAt 18 = .ok (.iconst (-1), 1) := by decide +kernel
theorem dX7_excessAt_19 : decode cX7_excessAt 19 = .ok (.if_icmp .eq 49, 3) := by decide +kernel
theorem dX7_excessAt_22 : decode cX7_excessAt 22 = .ok (.aload_n 0, 1) := by decide +kernel
theorem dX7_excessAt_23 : decode cX7_excessAt 23 = .ok (.getfield 19, 3) := by decide +kernel
theorem dX7_excessAt_26 : decode cX7_excessAt 26 = .ok (.iload_n 3, 1) := by decide +kernel
theorem dX7_excessAt_27 : decode cX7_excessAt 27 = .ok (.invokevirtual 174, 3) := by decide +kernel
theorem dX7_excessAt_30 : decode cX7_excessAt 30 = .ok (.iload_n 1, 1) := by decide +kernel
theorem dX7_excessAt_31 : decode cX7_excessAt 31 = .ok (.if_icmp .ne 14, 3) := by decide +kernel
theorem dX7_excessAt_34 : decode cX7_excessAt 34 = .ok (.iload_n 2, 1) := by decide +kernel
theorem dX7_excessAt_35 : decode cX7_excessAt 35 = .ok (.aload_n 0, 1) := by decide +kernel
theorem dX7_excessAt_36 : decode cX7_excessAt 36 = .ok (.getfield 35, 3) := by decide +kernel
theorem dX7_excessAt_39 : decode cX7_excessAt 39 = .ok (.iload_n 3, 1) := by decide +kernel
theorem dX7_excessAt_40 : decode cX7_excessAt 40 = .ok (.invokevirtual 158, 3) := by decide +kernel
theorem dX7_excessAt_43 : decode cX7_excessAt 43 = .ok (.iadd, 1) := by decide +kernel
theorem dX7_excessAt_44 : decode cX7_excessAt 44 = .ok (.istore_n 2, 1) := by decide +kernel
theorem dX7_excessAt_45 : decode cX7_excessAt 45 = .ok (.aload_n 0, 1) := by decide +kernel
theorem dX7_excessAt_46 : decode cX7_excessAt 46 = .ok (.getfield 19, 3) := by decide +kernel
theorem dX7_excessAt_49 : decode cX7_excessAt 49 = .ok (.iload_n 3, 1) := by decide +kernel
theorem dX7_excessAt_50 : decode cX7_excessAt 50 = .ok (.invokevirtual 171, 3) := by decide +kernel
theorem dX7_excessAt_53 : decode cX7_excessAt 53 = .ok (.iload_n 1, 1) := by decide +kernel
theorem dX7_excessAt_54 : decode cX7_excessAt 54 = .ok (.if_icmp .ne 14, 3) := by decide +kernel
theorem dX7_excessAt_57 : decode cX7_excessAt 57 = .ok (.iload_n 2, 1) := by decide +kernel
theorem dX7_excessAt_58 : decode cX7_excessAt 58 = .ok (.aload_n 0, 1) := by decide +kernel
theorem dX7_excessAt_59 : decode cX7_excessAt 59 = .ok (.getfield 35, 3) := by decide +kernel
theorem dX7_excessAt_62 : decode cX7_excessAt 62 = .ok (.iload_n 3, 1) := by decide +kernel
theorem dX7_excessAt_63 : decode cX7_excessAt 63 = .ok (.invokevirtual 158, 3) := by decide +kernel
theorem dX7_excessAt_66 : decode cX7_excessAt 66 = .ok (.isub, 1) := by decide +kernel
theorem dX7_excessAt_67 : decode cX7_excessAt 67 = .ok (.istore_n 2, 1) := by decide +kernel
theorem dX7_excessAt_68 : decode cX7_excessAt 68 = .ok (.iinc 3 1, 3) := by decide +kernel
theorem dX7_excessAt_71 : decode cX7_excessAt 71 = .ok (.goto (-67), 3) := by decide +kernel
theorem dX7_excessAt_74 : decode cX7_excessAt 74 = .ok (.iload_n 2, 1) := by decide +kernel
theorem dX7_excessAt_75 : decode cX7_excessAt 75 = .ok (.ireturn, 1) := by decide +kernel
theorem dX7_settleBalance_0 : decode cX7_settleBalance 0 = .ok (.aload_n 0, 1) := by decide +kernel
theorem dX7_settleBalance_1 : decode cX7_settleBalance 1 = .ok (.getfield 42, 3) := by decide +kernel
theorem dX7_settleBalance_4 : decode cX7_settleBalance 4 = .ok (.invokevirtual 205, 3) := by decide +kernel
theorem dX7_settleBalance_7 : decode cX7_settleBalance 7 = .ok (.iconst 0, 1) := by decide +kernel
theorem dX7_settleBalance_8 : decode cX7_settleBalance 8 = .ok (.istore_n 1, 1) := by decide +kernel
theorem dX7_settleBalance_9 : decode cX7_settleBalance 9 = .ok (.iload_n 1, 1) := by decide +kernel
theorem dX7_settleBalance_10 : decode cX7_settleBalance 10 = .ok (.bipush 16, 2) := by decide +kernel
theorem dX7_settleBalance_12 : decode cX7_settleBalance 12 = .ok (.if_icmp .ge 52, 3) := by decide +kernel
theorem dX7_settleBalance_15 : decode cX7_settleBalance 15 = .ok (.aload_n 0, 1) := by decide +kernel
theorem dX7_settleBalance_16 : decode cX7_settleBalance 16 = .ok (.getfield 35, 3) := by decide +kernel
theorem dX7_settleBalance_19 : decode cX7_settleBalance 19 = .ok (.iload_n 1, 1) := by decide +kernel
theorem dX7_settleBalance_20 : decode cX7_settleBalance 20 = .ok (.invokevirtual 158, 3) := by decide +kernel
theorem dX7_settleBalance_23 : decode cX7_settleBalance 23 = .ok (.iconst (-1), 1) := by decide +kernel
theorem dX7_settleBalance_24 : decode cX7_settleBalance 24 = .ok (.if_icmp .eq 34, 3) := by decide +kernel
theorem dX7_settleBalance_27 : decode cX7_settleBalance 27 = .ok (.aload_n 0, 1) := by decide +kernel
theorem dX7_settleBalance_28 : decode cX7_settleBalance 28 = .ok (.getfield 42, 3) := by decide +kernel
theorem dX7_settleBalance_31 : decode cX7_settleBalance 31 = .ok (.aload_n 0, 1) := by decide +kernel
theorem dX7_settleBalance_32 : decode cX7_settleBalance 32 = .ok (.getfield 19, 3) := by decide +kernel
theorem dX7_settleBalance_35 : decode cX7_settleBalance 35 = .ok (.iload_n 1, 1) := by decide +kernel
theorem dX7_settleBalance_36 : decode cX7_settleBalance 36 = .ok (.invokevirtual 171, 3) := by decide +kernel
theorem dX7_settleBalance_39 : decode cX7_settleBalance 39 = .ok (.aload_n 0, 1) := by decide +kernel
theorem dX7_settleBalance_40 : decode cX7_settleBalance 40 = .ok (.getfield 19, 3) := by decide +kernel
theorem dX7_settleBalance_43 : decode cX7_settleBalance 43 = .ok (.iload_n 1, 1) := by decide +kernel
theorem dX7_settleBalance_44 : decode cX7_settleBalance 44 = .ok (.invokevirtual 174, 3) := by decide +kernel
theorem dX7_settleBalance_47 : decode cX7_settleBalance 47 = .ok (.aload_n 0, 1) := by decide +kernel
theorem dX7_settleBalance_48 : decode cX7_settleBalance 48 = .ok (.getfield 35, 3) := by decide +kernel
theorem dX7_settleBalance_51 : decode cX7_settleBalance 51 = .ok (.iload_n 1, 1) := by decide +kernel
theorem dX7_settleBalance_52 : decode cX7_settleBalance 52 = .ok (.invokevirtual 177, 3) := by decide +kernel
theorem dX7_settleBalance_55 : decode cX7_settleBalance 55 = .ok (.invokevirtual 208, 3) := by decide +kernel
theorem dX7_settleBalance_58 : decode cX7_settleBalance 58 = .ok (.iinc 1 1, 3) := by decide +kernel
theorem dX7_settleBalance_61 : decode cX7_settleBalance 61 = .ok (.goto (-52), 3) := by decide +kernel
theorem dX7_settleBalance_64 : decode cX7_settleBalance 64 = .ok (.iconst 0, 1) := by decide +kernel
theorem dX7_settleBalance_65 : decode cX7_settleBalance 65 = .ok (.istore_n 1, 1) := by decide +kernel
theorem dX7_settleBalance_66 : decode cX7_settleBalance 66 = .ok (.iload_n 1, 1) := by decide +kernel
theorem dX7_settleBalance_67 : decode cX7_settleBalance 67 = .ok (.iconst 4, 1) := by decide +kernel
theorem dX7_settleBalance_68 : decode cX7_settleBalance 68 = .ok (.if_icmp .ge 22, 3) := by decide +kernel
theorem dX7_settleBalance_71 : decode cX7_settleBalance 71 = .ok (.aload_n 0, 1) := by decide +kernel
theorem dX7_settleBalance_72 : decode cX7_settleBalance 72 = .ok (.getfield 42, 3) := by decide +kernel
theorem dX7_settleBalance_75 : decode cX7_settleBalance 75 = .ok (.iload_n 1, 1) := by decide +kernel
theorem dX7_settleBalance_76 : decode cX7_settleBalance 76 = .ok (.aload_n 0, 1) := by decide +kernel
theorem dX7_settleBalance_77 : decode cX7_settleBalance 77 = .ok (.iload_n 1, 1) := by decide +kernel
theorem dX7_settleBalance_78 : decode cX7_settleBalance 78 = .ok (.invokevirtual 163, 3) := by decide +kernel
theorem dX7_settleBalance_81 : decode cX7_settleBalance 81 = .ok (.invokevirtual 211, 3) := by decide +kernel
theorem dX7_settleBalance_84 : decode cX7_settleBalance 84 = .ok (.iinc 1 1, 3) := by decide +kernel
theorem dX7_settleBalance_87 : decode cX7_settleBalance 87 = .ok (.goto (-21), 3) := by decide +kernel
theorem dX7_settleBalance_90 : decode cX7_settleBalance 90 = .ok (.aload_n 0, 1) := by decide +kernel
theorem dX7_settleBalance_91 : decode cX7_settleBalance 91 = .ok (.getfield 42, 3) := by decide +kernel
theorem dX7_settleBalance_94 : decode cX7_settleBalance 94 = .ok (.invokevirtual 215, 3) := by decide +kernel
theorem dX7_settleBalance_97 : decode cX7_settleBalance 97 = .ok (.return_, 1) := by decide +kernel
end
section
theorem dX8_init_0 : decode cX8_init 0 = .ok (.aload_n 0, 1) := by decide +kernel
theorem dX8_init_1 : decode cX8_init 1 = .ok (.invokespecial 1, 3) := by decide +kernel
theorem dX8_init_4 : decode cX8_init 4 = .ok (.aload_n 0, 1) := by decide +kernel
theorem dX8_init_5 : decode cX8_init 5 = .ok (.sipush 200, 3) := by decide +kernel
theorem dX8_init_8 : decode cX8_init 8 = .ok (.newarray .byte, 2) := by decide +kernel
theorem dX8_init_10 : decode cX8_init 10 = .ok (.putfield 7, 3) := by decide +kernel
theorem dX8_init_13 : decode cX8_init 13 = .ok (.aload_n 0, 1) := by decide +kernel
theorem dX8_init_14 : decode cX8_init 14 = .ok (.bipush 16, 2) := by decide +kernel
theorem dX8_init_16 : decode cX8_init 16 = .ok (.newarray .boolean, 2) := by decide +kernel
theorem dX8_init_18 : decode cX8_init 18 = .ok (.putfield 13, 3) := by decide +kernel
theorem dX8_init_21 : decode cX8_init 21 = .ok (.aload_n 0, 1) := by decide +kernel
theorem dX8_init_22 : decode cX8_init 22 = .ok (.sipush 1344, 3) := by decide +kernel
theorem dX8_init_25 : decode cX8_init 25 = .ok (.newarray .boolean, 2) := by decide +kernel
theorem dX8_init_27 : decode cX8_init 27 = .ok (.putfield 17, 3) := by decide +kernel
theorem dX8_init_30 : decode cX8_init 30 = .ok (.aload_n 0, 1) := by decide +kernel
theorem dX8_init_31 : decode cX8_init 31 = .ok (.bipush 16, 2) := by decide +kernel
theorem dX8_init_33 : decode cX8_init 33 = .ok (.newarray .int, 2) := by decide +kernel
theorem dX8_init_35 : decode cX8_init 35 = .ok (.putfield 20, 3) := by decide +kernel
theorem dX8_init_38 : decode cX8_init 38 = .ok (.aload_n 0, 1) := by decide +kernel
theorem dX8_init_39 : decode cX8_init 39 = .ok (.bipush 16, 2) := by decide +kernel
theorem dX8_init_41 : decode cX8_init 41 = .ok (.newarray .int, 2) := by decide +kernel
theorem dX8_init_43 : decode cX8_init 43 = .ok (.putfield 24, 3) := by decide +kernel
theorem dX8_init_46 : decode cX8_init 46 = .ok (.aload_n 0, 1) := by decide +kernel
theorem dX8_init_47 : decode cX8_init 47 = .ok (.bipush 16, 2) := by decide +kernel
theorem dX8_init_49 : decode cX8_init 49 = .ok (.newarray .int, 2) := by decide +kernel
theorem dX8_init_51 : decode cX8_init 51 = .ok (.putfield 27, 3) := by decide +kernel
theorem dX8_init_54 : decode cX8_init 54 = .ok (.aload_n 0, 1) := by decide +kernel
theorem dX8_init_55 : decode cX8_init 55 = .ok (.sipush 600, 3) := by decide +kernel
theorem dX8_init_58 : decode cX8_init 58 = .ok (.newarray .int, 2) := by decide +kernel
theorem dX8_init_60 : decode cX8_init 60 = .ok (.putfield 30, 3) := by decide +kernel
theorem dX8_init_63 : decode cX8_init 63 = .ok (.aload_n 0, 1) := by decide +kernel
theorem dX8_init_64 : decode cX8_init 64 = .ok (.sipush 600, 3) := by decide +kernel
theorem dX8_init_67 : decode cX8_init 67 = .ok (.newarray .int, 2) := by decide +kernel
theorem dX8_init_69 : decode cX8_init 69 = .ok (.putfield 33, 3) := by decide +kernel
theorem dX8_init_72 : decode cX8_init 72 = .ok (.aload_n 0, 1) := by decide +kernel
theorem dX8_init_73 : decode cX8_init 73 = .ok (.sipush 600, 3) := by decide +kernel
theorem dX8_init_76 : decode cX8_init 76 = .ok (.newarray .int, 2) := by decide +kernel
theorem dX8_init_78 : decode cX8_init 78 = .ok (.putfield 36, 3) := by decide +kernel
theorem dX8_init_81 : decode cX8_init 81 = .ok (.aload_n 0, 1) := by decide +kernel
theorem dX8_init_82 : decode cX8_init 82 = .ok (.sipush 600, 3) := by decide +kernel
theorem dX8_init_85 : decode cX8_init 85 = .ok (.newarray .int, 2) := by decide +kernel
theorem dX8_init_87 : decode cX8_init 87 = .ok (.putfield 39, 3) := by decide +kernel
theorem dX8_init_90 : decode cX8_init 90 = .ok (.aload_n 0, 1) := by decide +kernel
theorem dX8_init_91 : decode cX8_init 91 = .ok (.sipush 1800, 3) := by decide +kernel
theorem dX8_init_94 : decode cX8_init 94 = .ok (.newarray .int, 2) := by decide +kernel
theorem dX8_init_96 : decode cX8_init 96 = .ok (.putfield 42, 3) := by decide +kernel
theorem dX8_init_99 : decode cX8_init 99 = .ok (.aload_n 0, 1) := by decide +kernel
theorem dX8_init_100 : decode cX8_init 100 = .ok (.sipush 1344, 3) := by decide +kernel
theorem dX8_init_103 : decode cX8_init 103 = .ok (.newarray .int, 2) := by decide +kernel
theorem dX8_init_105 : decode cX8_init 105 = .ok (.putfield 45, 3) := by decide +kernel
theorem dX8_init_108 : decode cX8_init 108 = .ok (.aload_n 0, 1) := by decide +kernel
theorem dX8_init_109 : decode cX8_init 109 = .ok (.bipush 16, 2) := by decide +kernel
theorem dX8_init_111 : decode cX8_init 111 = .ok (.newarray .boolean, 2) := by decide +kernel
theorem dX8_init_113 : decode cX8_init 113 = .ok (.putfield 48, 3) := by decide +kernel
theorem dX8_init_116 : decode cX8_init 116 = .ok (.aload_n 0, 1) := by decide +kernel
theorem dX8_init_117 : decode cX8_init 117 = .ok (.bipush 7, 2) := by decide +kernel
theorem dX8_init_119 : decode cX8_init 119 = .ok (.newarray .long, 2) := by decide +kernel
theorem dX8_init_121 : decode cX8_init 121 = .ok (.putfield 51, 3) := by decide +kernel
theorem dX8_init_124 : decode cX8_init 124 = .ok (.aload_n 0, 1) := by decide +kernel
theorem dX8_init_125 : decode cX8_init 125 = .ok (.bipush 12, 2) := by decide +kernel
theorem dX8_init_127 : decode cX8_init 127 = .ok (.newarray .long, 2) := by decide +kernel
theorem dX8_init_129 : decode cX8_init 129 = .ok (.putfield 55, 3) := by decide +kernel
theorem dX8_init_132 : decode cX8_init 132 = .ok (.aload_n 0, 1) := by decide +kernel
theorem dX8_init_133 : decode cX8_init 133 = .ok (.iconst 4, 1) := by decide +kernel
theorem dX8_init_134 : decode cX8_init 134 = .ok (.newarray .int, 2) := by decide +kernel
theorem dX8_init_136 : decode cX8_init 136 = .ok (.putfield 58, 3) := by decide +kernel
theorem dX8_init_139 : decode cX8_init 139 = .ok (.aload_n 0, 1) := by decide +kernel
theorem dX8_init_140 : decode cX8_init 140 = .ok (.iconst 4, 1) := by decide +kernel
theorem dX8_init_141 : decode cX8_init 141 = .ok (.newarray .long, 2) := by decide +kernel
theorem dX8_init_143 : decode cX8_init 143 = .ok (.putfield 61, 3) := by decide +kernel
theorem dX8_init_146 : decode cX8_init 146 = .ok (.aload_n 0, 1) := by decide +kernel
theorem dX8_init_147 : decode cX8_init 147 = .ok (.iconst 4, 1) := by decide +kernel
theorem dX8_init_148 : decode cX8_init 148 = .ok (.newarray .long, 2) := by decide +kernel
theorem dX8_init_150 : decode cX8_init 150 = .ok (.putfield 64, 3) := by decide +kernel
theorem dX8_init_153 : decode cX8_init 153 = .ok (.aload_n 0, 1) := by decide +kernel
theorem dX8_init_154 : decode cX8_init 154 = .ok (.bipush 16, 2) := by decide +kernel
theorem dX8_init_156 : decode cX8_init 156 = .ok (.newarray .int, 2) := by decide +kernel
theorem dX8_init_158 : decode cX8_init 158 = .ok (.putfield 67, 3) := by decide +kernel
theorem dX8_init_161 : decode cX8_init 161 = .ok (.aload_n 0, 1) := by decide +kernel
theorem dX8_init_162 : decode cX8_init 162 = .ok (.bipush 16, 2) := by decide +kernel
theorem dX8_init_164 : decode cX8_init 164 = .ok (.newarray .int, 2) := by decide +kernel
theorem dX8_init_166 : decode cX8_init 166 = .ok (.putfield 70, 3) := by decide +kernel
theorem dX8_init_169 : decode cX8_init 169 = .ok (.aload_n 0, 1) := by decide +kernel
theorem dX8_init_170 : decode cX8_init 170 = .ok (.bipush 8, 2) := by decide +kernel
theorem dX8_init_172 : decode cX8_init 172 = .ok (.newarray .int, 2) := by decide +kernel
theorem dX8_init_174 : decode cX8_init 174 = .ok (.putfield 73, 3) := by decide +kernel
theorem dX8_init_177 : decode cX8_init 177 = .ok (.aload_n 0, 1) := by decide +kernel
theorem dX8_init_178 : decode cX8_init 178 = .ok (.iconst 4, 1) := by decide +kernel
theorem dX8_init_179 : decode cX8_init 179 = .ok (.newarray .int, 2) := by decide +kernel
theorem dX8_init_181 : decode cX8_init 181 = .ok (.putfield 76, 3) := by decide +kernel
theorem dX8_init_184 : decode cX8_init 184 = .ok (.aload_n 0, 1) := by decide +kernel
theorem dX8_init_185 : decode cX8_init 185 = .ok (.bipush 16, 2) := by decide +kernel
theorem dX8_init_187 : decode cX8_init 187 = .ok (.newarray .long, 2) := by decide +kernel
theorem dX8_init_189 : decode cX8_init 189 = .ok (.putfield 79, 3) := by decide +kernel
theorem dX8_init_192 : decode cX8_init 192 = .ok (.aload_n 0, 1) := by decide +kernel
theorem dX8_init_193 : decode cX8_init 193 = .ok (.iconst 4, 1) := by decide +kernel
theorem dX8_init_194 : decode cX8_init 194 = .ok (.newarray .long, 2) := by decide +kernel
theorem dX8_init_196 : decode cX8_init 196 = .ok (.putfield 82, 3) := by decide +kernel
theorem dX8_init_199 : decode cX8_init 199 = .ok (.aload_n 0, 1) := by decide +kernel
theorem dX8_init_200 : decode cX8_init 200 = .ok (.bipush 8, 2) := by decide +kernel
theorem dX8_init_202 : decode cX8_init 202 = .ok (.newarray .long, 2) := by decide +kernel
theorem dX8_init_204 : decode cX8_init 204 = .ok (.putfield 85, 3) := by decide +kernel
theorem dX8_init_207 : decode cX8_init 207 = .ok (.aload_n 0, 1) := by decide +kernel
theorem dX8_init_208 : decode cX8_init 208 = .ok (.bipush 8, 2) := by decide +kernel
theorem dX8_init_210 : decode cX8_init 210 = .ok (.newarray .boolean, 2) := by decide +kernel
theorem dX8_init_212 : decode cX8_init 212 = .ok (.putfield 88, 3) := by decide +kernel
theorem dX8_init_215 : decode cX8_init 215 = .ok (.return_, 1) := by decide +kernel
theorem dX8_thrown_0 : decode cX8_thrown 0 = .ok (.aload_n 0, 1) := by decide +kernel
theorem dX8_thrown_1 : decode cX8_thrown 1 = .ok (.getfield 91, 3) := by decide +kernel
theorem dX8_thrown_4 : decode cX8_thrown 4 = .ok (.ireturn, 1) := by decide +kernel
theorem dX8_throwsIf_0 : decode cX8_throwsIf 0 = .ok (.aload_n 0, 1) := by decide +kernel
theorem dX8_throwsIf_1 : decode cX8_throwsIf 1 = .ok (.iload_n 1, 1) := by decide +kernel
theorem dX8_throwsIf_2 : decode cX8_throwsIf 2 = .ok (.ifCond .eq 7, 3) := by decide +kernel
theorem dX8_throwsIf_5 : decode cX8_throwsIf 5 = .ok (.iconst 1, 1) := by decide +kernel
theorem dX8_throwsIf_6 : decode cX8_throwsIf 6 = .ok (.goto 4, 3) := by decide +kernel
theorem dX8_throwsIf_9 : decode cX8_throwsIf 9 = .ok (.iconst 0, 1) := by decide +kernel
theorem dX8_throwsIf_10 : decode cX8_throwsIf 10 = .ok (.putfield 91, 3) := by decide +kernel
theorem dX8_throwsIf_13 : decode cX8_throwsIf 13 = .ok (.iload_n 1, 1) := by decide +kernel
theorem dX8_throwsIf_14 : decode cX8_throwsIf 14 = .ok (.ireturn, 1) := by decide +kernel
theorem dX8_feed_0 : decode cX8_feed 0 = .ok (.aload_n 0, 1) := by decide +kernel
theorem dX8_feed_1 : decode cX8_feed 1 = .ok (.iconst 0, 1) := by decide +kernel
theorem dX8_feed_2 : decode cX8_feed 2 = .ok (.putfield 91, 3) := by decide +kernel
theorem dX8_feed_5 : decode cX8_feed 5 = .ok (.aload_n 0, 1) := by decide +kernel
theorem dX8_feed_6 : decode cX8_feed 6 = .ok (.getfield 95, 3) := by decide +kernel
theorem dX8_feed_9 : decode cX8_feed 9 = .ok (.bipush 20, 2) := by decide +kernel
theorem dX8_feed_11 : decode cX8_feed 11 = .ok (.iadd, 1) := by decide +kernel
theorem dX8_feed_12 : decode cX8_feed 12 = .ok (.sipush 200, 3) := by decide +kernel
theorem dX8_feed_15 : decode cX8_feed 15 = .ok (.if_icmp .le 5, 3) := by decide +kernel
theorem dX8_feed_18 : decode cX8_feed 18 = .ok (.iconst (-1), 1) := by decide +kernel
theorem dX8_feed_19 : decode cX8_feed 19 = .ok (.ireturn, 1) := by decide +kernel
theorem dX8_feed_20 : decode cX8_feed 20 = .ok (.aload_n 0, 1) := by decide +kernel
theorem dX8_feed_21 : decode cX8_feed 21 = .ok (.iload_n 1, 1) := by decide +kernel
theorem dX8_feed_22 : decode cX8_feed 22 = .ok (.invokevirtual 98, 3) := by decide +kernel
theorem dX8_feed_25 : decode cX8_feed 25 = .ok (.aload_n 0, 1) := by decide +kernel
theorem dX8_feed_26 : decode cX8_feed 26 = .ok (.iload_n 2, 1) := by decide +kernel
theorem dX8_feed_27 : decode cX8_feed 27 = .ok (.invokevirtual 98, 3) := by decide +kernel
theorem dX8_feed_30 : decode cX8_feed 30 = .ok (.aload_n 0, 1) := by decide +kernel
theorem dX8_feed_31 : decode cX8_feed 31 = .ok (.iload_n 3, 1) := by decide +kernel
theorem dX8_feed_32 : decode cX8_feed 32 = .ok (.invokevirtual 98, 3) := by decide +kernel
theorem dX8_feed_35 : decode cX8_feed 35 = .ok (.aload_n 0, 1) := by decide +kernel
theorem dX8_feed_36 : decode cX8_feed 36 = .ok (.iload 4, 2) := by decide +kernel
theorem dX8_feed_38 : decode cX8_feed 38 = .ok (.invokevirtual 98, 3) := by decide +kernel
theorem dX8_feed_41 : decode cX8_feed 41 = .ok (.aload_n 0, 1) := by decide +kernel
theorem dX8_feed_42 : decode cX8_feed 42 = .ok (.iload 5, 2) := by decide +kernel
theorem dX8_feed_44 : decode cX8_feed 44 = .ok (.invokevirtual 98, 3) := by decide +kernel
theorem dX8_feed_47 : decode cX8_feed 47 = .ok (.aload_n 0, 1) := by decide +kernel
theorem dX8_feed_48 : decode cX8_feed 48 = .ok (.getfield 95, 3) := by decide +kernel
theorem dX8_feed_51 : decode cX8_feed 51 = .ok (.ireturn, 1) := by decide +kernel
theorem dX8_four_0 : decode cX8_four 0 = .ok (.bipush 24, 2) := by decide +kernel
theorem dX8_four_2 : decode cX8_four 2 = .ok (.istore_n 2, 1) := by decide +kernel
theorem dX8_four_3 : decode cX8_four 3 = .ok (.iload_n 2, 1) := by decide +kernel
theorem dX8_four_4 : decode cX8_four 4 = .ok (.ifCond .lt 32, 3) := by decide +kernel
theorem dX8_four_7 : decode cX8_four 7 = .ok (.aload_n 0, 1) := by decide +kernel
theorem dX8_four_8 : decode cX8_four 8 = .ok (.getfield 7, 3) := by decide +kernel
theorem dX8_four_11 : decode cX8_four 11 = .ok (.aload_n 0, 1) := by decide +kernel
theorem dX8_four_12 : decode cX8_four 12 = .ok (.getfield 95, 3) := by decide +kernel
theorem dX8_four_15 : decode cX8_four 15 = .ok (.iload_n 1, 1) := by decide +kernel
theorem dX8_four_16 : decode cX8_four 16 = .ok (.iload_n 2, 1) := by decide +kernel
theorem dX8_four_17 : decode cX8_four 17 = .ok (.ishr, 1) := by decide +kernel
theorem dX8_four_18 : decode cX8_four 18 = .ok (.i2b, 1) := by decide +kernel
theorem dX8_four_19 : decode cX8_four 19 = .ok (.bastore, 1) := by decide +kernel
theorem dX8_four_20 : decode cX8_four 20 = .ok (.aload_n 0, 1) := by decide +kernel
theorem dX8_four_21 : decode cX8_four 21 = .ok (.dup, 1) := by decide +kernel
theorem dX8_four_22 : decode cX8_four 22 = .ok (.getfield 95, 3) := by decide +kernel
theorem dX8_four_25 : decode cX8_four 25 = .ok (.iconst 1, 1) := by decide +kernel
theorem dX8_four_26 : decode cX8_four 26 = .ok (.iadd, 1) := by decide +kernel
theorem dX8_four_27 : decode cX8_four 27 = .ok (.putfield 95, 3) := by decide +kernel
theorem dX8_four_30 : decode cX8_four 30 = .ok (.iinc 2 (-8), 3) := by decide +kernel
theorem dX8_four_33 : decode cX8_four 33 = .ok (.goto (-30), 3) := by decide +kernel
theorem dX8_four_36 : decode cX8_four 36 = .ok (.return_, 1) := by decide +kernel
theorem dX8_end_0 : decode cX8_end 0 = .ok (.aload_n 0, 1) := by decide +kernel
theorem dX8_end_1 : decode cX8_end 1 = .ok (.iconst 0, 1) := by decide +kernel
theorem dX8_end_2 : decode cX8_end 2 = .ok (.putfield 91, 3) := by decide +kernel
theorem dX8_end_5 : decode cX8_end 5 = .ok (.iload_n 1, 1) := by decide +kernel
theorem dX8_end_6 : decode cX8_end 6 = .ok (.ifCond .lt 11, 3) := by decide +kernel
theorem dX8_end_9 : decode cX8_end 9 = .ok (.iload_n 1, 1) := by decide +kernel
theorem dX8_end_10 : decode cX8_end 10 = .ok (.aload_n 0, 1) := by decide +kernel
theorem dX8_end_11 : decode cX8_end 11 = .ok (.getfield 95, 3) := by decide +kernel
theorem dX8_end_14 : decode cX8_end 14 = .ok (.if_icmp .le 5, 3) := by decide +kernel
theorem dX8_end_17 : decode cX8_end 17 = .ok (.iconst 0, 1) := by decide +kernel
theorem dX8_end_18 : decode cX8_end 18 = .ok (.ireturn, 1) := by decide +kernel
theorem dX8_end_19 : decode cX8_end 19 = .ok (.aload_n 0, 1) := by decide +kernel
theorem dX8_end_20 : decode cX8_end 20 = .ok (.iload_n 1, 1) := by decide +kernel
theorem dX8_end_21 : decode cX8_end 21 = .ok (.putfield 95, 3) := by decide +kernel
theorem dX8_end_24 : decode cX8_end 24 = .ok (.iconst 1, 1) := by decide +kernel
theorem dX8_end_25 : decode cX8_end 25 = .ok (.ireturn, 1) := by decide +kernel
theorem dX8_taken_0 : decode cX8_taken 0 = .ok (.aload_n 0, 1) := by decide +kernel
theorem dX8_taken_1 : decode cX8_taken 1 = .ok (.getfield 95, 3) := by decide +kernel
theorem dX8_taken_4 : decode cX8_taken 4 = .ok (.istore_n 1, 1) := by decide +kernel
theorem dX8_taken_5 : decode cX8_taken 5 = .ok (.aload_n 0, 1) := by decide +kernel
theorem dX8_taken_6 : decode cX8_taken 6 = .ok (.iconst 0, 1) := by decide +kernel
theorem dX8_taken_7 : decode cX8_taken 7 = .ok (.putfield 95, 3) := by decide +kernel
theorem dX8_taken_10 : decode cX8_taken 10 = .ok (.iload_n 1, 1) := by decide +kernel
theorem dX8_taken_11 : decode cX8_taken 11 = .ok (.ireturn, 1) := by decide +kernel
theorem dX8_at_0 : decode cX8_at 0 = .ok (.aload_n 0, 1) := by decide +kernel
theorem dX8_at_1 : decode cX8_at 1 = .ok (.getfield 7, 3) := by decide +kernel
theorem dX8_at_4 : decode cX8_at 4 = .ok (.iload_n 1, 1) := by decide +kernel
theorem dX8_at_5 : decode cX8_at 5 = .ok (.baload, 1) := by decide +kernel
theorem dX8_at_6 : decode cX8_at 6 = .ok (.sipush 255, 3) := by decide +kernel
theorem dX8_at_9 : decode cX8_at 9 = .ok (.iand, 1) := by decide +kernel
theorem dX8_at_10 : decode cX8_at 10 = .ok (.ireturn, 1) := by decide +kernel
theorem dX8_isRoad_0 : decode cX8_isRoad 0 = .ok (.iload_n 1, 1) := by decide +kernel
theorem dX8_isRoad_1 : decode cX8_isRoad 1 = .ok (.ifCond .lt 22, 3) := by decide +kernel
theorem dX8_isRoad_4 : decode cX8_isRoad 4 = .ok (.iload_n 1, 1) := by decide +kernel
theorem dX8_isRoad_5 : decode cX8_isRoad 5 = .ok (.bipush 16, 2) := by decide +kernel
theorem dX8_isRoad_7 : decode cX8_isRoad 7 = .ok (.if_icmp .ge 16, 3) := by decide +kernel
theorem dX8_isRoad_10 : decode cX8_isRoad 10 = .ok (.aload_n 0, 1) := by decide +kernel
theorem dX8_isRoad_11 : decode cX8_isRoad 11 = .ok (.getfield 13, 3) := by decide +kernel
theorem dX8_isRoad_14 : decode cX8_isRoad 14 = .ok (.iload_n 1, 1) := by decide +kernel
theorem dX8_isRoad_15 : decode cX8_isRoad 15 = .ok (.baload, 1) := by decide +kernel
theorem dX8_isRoad_16 : decode cX8_isRoad 16 = .ok (.ifCond .eq 7, 3) := by decide +kernel
theorem dX8_isRoad_19 : decode cX8_isRoad 19 = .ok (.iconst 1, 1) := by decide +kernel
theorem dX8_isRoad_20 : decode cX8_isRoad 20 = .ok (.goto 4, 3) := by decide +kernel
theorem dX8_isRoad_23 : decode cX8_isRoad 23 = .ok (.iconst 0, 1) := by decide +kernel
theorem dX8_isRoad_24 : decode cX8_isRoad 24 = .ok (.ireturn, 1) := by decide +kernel
theorem dX8_isDay_0 : decode cX8_isDay 0 = .ok (.iload_n 0, 1) := by decide +kernel
theorem dX8_isDay_1 : decode cX8_isDay 1 = .ok (.ifCond .lt 13, 3) := by decide +kernel
theorem dX8_isDay_4 : decode cX8_isDay 4 = .ok (.iload_n 0, 1) := by decide +kernel
theorem dX8_isDay_5 : decode cX8_isDay 5 = .ok (.bipush 84, 2) := by decide +kernel
theorem dX8_isDay_7 : decode cX8_isDay 7 = .ok (.if_icmp .ge 7, 3) := by decide +kernel
theorem dX8_isDay_10 : decode cX8_isDay 10 = .ok (.iconst 1, 1) := by decide +kernel
theorem dX8_isDay_11 : decode cX8_isDay 11 = .ok (.goto 4, 3) := by decide +kernel
theorem dX8_isDay_14 : decode cX8_isDay 14 = .ok (.iconst 0, 1) := by decide +kernel
theorem dX8_isDay_15 : decode cX8_isDay 15 = .ok (.ireturn, 1) := by decide +kernel
theorem dX8_road_0 : decode cX8_road 0 = .ok (.aload_n 0, 1) := by decide +kernel
theorem dX8_road_1 : decode cX8_road 1 = .ok (.iconst 0, 1) := by decide +kernel
theorem dX8_road_2 : decode cX8_road 2 = .ok (.putfield 91, 3) := by decide +kernel
theorem dX8_road_5 : decode cX8_road 5 = .ok (.iload_n 1, 1) := by decide +kernel
theorem dX8_road_6 : decode cX8_road 6 = .ok (.ifCond .lt 55, 3) := by decide +kernel
theorem dX8_road_9 : decode cX8_road 9 = .ok (.iload_n 1, 1) := by decide +kernel
theorem dX8_road_10 : decode cX8_road 10 = .ok (.bipush 16, 2) := by decide +kernel
theorem dX8_road_12 : decode cX8_road 12 = .ok (.if_icmp .ge 49, 3) := by decide +kernel
theorem dX8_road_15 : decode cX8_road 15 = .ok (.aload_n 0, 1) := by decide +kernel
theorem dX8_road_16 : decode cX8_road 16 = .ok (.getfield 13, 3) := by decide +kernel
theorem dX8_road_19 : decode cX8_road 19 = .ok (.iload_n 1, 1) := by decide +kernel
theorem dX8_road_20 : decode cX8_road 20 = .ok (.baload, 1) := by decide +kernel
theorem dX8_road_21 : decode cX8_road 21 = .ok (.ifCond .ne 40, 3) := by decide +kernel
theorem dX8_road_24 : decode cX8_road 24 = .ok (.iload_n 2, 1) := by decide +kernel
theorem dX8_road_25 : decode cX8_road 25 = .ok (.ifCond .lt 36, 3) := by decide +kernel
theorem dX8_road_28 : decode cX8_road 28 = .ok (.iload_n 2, 1) := by decide +kernel
theorem dX8_road_29 : decode cX8_road 29 = .ok (.bipush 8, 2) := by decide +kernel
theorem dX8_road_31 : decode cX8_road 31 = .ok (.if_icmp .ge 30, 3) := by decide +kernel
theorem dX8_road_34 : decode cX8_road 34 = .ok (.iload_n 3, 1) := by decide +kernel
theorem dX8_road_35 : decode cX8_road 35 = .ok (.ifCond .lt 26, 3) := by decide +kernel
theorem dX8_road_38 : decode cX8_road 38 = .ok (.iload_n 3, 1) := by decide +kernel
theorem dX8_road_39 : decode cX8_road 39 = .ok (.bipush 8, 2) := by decide +kernel
theorem dX8_road_41 : decode cX8_road 41 = .ok (.if_icmp .ge 20, 3) := by decide +kernel
theorem dX8_road_44 : decode cX8_road 44 = .ok (.iload_n 2, 1) := by decide +kernel
theorem dX8_road_45 : decode cX8_road 45 = .ok (.iload_n 3, 1) := by decide +kernel
theorem dX8_road_46 : decode cX8_road 46 = .ok (.if_icmp .eq 15, 3) := by decide +kernel
theorem dX8_road_49 : decode cX8_road 49 = .ok (.iload 4, 2) := by decide +kernel
theorem dX8_road_51 : decode cX8_road 51 = .ok (.iconst (-1), 1) := by decide +kernel
theorem dX8_road_52 : decode cX8_road 52 = .ok (.if_icmp .lt 9, 3) := by decide +kernel
theorem dX8_road_55 : decode cX8_road 55 = .ok (.iload 4, 2) := by decide +kernel
theorem dX8_road_57 : decode cX8_road 57 = .ok (.iconst 4, 1) := by decide +kernel
theorem dX8_road_58 : decode cX8_road 58 = .ok (.if_icmp .lt 5, 3) := by decide +kernel
theorem dX8_road_61 : decode cX8_road 61 = .ok (.iconst 0, 1) := by decide +kernel
theorem dX8_road_62 : decode cX8_road 62 = .ok (.ireturn, 1) := by decide +kernel
theorem dX8_road_63 : decode cX8_road 63 = .ok (.aload_n 0, 1) := by decide +kernel
theorem dX8_road_64 : decode cX8_road 64 = .ok (.getfield 13, 3) := by decide +kernel
theorem dX8_road_67 : decode cX8_road 67 = .ok (.iload_n 1, 1) := by decide +kernel
theorem dX8_road_68 : decode cX8_road 68 = .ok (.iconst 1, 1) := by decide +kernel
theorem dX8_road_69 : decode cX8_road 69 = .ok (.bastore, 1) := by decide +kernel
theorem dX8_road_70 : decode cX8_road 70 = .ok (.aload_n 0, 1) := by decide +kernel
theorem dX8_road_71 : decode cX8_road 71 = .ok (.getfield 20, 3) := by decide +kernel
theorem dX8_road_74 : decode cX8_road 74 = .ok (.iload_n 1, 1) := by decide +kernel
theorem dX8_road_75 : decode cX8_road 75 = .ok (.iload_n 2, 1) := by decide +kernel
theorem dX8_road_76 : decode cX8_road 76 = .ok (.iastore, 1) := by decide +kernel
theorem dX8_road_77 : decode cX8_road 77 = .ok (.aload_n 0, 1) := by decide +kernel
theorem dX8_road_78 : decode cX8_road 78 = .ok (.getfield 24, 3) := by decide +kernel
theorem dX8_road_81 : decode cX8_road 81 = .ok (.iload_n 1, 1) := by decide +kernel
theorem dX8_road_82 : decode cX8_road 82 = .ok (.iload_n 3, 1) := by decide +kernel
theorem dX8_road_83 : decode cX8_road 83 = .ok (.iastore, 1) := by decide +kernel
theorem dX8_road_84 : decode cX8_road 84 = .ok (.aload_n 0, 1) := by decide +kernel
theorem dX8_road_85 : decode cX8_road 85 = .ok (.getfield 27, 3) := by decide +kernel
theorem dX8_road_88 : decode cX8_road 88 = .ok (.iload_n 1, 1) := by decide +kernel
theorem dX8_road_89 : decode cX8_road 89 = .ok (.iload 4, 2) := by decide +kernel
theorem dX8_road_91 : decode cX8_road 91 = .ok (.iastore, 1) := by decide +kernel
theorem dX8_road_92 : decode cX8_road 92 = .ok (.iconst 1, 1) := by decide +kernel
theorem dX8_road_93 : decode cX8_road 93 = .ok (.ireturn, 1) := by decide +kernel
theorem dX8_enter_0 : decode cX8_enter 0 = .ok (.aload_n 0, 1) := by decide +kernel
theorem dX8_enter_1 : decode cX8_enter 1 = .ok (.getfield 30, 3) := by decide +kernel
theorem dX8_enter_4 : decode cX8_enter 4 = .ok (.aload_n 0, 1) := by decide +kernel
theorem dX8_enter_5 : decode cX8_enter 5 = .ok (.getfield 102, 3) := by decide +kernel
theorem dX8_enter_8 : decode cX8_enter 8 = .ok (.iload_n 1, 1) := by decide +kernel
theorem dX8_enter_9 : decode cX8_enter 9 = .ok (.iastore, 1) := by decide +kernel
theorem dX8_enter_10 : decode cX8_enter 10 = .ok (.aload_n 0, 1) := by decide +kernel
theorem dX8_enter_11 : decode cX8_enter 11 = .ok (.getfield 33, 3) := by decide +kernel
theorem dX8_enter_14 : decode cX8_enter 14 = .ok (.aload_n 0, 1) := by decide +kernel
theorem dX8_enter_15 : decode cX8_enter 15 = .ok (.getfield 102, 3) := by decide +kernel
theorem dX8_enter_18 : decode cX8_enter 18 = .ok (.iload_n 2, 1) := by decide +kernel
theorem dX8_enter_19 : decode cX8_enter 19 = .ok (.iastore, 1) := by decide +kernel
theorem dX8_enter_20 : decode cX8_enter 20 = .ok (.aload_n 0, 1) := by decide +kernel
theorem dX8_enter_21 : decode cX8_enter 21 = .ok (.getfield 36, 3) := by decide +kernel
theorem dX8_enter_24 : decode cX8_enter 24 = .ok (.aload_n 0, 1) := by decide +kernel
theorem dX8_enter_25 : decode cX8_enter 25 = .ok (.getfield 102, 3) := by decide +kernel
theorem dX8_enter_28 : decode cX8_enter 28 = .ok (.aload_n 0, 1) := by decide +kernel
theorem dX8_enter_29 : decode cX8_enter 29 = .ok (.getfield 105, 3) := by decide +kernel
theorem dX8_enter_32 : decode cX8_enter 32 = .ok (.iastore, 1) := by decide +kernel
theorem dX8_enter_33 : decode cX8_enter 33 = .ok (.aload_n 0, 1) := by decide +kernel
theorem dX8_enter_34 : decode cX8_enter 34 = .ok (.getfield 39, 3) := by decide +kernel
theorem dX8_enter_37 : decode cX8_enter 37 = .ok (.aload_n 0, 1) := by decide +kernel
theorem dX8_enter_38 : decode cX8_enter 38 = .ok (.getfield 102, 3) := by decide +kernel
theorem dX8_enter_41 : decode cX8_enter 41 = .ok (.iload_n 3, 1) := by decide +kernel
theorem dX8_enter_42 : decode cX8_enter 42 = .ok (.iastore, 1) := by decide +kernel
theorem dX8_enter_43 : decode cX8_enter 43 = .ok (.aload_n 0, 1) := by decide +kernel
theorem dX8_enter_44 : decode cX8_enter 44 = .ok (.getfield 42, 3) := by decide +kernel
theorem dX8_enter_47 : decode cX8_enter 47 = .ok (.iconst 3, 1) := by decide +kernel
theorem dX8_enter_48 : decode cX8_enter 48 = .ok (.aload_n 0, 1) := by decide +kernel
theorem dX8_enter_49 : decode cX8_enter 49 = .ok (.getfield 102, 3) := by decide +kernel
theorem dX8_enter_52 : decode cX8_enter 52 = .ok (.imul, 1) := by decide +kernel
theorem dX8_enter_53 : decode cX8_enter 53 = .ok (.iload 4, 2) := by decide +kernel
theorem dX8_enter_55 : decode cX8_enter 55 = .ok (.iastore, 1) := by decide +kernel
theorem dX8_enter_56 : decode cX8_enter 56 = .ok (.aload_n 0, 1) := by decide +kernel
theorem dX8_enter_57 : decode cX8_enter 57 = .ok (.getfield 42, 3) := by decide +kernel
theorem dX8_enter_60 : decode cX8_enter 60 = .ok (.iconst 3, 1) := by decide +kernel
theorem dX8_enter_61 : decode cX8_enter 61 = .ok (.aload_n 0, 1) := by decide +kernel
theorem dX8_enter_62 : decode cX8_enter 62 = .ok (.getfield 102, 3) := by decide +kernel
theorem dX8_enter_65 : decode cX8_enter 65 = .ok (.imul, 1) := by decide +kernel
theorem dX8_enter_66 : decode cX8_enter 66 = .ok (.iconst 1, 1) := by decide +kernel
theorem dX8_enter_67 : decode cX8_enter 67 = .ok (.iadd, 1) := by decide +kernel
theorem dX8_enter_68 : decode cX8_enter 68 = .ok (.iload 5, 2) := by decide +kernel
theorem dX8_enter_70 : decode cX8_enter 70 = .ok (.iastore, 1) := by decide +kernel
theorem dX8_enter_71 : decode cX8_enter 71 = .ok (.aload_n 0, 1) := by decide +kernel
theorem dX8_enter_72 : decode cX8_enter 72 = .ok (.getfield 42, 3) := by decide +kernel
theorem dX8_enter_75 : decode cX8_enter 75 = .ok (.iconst 3, 1) := by decide +kernel
theorem dX8_enter_76 : decode cX8_enter 76 = .ok (.aload_n 0, 1) := by decide +kernel
theorem dX8_enter_77 : decode cX8_enter 77 = .ok (.getfield 102, 3) := by decide +kernel
theorem dX8_enter_80 : decode cX8_enter 80 = .ok (.imul, 1) := by decide +kernel
theorem dX8_enter_81 : decode cX8_enter 81 = .ok (.iconst 2, 1) := by decide +kernel
theorem dX8_enter_82 : decode cX8_enter 82 = .ok (.iadd, 1) := by decide +kernel
theorem dX8_enter_83 : decode cX8_enter 83 = .ok (.iload 6, 2) := by decide +kernel
theorem dX8_enter_85 : decode cX8_enter 85 = .ok (.iastore, 1) := by decide +kernel
theorem dX8_enter_86 : decode cX8_enter 86 = .ok (.aload_n 0, 1) := by decide +kernel
theorem dX8_enter_87 : decode cX8_enter 87 = .ok (.dup, 1) := by decide +kernel
theorem dX8_enter_88 : decode cX8_enter 88 = .ok (.getfield 102, 3) := by decide +kernel
theorem dX8_enter_91 : decode cX8_enter 91 = .ok (.iconst 1, 1) := by decide +kernel
theorem dX8_enter_92 : decode cX8_enter 92 = .ok (.iadd, 1) := by decide +kernel
theorem dX8_enter_93 : decode cX8_enter 93 = .ok (.putfield 102, 3) := by decide +kernel
theorem dX8_enter_96 : decode cX8_enter 96 = .ok (.return_, 1) := by decide +kernel
theorem dX8_count_0 : decode cX8_count 0 = .ok (.aload_n 0, 1) := by decide +kernel
theorem dX8_count_1 : decode cX8_count 1 = .ok (.iconst 0, 1) := by decide +kernel
theorem dX8_count_2 : decode cX8_count 2 = .ok (.putfield 91, 3) := by decide +kernel
theorem dX8_count_5 : decode cX8_count 5 = .ok (.aload_n 0, 1) := by decide +kernel
theorem dX8_count_6 : decode cX8_count 6 = .ok (.invokevirtual 108, 3) := by decide +kernel
theorem dX8_count_9 : decode cX8_count 9 = .ok (.istore_n 3, 1) := by decide +kernel
theorem dX8_count_10 : decode cX8_count 10 = .ok (.aload_n 0, 1) := by decide +kernel
theorem dX8_count_11 : decode cX8_count 11 = .ok (.iload_n 1, 1) := by decide +kernel
theorem dX8_count_12 : decode cX8_count 12 = .ok (.invokevirtual 112, 3) := by decide +kernel
theorem dX8_count_15 : decode cX8_count 15 = .ok (.ifCond .eq 26, 3) := by decide +kernel
theorem dX8_count_18 : decode cX8_count 18 = .ok (.iload_n 2, 1) := by decide +kernel
theorem dX8_count_19 : decode cX8_count 19 = .ok (.invokestatic 116, 3) := by decide +kernel
theorem dX8_count_22 : decode cX8_count 22 = .ok (.ifCond .eq 19, 3) := by decide +kernel
theorem dX8_count_25 : decode cX8_count 25 = .ok (.iload_n 3, 1) := by decide +kernel
theorem dX8_count_26 : decode cX8_count 26 = .ok (.bipush 7, 2) := by decide +kernel
theorem dX8_count_28 : decode cX8_count 28 = .ok (.if_icmp .ne 13, 3) := by decide +kernel
theorem dX8_count_31 : decode cX8_count 31 = .ok (.aload_n 0, 1) := by decide +kernel
theorem dX8_count_32 : decode cX8_count 32 = .ok (.getfield 102, 3) := by decide +kernel
theorem dX8_count_35 : decode cX8_count 35 = .ok (.sipush 600, 3) := by decide +kernel
theorem dX8_count_38 : decode cX8_count 38 = .ok (.if_icmp .ne 5, 3) := by decide +kernel
theorem dX8_count_41 : decode cX8_count 41 = .ok (.iconst (-1), 1) := by decide +kernel
theorem dX8_count_42 : decode cX8_count 42 = .ok (.ireturn, 1) := by decide +kernel
theorem dX8_count_43 : decode cX8_count 43 = .ok (.aload_n 0, 1) := by decide +kernel
theorem dX8_count_44 : decode cX8_count 44 = .ok (.iconst 0, 1) := by decide +kernel
theorem dX8_count_45 : decode cX8_count 45 = .ok (.invokevirtual 119, 3) := by decide +kernel
theorem dX8_count_48 : decode cX8_count 48 = .ok (.aload_n 0, 1) := by decide +kernel
theorem dX8_count_49 : decode cX8_count 49 = .ok (.iconst 1, 1) := by decide +kernel
theorem dX8_count_50 : decode cX8_count 50 = .ok (.invokevirtual 119, 3) := by decide +kernel
theorem dX8_count_53 : decode cX8_count 53 = .ok (.iadd, 1) := by decide +kernel
theorem dX8_count_54 : decode cX8_count 54 = .ok (.aload_n 0, 1) := by decide +kernel
theorem dX8_count_55 : decode cX8_count 55 = .ok (.iconst 2, 1) := by decide +kernel
theorem dX8_count_56 : decode cX8_count 56 = .ok (.invokevirtual 119, 3) := by decide +kernel
theorem dX8_count_59 : decode cX8_count 59 = .ok (.iadd, 1) := by decide +kernel
theorem dX8_count_60 : decode cX8_count 60 = .ok (.aload_n 0, 1) := by decide +kernel
theorem dX8_count_61 : decode cX8_count 61 = .ok (.iconst 3, 1) := by decide +kernel
theorem dX8_count_62 : decode cX8_count 62 = .ok (.invokevirtual 119, 3) := by decide +kernel
theorem dX8_count_65 : decode cX8_count 65 = .ok (.iadd, 1) := by decide +kernel
theorem dX8_count_66 : decode cX8_count 66 = .ok (.aload_n 0, 1) := by decide +kernel
theorem dX8_count_67 : decode cX8_count 67 = .ok (.iconst 4, 1) := by decide +kernel
theorem dX8_count_68 : decode cX8_count 68 = .ok (.invokevirtual 119, 3) := by decide +kernel
theorem dX8_count_71 : decode cX8_count 71 = .ok (.iadd, 1) := by decide +kernel
theorem dX8_count_72 : decode cX8_count 72 = .ok (.aload_n 0, 1) := by decide +kernel
theorem dX8_count_73 : decode cX8_count 73 = .ok (.iconst 5, 1) := by decide +kernel
theorem dX8_count_74 : decode cX8_count 74 = .ok (.invokevirtual 119, 3) := by decide +kernel
theorem dX8_count_77 : decode cX8_count 77 = .ok (.iadd, 1) := by decide +kernel
theorem dX8_count_78 : decode cX8_count 78 = .ok (.aload_n 0, 1) := by decide +kernel
theorem dX8_count_79 : decode cX8_count 79 = .ok (.bipush 6, 2) := by decide +kernel
theorem dX8_count_81 : decode cX8_count 81 = .ok (.invokevirtual 119, 3) := by decide +kernel
theorem dX8_count_84 : decode cX8_count 84 = .ok (.isub, 1) := by decide +kernel
theorem dX8_count_85 : decode cX8_count 85 = .ok (.istore 4, 2) := by decide +kernel
theorem dX8_count_87 : decode cX8_count 87 = .ok (.iload 4, 2) := by decide +kernel
theorem dX8_count_89 : decode cX8_count 89 = .ok (.ifCond .lt 10, 3) := by decide +kernel
theorem dX8_count_92 : decode cX8_count 92 = .ok (.iload 4, 2) := by decide +kernel
theorem dX8_count_94 : decode cX8_count 94 = .ok (.bipush 50, 2) := by decide +kernel
theorem dX8_count_96 : decode cX8_count 96 = .ok (.if_icmp .le 5, 3) := by decide +kernel
theorem dX8_count_99 : decode cX8_count 99 = .ok (.iconst (-1), 1) := by decide +kernel
theorem dX8_count_100 : decode cX8_count 100 = .ok (.ireturn, 1) := by decide +kernel
theorem dX8_count_101 : decode cX8_count 101 = .ok (.aload_n 0, 1) := by decide +kernel
theorem dX8_count_102 : decode cX8_count 102 = .ok (.iload_n 1, 1) := by decide +kernel
theorem dX8_count_103 : decode cX8_count 103 = .ok (.iload_n 2, 1) := by decide +kernel
theorem dX8_count_104 : decode cX8_count 104 = .ok (.iload 4, 2) := by decide +kernel
theorem dX8_count_106 : decode cX8_count 106 = .ok (.aload_n 0, 1) := by decide +kernel
theorem dX8_count_107 : decode cX8_count 107 = .ok (.iconst 0, 1) := by decide +kernel
theorem dX8_count_108 : decode cX8_count 108 = .ok (.invokevirtual 119, 3) := by decide +kernel
theorem dX8_count_111 : decode cX8_count 111 = .ok (.aload_n 0, 1) := by decide +kernel
theorem dX8_count_112 : decode cX8_count 112 = .ok (.iconst 3, 1) := by decide +kernel
theorem dX8_count_113 : decode cX8_count 113 = .ok (.invokevirtual 119, 3) := by decide +kernel
theorem dX8_count_116 : decode cX8_count 116 = .ok (.iadd, 1) := by decide +kernel
theorem dX8_count_117 : decode cX8_count 117 = .ok (.aload_n 0, 1) := by decide +kernel
theorem dX8_count_118 : decode cX8_count 118 = .ok (.iconst 1, 1) := by decide +kernel
theorem dX8_count_119 : decode cX8_count 119 = .ok (.invokevirtual 119, 3) := by decide +kernel
theorem dX8_count_122 : decode cX8_count 122 = .ok (.aload_n 0, 1) := by decide +kernel
theorem dX8_count_123 : decode cX8_count 123 = .ok (.iconst 4, 1) := by decide +kernel
theorem dX8_count_124 : decode cX8_count 124 = .ok (.invokevirtual 119, 3) := by decide +kernel
theorem dX8_count_127 : decode cX8_count 127 = .ok (.iadd, 1) := by decide +kernel
theorem dX8_count_128 : decode cX8_count 128 = .ok (.aload_n 0, 1) := by decide +kernel
theorem dX8_count_129 : decode cX8_count 129 = .ok (.iconst 2, 1) := by decide +kernel
theorem dX8_count_130 : decode cX8_count 130 = .ok (.invokevirtual 119, 3) := by decide +kernel
theorem dX8_count_133 : decode cX8_count 133 = .ok (.aload_n 0, 1) := by decide +kernel
theorem dX8_count_134 : decode cX8_count 134 = .ok (.iconst 5, 1) := by decide +kernel
theorem dX8_count_135 : decode cX8_count 135 = .ok (.invokevirtual 119, 3) := by decide +kernel
theorem dX8_count_138 : decode cX8_count 138 = .ok (.iadd, 1) := by decide +kernel
theorem dX8_count_139 : decode cX8_count 139 = .ok (.invokevirtual 123, 3) := by decide +kernel
theorem dX8_count_142 : decode cX8_count 142 = .ok (.iload 4, 2) := by decide +kernel
theorem dX8_count_144 : decode cX8_count 144 = .ok (.ireturn, 1) := by decide +kernel
theorem dX8_counts_0 : decode cX8_counts 0 = .ok (.aload_n 0, 1) := by decide +kernel
theorem dX8_counts_1 : decode cX8_counts 1 = .ok (.iconst 0, 1) := by decide +kernel
theorem dX8_counts_2 : decode cX8_counts 2 = .ok (.putfield 91, 3) := by decide +kernel
theorem dX8_counts_5 : decode cX8_counts 5 = .ok (.aload_n 0, 1) := by decide +kernel
theorem dX8_counts_6 : decode cX8_counts 6 = .ok (.invokevirtual 108, 3) := by decide +kernel
theorem dX8_counts_9 : decode cX8_counts 9 = .ok (.istore_n 3, 1) := by decide +kernel
theorem dX8_counts_10 : decode cX8_counts 10 = .ok (.aload_n 0, 1) := by decide +kernel
theorem dX8_counts_11 : decode cX8_counts 11 = .ok (.iload_n 1, 1) := by decide +kernel
theorem dX8_counts_12 : decode cX8_counts 12 = .ok (.invokevirtual 112, 3) := by decide +kernel
theorem dX8_counts_15 : decode cX8_counts 15 = .ok (.ifCond .eq 27, 3) := by decide +kernel
theorem dX8_counts_18 : decode cX8_counts 18 = .ok (.iload_n 2, 1) := by decide +kernel
theorem dX8_counts_19 : decode cX8_counts 19 = .ok (.ifCond .lt 23, 3) := by decide +kernel
theorem dX8_counts_22 : decode cX8_counts 22 = .ok (.iload_n 2, 1) := by decide +kernel
theorem dX8_counts_23 : decode cX8_counts 23 = .ok (.bipush 84, 2) := by decide +kernel
theorem dX8_counts_25 : decode cX8_counts 25 = .ok (.iload_n 3, 1) := by decide +kernel
theorem dX8_counts_26 : decode cX8_counts 26 = .ok (.isub, 1) := by decide +kernel
theorem dX8_counts_27 : decode cX8_counts 27 = .ok (.if_icmp .gt 15, 3) := by decide +kernel
theorem dX8_counts_30 : decode cX8_counts 30 = .ok (.aload_n 0, 1) := by decide +kernel
theorem dX8_counts_31 : decode cX8_counts 31 = .ok (.getfield 102, 3) := by decide +kernel
theorem dX8_counts_34 : decode cX8_counts 34 = .ok (.iload_n 3, 1) := by decide +kernel
theorem dX8_counts_35 : decode cX8_counts 35 = .ok (.iadd, 1) := by decide +kernel
theorem dX8_counts_36 : decode cX8_counts 36 = .ok (.sipush 600, 3) := by decide +kernel
theorem dX8_counts_39 : decode cX8_counts 39 = .ok (.if_icmp .le 5, 3) := by decide +kernel
theorem dX8_counts_42 : decode cX8_counts 42 = .ok (.iconst (-1), 1) := by decide +kernel
theorem dX8_counts_43 : decode cX8_counts 43 = .ok (.ireturn, 1) := by decide +kernel
theorem dX8_counts_44 : decode cX8_counts 44 = .ok (.iconst 0, 1) := by decide +kernel
theorem dX8_counts_45 : decode cX8_counts 45 = .ok (.istore 4, 2) := by decide +kernel
theorem dX8_counts_47 : decode cX8_counts 47 = .ok (.iload 4, 2) := by decide +kernel
theorem dX8_counts_49 : decode cX8_counts 49 = .ok (.iload_n 3, 1) := by decide +kernel
theorem dX8_counts_50 : decode cX8_counts 50 = .ok (.if_icmp .ge 34, 3) := by decide +kernel
theorem dX8_counts_53 : decode cX8_counts 53 = .ok (.aload_n 0, 1) := by decide +kernel
theorem dX8_counts_54 : decode cX8_counts 54 = .ok (.iload 4, 2) := by decide +kernel
theorem dX8_counts_56 : decode cX8_counts 56 = .ok (.invokevirtual 119, 3) := by decide +kernel
theorem dX8_counts_59 : decode cX8_counts 59 = .ok (.sipush 255, 3) := by decide +kernel
theorem dX8_counts_62 : decode cX8_counts 62 = .ok (.if_icmp .eq 16, 3) := by decide +kernel
theorem dX8_counts_65 : decode cX8_counts 65 = .ok (.aload_n 0, 1) := by decide +kernel
theorem dX8_counts_66 : decode cX8_counts 66 = .ok (.iload 4, 2) := by decide +kernel
theorem dX8_counts_68 : decode cX8_counts 68 = .ok (.invokevirtual 119, 3) := by decide +kernel
theorem dX8_counts_71 : decode cX8_counts 71 = .ok (.bipush 50, 2) := by decide +kernel
theorem dX8_counts_73 : decode cX8_counts 73 = .ok (.if_icmp .le 5, 3) := by decide +kernel
theorem dX8_counts_76 : decode cX8_counts 76 = .ok (.iconst (-1), 1) := by decide +kernel
theorem dX8_counts_77 : decode cX8_counts 77 = .ok (.ireturn, 1) := by decide +kernel
theorem dX8_counts_78 : decode cX8_counts 78 = .ok (.iinc 4 1, 3) := by decide +kernel
theorem dX8_counts_81 : decode cX8_counts 81 = .ok (.goto (-34), 3) := by decide +kernel
theorem dX8_counts_84 : decode cX8_counts 84 = .ok (.iconst 0, 1) := by decide +kernel
theorem dX8_counts_85 : decode cX8_counts 85 = .ok (.istore 4, 2) := by decide +kernel
theorem dX8_counts_87 : decode cX8_counts 87 = .ok (.iload 4, 2) := by decide +kernel
theorem dX8_counts_89 : decode cX8_counts 89 = .ok (.iload_n 3, 1) := by decide +kernel
theorem dX8_counts_90 : decode cX8_counts 90 = .ok (.if_icmp .ge 48, 3) := by decide +kernel
theorem dX8_counts_93 : decode cX8_counts 93 = .ok (.aload_n 0, 1) := by decide +kernel
theorem dX8_counts_94 : decode cX8_counts 94 = .ok (.iload_n 1, 1) := by decide +kernel
theorem dX8_counts_95 : decode cX8_counts 95 = .ok (.iload_n 2, 1) := by decide +kernel
theorem dX8_counts_96 : decode cX8_counts 96 = .ok (.iload 4, 2) := by decide +kernel
theorem dX8_counts_98 : decode cX8_counts 98 = .ok (.iadd, 1) := by decide +kernel
theorem dX8_counts_99 : decode cX8_counts 99 = .ok (.aload_n 0, 1) := by decide +kernel
theorem dX8_counts_100 : decode cX8_counts 100 = .ok (.iload 4, 2) := by decide +kernel
theorem dX8_counts_102 : decode cX8_counts 102 = .ok (.invokevirtual 119, 3) := by decide +kernel
theorem dX8_counts_105 : decode cX8_counts 105 = .ok (.sipush 255, 3) := by decide +kernel
theorem dX8_counts_108 : decode cX8_counts 108 = .ok (.if_icmp .ne 7, 3) := by decide +kernel
theorem dX8_counts_111 : decode cX8_counts 111 = .ok (.iconst (-1), 1) := by decide +kernel
theorem dX8_counts_112 : decode cX8_counts 112 = .ok (.goto 9, 3) := by decide +kernel
theorem dX8_counts_115 : decode cX8_counts 115 = .ok (.aload_n 0, 1) := by decide +kernel
theorem dX8_counts_116 : decode cX8_counts 116 = .ok (.iload 4, 2) := by decide +kernel
theorem dX8_counts_118 : decode cX8_counts 118 = .ok (.invokevirtual 119, 3) := by decide +kernel
theorem dX8_counts_121 : decode cX8_counts 121 = .ok (.aload_n 0, 1) := by decide +kernel
theorem dX8_counts_122 : decode cX8_counts 122 = .ok (.iload 4, 2) := by decide +kernel
theorem dX8_counts_124 : decode cX8_counts 124 = .ok (.invokevirtual 119, 3) := by decide +kernel
theorem dX8_counts_127 : decode cX8_counts 127 = .ok (.iconst 0, 1) := by decide +kernel
theorem dX8_counts_128 : decode cX8_counts 128 = .ok (.iconst 0, 1) := by decide +kernel
theorem dX8_counts_129 : decode cX8_counts 129 = .ok (.invokevirtual 123, 3) := by decide +kernel
theorem dX8_counts_132 : decode cX8_counts 132 = .ok (.iinc 4 1, 3) := by decide +kernel
theorem dX8_counts_135 : decode cX8_counts 135 = .ok (.goto (-48), 3) := by decide +kernel
theorem dX8_counts_138 : decode cX8_counts 138 = .ok (.iload_n 3, 1) := by decide +kernel
theorem dX8_counts_139 : decode cX8_counts 139 = .ok (.ireturn, 1) := by decide +kernel
theorem dX8_later_0 : decode cX8_later 0 = .ok (.aload_n 0, 1) := by decide +kernel
theorem dX8_later_1 : decode cX8_later 1 = .ok (.iconst 0, 1) := by decide +kernel
theorem dX8_later_2 : decode cX8_later 2 = .ok (.putfield 91, 3) := by decide +kernel
theorem dX8_later_5 : decode cX8_later 5 = .ok (.aload_n 0, 1) := by decide +kernel
theorem dX8_later_6 : decode cX8_later 6 = .ok (.getfield 105, 3) := by decide +kernel
theorem dX8_later_9 : decode cX8_later 9 = .ok (.bipush 99, 2) := by decide +kernel
theorem dX8_later_11 : decode cX8_later 11 = .ok (.if_icmp .ne 5, 3) := by decide +kernel
theorem dX8_later_14 : decode cX8_later 14 = .ok (.iconst (-1), 1) := by decide +kernel
theorem dX8_later_15 : decode cX8_later 15 = .ok (.ireturn, 1) := by decide +kernel
theorem dX8_later_16 : decode cX8_later 16 = .ok (.aload_n 0, 1) := by decide +kernel
theorem dX8_later_17 : decode cX8_later 17 = .ok (.dup, 1) := by decide +kernel
theorem dX8_later_18 : decode cX8_later 18 = .ok (.getfield 105, 3) := by decide +kernel
theorem dX8_later_21 : decode cX8_later 21 = .ok (.iconst 1, 1) := by decide +kernel
theorem dX8_later_22 : decode cX8_later 22 = .ok (.iadd, 1) := by decide +kernel
theorem dX8_later_23 : decode cX8_later 23 = .ok (.putfield 105, 3) := by decide +kernel
theorem dX8_later_26 : decode cX8_later 26 = .ok (.aload_n 0, 1) := by decide +kernel
theorem dX8_later_27 : decode cX8_later 27 = .ok (.getfield 105, 3) := by decide +kernel
theorem dX8_later_30 : decode cX8_later 30 = .ok (.ireturn, 1) := by decide +kernel
theorem dX8_works_0 : decode cX8_works 0 = .ok (.aload_n 0, 1) := by decide +kernel
theorem dX8_works_1 : decode cX8_works 1 = .ok (.iconst 0, 1) := by decide +kernel
theorem dX8_works_2 : decode cX8_works 2 = .ok (.putfield 91, 3) := by decide +kernel
theorem dX8_works_5 : decode cX8_works 5 = .ok (.aload_n 0, 1) := by decide +kernel
theorem dX8_works_6 : decode cX8_works 6 = .ok (.iload_n 1, 1) := by decide +kernel
theorem dX8_works_7 : decode cX8_works 7 = .ok (.invokevirtual 112, 3) := by decide +kernel
theorem dX8_works_10 : decode cX8_works 10 = .ok (.ifCond .eq 18, 3) := by decide +kernel
theorem dX8_works_13 : decode cX8_works 13 = .ok (.iload_n 2, 1) := by decide +kernel
theorem dX8_works_14 : decode cX8_works 14 = .ok (.ifCond .lt 14, 3) := by decide +kernel
theorem dX8_works_17 : decode cX8_works 17 = .ok (.iload_n 2, 1) := by decide +kernel
theorem dX8_works_18 : decode cX8_works 18 = .ok (.iload_n 3, 1) := by decide +kernel
theorem dX8_works_19 : decode cX8_works 19 = .ok (.if_icmp .gt 9, 3) := by decide +kernel
theorem dX8_works_22 : decode cX8_works 22 = .ok (.iload_n 3, 1) := by decide +kernel
theorem dX8_works_23 : decode cX8_works 23 = .ok (.bipush 84, 2) := by decide +kernel
theorem dX8_works_25 : decode cX8_works 25 = .ok (.if_icmp .le 5, 3) := by decide +kernel
theorem dX8_works_28 : decode cX8_works 28 = .ok (.iconst (-1), 1) := by decide +kernel
theorem dX8_works_29 : decode cX8_works 29 = .ok (.ireturn, 1) := by decide +kernel
theorem dX8_works_30 : decode cX8_works 30 = .ok (.iconst 0, 1) := by decide +kernel
theorem dX8_works_31 : decode cX8_works 31 = .ok (.istore 5, 2) := by decide +kernel
theorem dX8_works_33 : decode cX8_works 33 = .ok (.iload_n 2, 1) := by decide +kernel
theorem dX8_works_34 : decode cX8_works 34 = .ok (.istore 6, 2) := by decide +kernel
theorem dX8_works_36 : decode cX8_works 36 = .ok (.iload 6, 2) := by decide +kernel
theorem dX8_works_38 : decode cX8_works 38 = .ok (.iload_n 3, 1) := by decide +kernel
theorem dX8_works_39 : decode cX8_works 39 = .ok (.if_icmp .ge 50, 3) := by decide +kernel
theorem dX8_works_42 : decode cX8_works 42 = .ok (.iload 5, 2) := by decide +kernel
theorem dX8_works_44 : decode cX8_works 44 = .ok (.aload_n 0, 1) := by decide +kernel
theorem dX8_works_45 : decode cX8_works 45 = .ok (.getfield 17, 3) := by decide +kernel
theorem dX8_works_48 : decode cX8_works 48 = .ok (.bipush 84, 2) := by decide +kernel
theorem dX8_works_50 : decode cX8_works 50 = .ok (.iload_n 1, 1) := by decide +kernel
theorem dX8_works_51 : decode cX8_works 51 = .ok (.imul, 1) := by decide +kernel
theorem dX8_works_52 : decode cX8_works 52 = .ok (.iload 6, 2) := by decide +kernel
theorem dX8_works_54 : decode cX8_works 54 = .ok (.iadd, 1) := by decide +kernel
theorem dX8_works_55 : decode cX8_works 55 = .ok (.baload, 1) := by decide +kernel
theorem dX8_works_56 : decode cX8_works 56 = .ok (.iload 4, 2) := by decide +kernel
theorem dX8_works_58 : decode cX8_works 58 = .ok (.if_icmp .eq 7, 3) := by decide +kernel
theorem dX8_works_61 : decode cX8_works 61 = .ok (.iconst 1, 1) := by decide +kernel
theorem dX8_works_62 : decode cX8_works 62 = .ok (.goto 4, 3) := by decide +kernel
theorem dX8_works_65 : decode cX8_works 65 = .ok (.iconst 0, 1) := by decide +kernel
theorem dX8_works_66 : decode cX8_works 66 = .ok (.iadd, 1) := by decide +kernel
theorem dX8_works_67 : decode cX8_works 67 = .ok (.istore 5, 2) := by decide +kernel
theorem dX8_works_69 : decode cX8_works 69 = .ok (.aload_n 0, 1) := by decide +kernel
theorem dX8_works_70 : decode cX8_works 70 = .ok (.getfield 17, 3) := by decide +kernel
theorem dX8_works_73 : decode cX8_works 73 = .ok (.bipush 84, 2) := by decide +kernel
theorem dX8_works_75 : decode cX8_works 75 = .ok (.iload_n 1, 1) := by decide +kernel
theorem dX8_works_76 : decode cX8_works 76 = .ok (.imul, 1) := by decide +kernel
theorem dX8_works_77 : decode cX8_works 77 = .ok (.iload 6, 2) := by decide +kernel
theorem dX8_works_79 : decode cX8_works 79 = .ok (.iadd, 1) := by decide +kernel
theorem dX8_works_80 : decode cX8_works 80 = .ok (.iload 4, 2) := by decide +kernel
theorem dX8_works_82 : decode cX8_works 82 = .ok (.bastore, 1) := by decide +kernel
theorem dX8_works_83 : decode cX8_works 83 = .ok (.iinc 6 1, 3) := by decide +kernel
theorem dX8_works_86 : decode cX8_works 86 = .ok (.goto (-50), 3) := by decide +kernel
theorem dX8_works_89 : decode cX8_works 89 = .ok (.iload 5, 2) := by decide +kernel
theorem dX8_works_91 : decode cX8_works 91 = .ok (.ireturn, 1) := by decide +kernel
theorem dX8_holds_0 : decode cX8_holds 0 = .ok (.aload_n 0, 1) := by decide +kernel
theorem dX8_holds_1 : decode cX8_holds 1 = .ok (.getfield 102, 3) := by decide +kernel
theorem dX8_holds_4 : decode cX8_holds 4 = .ok (.iconst 1, 1) := by decide +kernel
theorem dX8_holds_5 : decode cX8_holds 5 = .ok (.isub, 1) := by decide +kernel
theorem dX8_holds_6 : decode cX8_holds 6 = .ok (.istore 4, 2) := by decide +kernel
theorem dX8_holds_8 : decode cX8_holds 8 = .ok (.iload 4, 2) := by decide +kernel
theorem dX8_holds_10 : decode cX8_holds 10 = .ok (.ifCond .lt 45, 3) := by decide +kernel
theorem dX8_holds_13 : decode cX8_holds 13 = .ok (.aload_n 0, 1) := by decide +kernel
theorem dX8_holds_14 : decode cX8_holds 14 = .ok (.getfield 30, 3) := by decide +kernel
theorem dX8_holds_17 : decode cX8_holds 17 = .ok (.iload 4, 2) := by decide +kernel
theorem dX8_holds_19 : decode cX8_holds 19 = .ok (.iaload, 1) := by decide +kernel
theorem dX8_holds_20 : decode cX8_holds 20 = .ok (.iload_n 1, 1) := by decide +kernel
theorem dX8_holds_21 : decode cX8_holds 21 = .ok (.if_icmp .ne 28, 3) := by decide +kernel
theorem dX8_holds_24 : decode cX8_holds 24 = .ok (.aload_n 0, 1) := by decide +kernel
theorem dX8_holds_25 : decode cX8_holds 25 = .ok (.getfield 33, 3) := by decide +kernel
theorem dX8_holds_28 : decode cX8_holds 28 = .ok (.iload 4, 2) := by decide +kernel
theorem dX8_holds_30 : decode cX8_holds 30 = .ok (.iaload, 1) := by decide +kernel
theorem dX8_holds_31 : decode cX8_holds 31 = .ok (.iload_n 2, 1) := by decide +kernel
theorem dX8_holds_32 : decode cX8_holds 32 = .ok (.if_icmp .ne 17, 3) := by decide +kernel
theorem dX8_holds_35 : decode cX8_holds 35 = .ok (.aload_n 0, 1) := by decide +kernel
theorem dX8_holds_36 : decode cX8_holds 36 = .ok (.getfield 36, 3) := by decide +kernel
theorem dX8_holds_39 : decode cX8_holds 39 = .ok (.iload 4, 2) := by decide +kernel
theorem dX8_holds_41 : decode cX8_holds 41 = .ok (.iaload, 1) := by decide +kernel
theorem dX8_holds_42 : decode cX8_holds 42 = .ok (.iload_n 3, 1) := by decide +kernel
theorem dX8_holds_43 : decode cX8_holds 43 = .ok (.if_icmp .gt 6, 3) := by decide +kernel
theorem dX8_holds_46 : decode cX8_holds 46 = .ok (.iload 4, 2) := by decide +kernel
theorem dX8_holds_48 : decode cX8_holds 48 = .ok (.ireturn, 1) := by decide +kernel
theorem dX8_holds_49 : decode cX8_holds 49 = .ok (.iinc 4 (-1), 3) := by decide +kernel
theorem dX8_holds_52 : decode cX8_holds 52 = .ok (.goto (-44), 3) := by decide +kernel
theorem dX8_holds_55 : decode cX8_holds 55 = .ok (.iconst (-1), 1) := by decide +kernel
theorem dX8_holds_56 : decode cX8_holds 56 = .ok (.ireturn, 1) := by decide +kernel
theorem dX8_look_0 : decode cX8_look 0 = .ok (.aload_n 0, 1) := by decide +kernel
theorem dX8_look_1 : decode cX8_look 1 = .ok (.getfield 17, 3) := by decide +kernel
theorem dX8_look_4 : decode cX8_look 4 = .ok (.bipush 84, 2) := by decide +kernel
theorem dX8_look_6 : decode cX8_look 6 = .ok (.iload_n 1, 1) := by decide +kernel
theorem dX8_look_7 : decode cX8_look 7 = .ok (.imul, 1) := by decide +kernel
theorem dX8_look_8 : decode cX8_look 8 = .ok (.iload_n 2, 1) := by decide +kernel
theorem dX8_look_9 : decode cX8_look 9 = .ok (.iadd, 1) := by decide +kernel
theorem dX8_look_10 : decode cX8_look 10 = .ok (.baload, 1) := by decide +kernel
theorem dX8_look_11 : decode cX8_look 11 = .ok (.ifCond .eq 6, 3) := by decide +kernel
theorem dX8_look_14 : decode cX8_look 14 = .ok (.bipush (-3), 2) := by decide +kernel
theorem dX8_look_16 : decode cX8_look 16 = .ok (.ireturn, 1) := by decide +kernel
theorem dX8_look_17 : decode cX8_look 17 = .ok (.aload_n 0, 1) := by decide +kernel
theorem dX8_look_18 : decode cX8_look 18 = .ok (.iload_n 1, 1) := by decide +kernel
theorem dX8_look_19 : decode cX8_look 19 = .ok (.iload_n 2, 1) := by decide +kernel
theorem dX8_look_20 : decode cX8_look 20 = .ok (.iload_n 3, 1) := by decide +kernel
theorem dX8_look_21 : decode cX8_look 21 = .ok (.invokevirtual 127, 3) := by decide +kernel
theorem dX8_look_24 : decode cX8_look 24 = .ok (.istore 4, 2) := by decide +kernel
theorem dX8_look_26 : decode cX8_look 26 = .ok (.iload 4, 2) := by decide +kernel
theorem dX8_look_28 : decode cX8_look 28 = .ok (.ifCond .ge 8, 3) := by decide +kernel
theorem dX8_look_31 : decode cX8_look 31 = .ok (.bipush (-2), 2) := by decide +kernel
theorem dX8_look_33 : decode cX8_look 33 = .ok (.goto 10, 3) := by decide +kernel
theorem dX8_look_36 : decode cX8_look 36 = .ok (.aload_n 0, 1) := by decide +kernel
theorem dX8_look_37 : decode cX8_look 37 = .ok (.getfield 39, 3) := by decide +kernel
theorem dX8_look_40 : decode cX8_look 40 = .ok (.iload 4, 2) := by decide +kernel
theorem dX8_look_42 : decode cX8_look 42 = .ok (.iaload, 1) := by decide +kernel
theorem dX8_look_43 : decode cX8_look 43 = .ok (.ireturn, 1) := by decide +kernel
theorem dX8_seen_0 : decode cX8_seen 0 = .ok (.aload_n 0, 1) := by decide +kernel
theorem dX8_seen_1 : decode cX8_seen 1 = .ok (.iconst 0, 1) := by decide +kernel
theorem dX8_seen_2 : decode cX8_seen 2 = .ok (.putfield 91, 3) := by decide +kernel
theorem dX8_seen_5 : decode cX8_seen 5 = .ok (.aload_n 0, 1) := by decide +kernel
theorem dX8_seen_6 : decode cX8_seen 6 = .ok (.iload_n 1, 1) := by decide +kernel
theorem dX8_seen_7 : decode cX8_seen 7 = .ok (.invokevirtual 112, 3) := by decide +kernel
theorem dX8_seen_10 : decode cX8_seen 10 = .ok (.ifCond .eq 14, 3) := by decide +kernel
theorem dX8_seen_13 : decode cX8_seen 13 = .ok (.iload_n 2, 1) := by decide +kernel
theorem dX8_seen_14 : decode cX8_seen 14 = .ok (.invokestatic 116, 3) := by decide +kernel
theorem dX8_seen_17 : decode cX8_seen 17 = .ok (.ifCond .eq 7, 3) := by decide +kernel
theorem dX8_seen_20 : decode cX8_seen 20 = .ok (.iload_n 3, 1) := by decide +kernel
theorem dX8_seen_21 : decode cX8_seen 21 = .ok (.ifCond .ge 8, 3) := by decide +kernel
theorem dX8_seen_24 : decode cX8_seen 24 = .ok (.bipush (-4), 2) := by decide +kernel
theorem dX8_seen_26 : decode cX8_seen 26 = .ok (.goto 10, 3) := by decide +kernel
theorem dX8_seen_29 : decode cX8_seen 29 = .ok (.aload_n 0, 1) := by decide +kernel
theorem dX8_seen_30 : decode cX8_seen 30 = .ok (.iload_n 1, 1) := by decide +kernel
theorem dX8_seen_31 : decode cX8_seen 31 = .ok (.iload_n 2, 1) := by decide +kernel
theorem dX8_seen_32 : decode cX8_seen 32 = .ok (.iload_n 3, 1) := by decide +kernel
theorem dX8_seen_33 : decode cX8_seen 33 = .ok (.invokevirtual 131, 3) := by decide +kernel
theorem dX8_seen_36 : decode cX8_seen 36 = .ok (.ireturn, 1) := by decide +kernel
theorem dX8_kind_0 : decode cX8_kind 0 = .ok (.aload_n 0, 1) := by decide +kernel
theorem dX8_kind_1 : decode cX8_kind 1 = .ok (.iconst 0, 1) := by decide +kernel
theorem dX8_kind_2 : decode cX8_kind 2 = .ok (.putfield 91, 3) := by decide +kernel
theorem dX8_kind_5 : decode cX8_kind 5 = .ok (.aload_n 0, 1) := by decide +kernel
theorem dX8_kind_6 : decode cX8_kind 6 = .ok (.iload_n 1, 1) := by decide +kernel
theorem dX8_kind_7 : decode cX8_kind 7 = .ok (.invokevirtual 112, 3) := by decide +kernel
theorem dX8_kind_10 : decode cX8_kind 10 = .ok (.ifCond .eq 35, 3) := by decide +kernel
theorem dX8_kind_13 : decode cX8_kind 13 = .ok (.iload_n 2, 1) := by decide +kernel
theorem dX8_kind_14 : decode cX8_kind 14 = .ok (.invokestatic 116, 3) := by decide +kernel
theorem dX8_kind_17 : decode cX8_kind 17 = .ok (.ifCond .eq 28, 3) := by decide +kernel
theorem dX8_kind_20 : decode cX8_kind 20 = .ok (.iload_n 3, 1) := by decide +kernel
theorem dX8_kind_21 : decode cX8_kind 21 = .ok (.ifCond .lt 24, 3) := by decide +kernel
theorem dX8_kind_24 : decode cX8_kind 24 = .ok (.iload 4, 2) := by decide +kernel
theorem dX8_kind_26 : decode cX8_kind 26 = .ok (.ifCond .lt 19, 3) := by decide +kernel
theorem dX8_kind_29 : decode cX8_kind 29 = .ok (.iload 4, 2) := by decide +kernel
theorem dX8_kind_31 : decode cX8_kind 31 = .ok (.iconst 2, 1) := by decide +kernel
theorem dX8_kind_32 : decode cX8_kind 32 = .ok (.if_icmp .gt 13, 3) := by decide +kernel
theorem dX8_kind_35 : decode cX8_kind 35 = .ok (.aload_n 0, 1) := by decide +kernel
theorem dX8_kind_36 : decode cX8_kind 36 = .ok (.iload_n 1, 1) := by decide +kernel
theorem dX8_kind_37 : decode cX8_kind 37 = .ok (.iload_n 2, 1) := by decide +kernel
theorem dX8_kind_38 : decode cX8_kind 38 = .ok (.iload_n 3, 1) := by decide +kernel
theorem dX8_kind_39 : decode cX8_kind 39 = .ok (.invokevirtual 131, 3) := by decide +kernel
theorem dX8_kind_42 : decode cX8_kind 42 = .ok (.ifCond .ge 5, 3) := by decide +kernel
theorem dX8_kind_45 : decode cX8_kind 45 = .ok (.iconst (-1), 1) := by decide +kernel
theorem dX8_kind_46 : decode cX8_kind 46 = .ok (.ireturn, 1) := by decide +kernel
theorem dX8_kind_47 : decode cX8_kind 47 = .ok (.aload_n 0, 1) := by decide +kernel
theorem dX8_kind_48 : decode cX8_kind 48 = .ok (.getfield 42, 3) := by decide +kernel
theorem dX8_kind_51 : decode cX8_kind 51 = .ok (.iconst 3, 1) := by decide +kernel
theorem dX8_kind_52 : decode cX8_kind 52 = .ok (.aload_n 0, 1) := by decide +kernel
theorem dX8_kind_53 : decode cX8_kind 53 = .ok (.iload_n 1, 1) := by decide +kernel
theorem dX8_kind_54 : decode cX8_kind 54 = .ok (.iload_n 2, 1) := by decide +kernel
theorem dX8_kind_55 : decode cX8_kind 55 = .ok (.iload_n 3, 1) := by decide +kernel
theorem dX8_kind_56 : decode cX8_kind 56 = .ok (.invokevirtual 127, 3) := by decide +kernel
theorem dX8_kind_59 : decode cX8_kind 59 = .ok (.imul, 1) := by decide +kernel
theorem dX8_kind_60 : decode cX8_kind 60 = .ok (.iload 4, 2) := by decide +kernel
theorem dX8_kind_62 : decode cX8_kind 62 = .ok (.iadd, 1) := by decide +kernel
theorem dX8_kind_63 : decode cX8_kind 63 = .ok (.iaload, 1) := by decide +kernel
theorem dX8_kind_64 : decode cX8_kind 64 = .ok (.ireturn, 1) := by decide +kernel
theorem dX8_lookUp_0 : decode cX8_lookUp 0 = .ok (.iconst 0, 1) := by decide +kernel
theorem dX8_lookUp_1 : decode cX8_lookUp 1 = .ok (.istore_n 2, 1) := by decide +kernel
theorem dX8_lookUp_2 : decode cX8_lookUp 2 = .ok (.iload_n 2, 1) := by decide +kernel
theorem dX8_lookUp_3 : decode cX8_lookUp 3 = .ok (.bipush 16, 2) := by decide +kernel
theorem dX8_lookUp_5 : decode cX8_lookUp 5 = .ok (.if_icmp .ge 69, 3) := by decide +kernel
theorem dX8_lookUp_8 : decode cX8_lookUp 8 = .ok (.iconst 0, 1) := by decide +kernel
theorem dX8_lookUp_9 : decode cX8_lookUp 9 = .ok (.istore_n 3, 1) := by decide +kernel
theorem dX8_lookUp_10 : decode cX8_lookUp 10 = .ok (.iload_n 3, 1) := by decide +kernel
theorem dX8_lookUp_11 : decode cX8_lookUp 11 = .ok (.bipush 84, 2) := by decide +kernel
theorem dX8_lookUp_13 : decode cX8_lookUp 13 = .ok (.if_icmp .ge 55, 3) := by decide +kernel
theorem dX8_lookUp_16 : decode cX8_lookUp 16 = .ok (.aload_n 0, 1) := by decide +kernel
theorem dX8_lookUp_17 : decode cX8_lookUp 17 = .ok (.getfield 45, 3) := by decide +kernel
theorem dX8_lookUp_20 : decode cX8_lookUp 20 = .ok (.bipush 84, 2) := by decide +kernel
theorem dX8_lookUp_22 : decode cX8_lookUp 22 = .ok (.iload_n 2, 1) := by decide +kernel
theorem dX8_lookUp_23 : decode cX8_lookUp 23 = .ok (.imul, 1) := by decide +kernel
theorem dX8_lookUp_24 : decode cX8_lookUp 24 = .ok (.iload_n 3, 1) := by decide +kernel
theorem dX8_lookUp_25 : decode cX8_lookUp 25 = .ok (.iadd, 1) := by decide +kernel
theorem dX8_lookUp_26 : decode cX8_lookUp 26 = .ok (.aload_n 0, 1) := by decide +kernel
theorem dX8_lookUp_27 : decode cX8_lookUp 27 = .ok (.getfield 13, 3) := by decide +kernel
theorem dX8_lookUp_30 : decode cX8_lookUp 30 = .ok (.iload_n 2, 1) := by decide +kernel
theorem dX8_lookUp_31 : decode cX8_lookUp 31 = .ok (.baload, 1) := by decide +kernel
theorem dX8_lookUp_32 : decode cX8_lookUp 32 = .ok (.ifCond .eq 27, 3) := by decide +kernel
theorem dX8_lookUp_35 : decode cX8_lookUp 35 = .ok (.aload_n 0, 1) := by decide +kernel
theorem dX8_lookUp_36 : decode cX8_lookUp 36 = .ok (.getfield 17, 3) := by decide +kernel
theorem dX8_lookUp_39 : decode cX8_lookUp 39 = .ok (.bipush 84, 2) := by decide +kernel
theorem dX8_lookUp_41 : decode cX8_lookUp 41 = .ok (.iload_n 2, 1) := by decide +kernel
theorem dX8_lookUp_42 : decode cX8_lookUp 42 = .ok (.imul, 1) := by decide +kernel
theorem dX8_lookUp_43 : decode cX8_lookUp 43 = .ok (.iload_n 3, 1) := by decide +kernel
theorem dX8_lookUp_44 : decode cX8_lookUp 44 = .ok (.iadd, 1) := by decide +kernel
theorem dX8_lookUp_45 : decode cX8_lookUp 45 = .ok (.baload, 1) := by decide +kernel
theorem dX8_lookUp_46 : decode cX8_lookUp 46 = .ok (.ifCond .eq 8, 3) := by decide +kernel
theorem dX8_lookUp_49 : decode cX8_lookUp 49 = .ok (.bipush (-3), 2) := by decide +kernel
theorem dX8_lookUp_51 : decode cX8_lookUp 51 = .ok (.goto 10, 3) := by decide +kernel
theorem dX8_lookUp_54 : decode cX8_lookUp 54 = .ok (.bipush (-2), 2) := by decide +kernel
theorem dX8_lookUp_56 : decode cX8_lookUp 56 = .ok (.goto 5, 3) := by decide +kernel
theorem dX8_lookUp_59 : decode cX8_lookUp 59 = .ok (.bipush (-4), 2) := by decide +kernel
theorem dX8_lookUp_61 : decode cX8_lookUp 61 = .ok (.iastore, 1) := by decide +kernel
theorem dX8_lookUp_62 : decode cX8_lookUp 62 = .ok (.iinc 3 1, 3) := by decide +kernel
theorem dX8_lookUp_65 : decode cX8_lookUp 65 = .ok (.goto (-55), 3) := by decide +kernel
theorem dX8_lookUp_68 : decode cX8_lookUp 68 = .ok (.iinc 2 1, 3) := by decide +kernel
theorem dX8_lookUp_71 : decode cX8_lookUp 71 = .ok (.goto (-69), 3) := by decide +kernel
theorem dX8_lookUp_74 : decode cX8_lookUp 74 = .ok (.iconst 0, 1) := by decide +kernel
theorem dX8_lookUp_75 : decode cX8_lookUp 75 = .ok (.istore_n 2, 1) := by decide +kernel
theorem dX8_lookUp_76 : decode cX8_lookUp 76 = .ok (.iload_n 2, 1) := by decide +kernel
theorem dX8_lookUp_77 : decode cX8_lookUp 77 = .ok (.aload_n 0, 1) := by decide +kernel
theorem dX8_lookUp_78 : decode cX8_lookUp 78 = .ok (.getfield 102, 3) := by decide +kernel
theorem dX8_lookUp_81 : decode cX8_lookUp 81 = .ok (.if_icmp .ge 70, 3) := by decide +kernel
theorem dX8_lookUp_84 : decode cX8_lookUp 84 = .ok (.aload_n 0, 1) := by decide +kernel
theorem dX8_lookUp_85 : decode cX8_lookUp 85 = .ok (.getfield 36, 3) := by decide +kernel
theorem dX8_lookUp_88 : decode cX8_lookUp 88 = .ok (.iload_n 2, 1) := by decide +kernel
theorem dX8_lookUp_89 : decode cX8_lookUp 89 = .ok (.iaload, 1) := by decide +kernel
theorem dX8_lookUp_90 : decode cX8_lookUp 90 = .ok (.iload_n 1, 1) := by decide +kernel
theorem dX8_lookUp_91 : decode cX8_lookUp 91 = .ok (.if_icmp .gt 54, 3) := by decide +kernel
theorem dX8_lookUp_94 : decode cX8_lookUp 94 = .ok (.aload_n 0, 1) := by decide +kernel
theorem dX8_lookUp_95 : decode cX8_lookUp 95 = .ok (.getfield 17, 3) := by decide +kernel
theorem dX8_lookUp_98 : decode cX8_lookUp 98 = .ok (.bipush 84, 2) := by decide +kernel
theorem dX8_lookUp_100 : decode cX8_lookUp 100 = .ok (.aload_n 0, 1) := by decide +kernel
theorem dX8_lookUp_101 : decode cX8_lookUp 101 = .ok (.getfield 30, 3) := by decide +kernel
theorem dX8_lookUp_104 : decode cX8_lookUp 104 = .ok (.iload_n 2, 1) := by decide +kernel
theorem dX8_lookUp_105 : decode cX8_lookUp 105 = .ok (.iaload, 1) := by decide +kernel
theorem dX8_lookUp_106 : decode cX8_lookUp 106 = .ok (.imul, 1) := by decide +kernel
theorem dX8_lookUp_107 : decode cX8_lookUp 107 = .ok (.aload_n 0, 1) := by decide +kernel
theorem dX8_lookUp_108 : decode cX8_lookUp 108 = .ok (.getfield 33, 3) := by decide +kernel
theorem dX8_lookUp_111 : decode cX8_lookUp 111 = .ok (.iload_n 2, 1) := by decide +kernel
theorem dX8_lookUp_112 : decode cX8_lookUp 112 = .ok (.iaload, 1) := by decide +kernel
theorem dX8_lookUp_113 : decode cX8_lookUp 113 = .ok (.iadd, 1) := by decide +kernel
theorem dX8_lookUp_114 : decode cX8_lookUp 114 = .ok (.baload, 1) := by decide +kernel
theorem dX8_lookUp_115 : decode cX8_lookUp 115 = .ok (.ifCond .ne 30, 3) := by decide +kernel
theorem dX8_lookUp_118 : decode cX8_lookUp 118 = .ok (.aload_n 0, 1) := by decide +kernel
theorem dX8_lookUp_119 : decode cX8_lookUp 119 = .ok (.getfield 45, 3) := by decide +kernel
theorem dX8_lookUp_122 : decode cX8_lookUp 122 = .ok (.bipush 84, 2) := by decide +kernel
theorem dX8_lookUp_124 : decode cX8_lookUp 124 = .ok (.aload_n 0, 1) := by decide +kernel
theorem dX8_lookUp_125 : decode cX8_lookUp 125 = .ok (.getfield 30, 3) := by decide +kernel
theorem dX8_lookUp_128 : decode cX8_lookUp 128 = .ok (.iload_n 2, 1) := by decide +kernel
theorem dX8_lookUp_129 : decode cX8_lookUp 129 = .ok (.iaload, 1) := by decide +kernel
theorem dX8_lookUp_130 : decode cX8_lookUp 130 = .ok (.imul, 1) := by decide +kernel
theorem dX8_lookUp_131 : decode cX8_lookUp 131 = .ok (.aload_n 0, 1) := by decide +kernel
theorem dX8_lookUp_132 : decode cX8_lookUp 132 = .ok (.getfield 33, 3) := by decide +kernel
theorem dX8_lookUp_135 : decode cX8_lookUp 135 = .ok (.iload_n 2, 1) := by decide +kernel
theorem dX8_lookUp_136 : decode cX8_lookUp 136 = .ok (.iaload, 1) := by decide +kernel
theorem dX8_lookUp_137 : decode cX8_lookUp 137 = .ok (.iadd, 1) := by decide +kernel
theorem dX8_lookUp_138 : decode cX8_lookUp 138 = .ok (.aload_n 0, 1) := by decide +kernel
theorem dX8_lookUp_139 : decode cX8_lookUp 139 = .ok (.getfield 39, 3) := by decide +kernel
theorem dX8_lookUp_142 : decode cX8_lookUp 142 = .ok (.iload_n 2, 1) := by decide +kernel
theorem dX8_lookUp_143 : decode cX8_lookUp 143 = .ok (.iaload, 1) := by decide +kernel
theorem dX8_lookUp_144 : decode cX8_lookUp 144 = .ok (.iastore, 1) := by decide +kernel
theorem dX8_lookUp_145 : decode cX8_lookUp 145 = .ok (.iinc 2 1, 3) := by decide +kernel
theorem dX8_lookUp_148 : decode cX8_lookUp 148 = .ok (.goto (-72), 3) := by decide +kernel
theorem dX8_lookUp_151 : decode cX8_lookUp 151 = .ok (.iconst 0, 1) := by decide +kernel
theorem dX8_lookUp_152 : decode cX8_lookUp 152 = .ok (.istore_n 2, 1) := by decide +kernel
theorem dX8_lookUp_153 : decode cX8_lookUp 153 = .ok (.iload_n 2, 1) := by decide +kernel
theorem dX8_lookUp_154 : decode cX8_lookUp 154 = .ok (.bipush 16, 2) := by decide +kernel
theorem dX8_lookUp_156 : decode cX8_lookUp 156 = .ok (.if_icmp .ge 86, 3) := by decide +kernel
theorem dX8_lookUp_159 : decode cX8_lookUp 159 = .ok (.aload_n 0, 1) := by decide +kernel
theorem dX8_lookUp_160 : decode cX8_lookUp 160 = .ok (.getfield 48, 3) := by decide +kernel
theorem dX8_lookUp_163 : decode cX8_lookUp 163 = .ok (.iload_n 2, 1) := by decide +kernel
theorem dX8_lookUp_164 : decode cX8_lookUp 164 = .ok (.aload_n 0, 1) := by decide +kernel
theorem dX8_lookUp_165 : decode cX8_lookUp 165 = .ok (.getfield 13, 3) := by decide +kernel
theorem dX8_lookUp_168 : decode cX8_lookUp 168 = .ok (.iload_n 2, 1) := by decide +kernel
theorem dX8_lookUp_169 : decode cX8_lookUp 169 = .ok (.baload, 1) := by decide +kernel
theorem dX8_lookUp_170 : decode cX8_lookUp 170 = .ok (.ifCond .eq 16, 3) := by decide +kernel
theorem dX8_lookUp_173 : decode cX8_lookUp 173 = .ok (.aload_n 0, 1) := by decide +kernel
theorem dX8_lookUp_174 : decode cX8_lookUp 174 = .ok (.getfield 27, 3) := by decide +kernel
theorem dX8_lookUp_177 : decode cX8_lookUp 177 = .ok (.iload_n 2, 1) := by decide +kernel
theorem dX8_lookUp_178 : decode cX8_lookUp 178 = .ok (.iaload, 1) := by decide +kernel
theorem dX8_lookUp_179 : decode cX8_lookUp 179 = .ok (.ifCond .lt 7, 3) := by decide +kernel
theorem dX8_lookUp_182 : decode cX8_lookUp 182 = .ok (.iconst 1, 1) := by decide +kernel
theorem dX8_lookUp_183 : decode cX8_lookUp 183 = .ok (.goto 4, 3) := by decide +kernel
theorem dX8_lookUp_186 : decode cX8_lookUp 186 = .ok (.iconst 0, 1) := by decide +kernel
theorem dX8_lookUp_187 : decode cX8_lookUp 187 = .ok (.bastore, 1) := by decide +kernel
theorem dX8_lookUp_188 : decode cX8_lookUp 188 = .ok (.iconst 0, 1) := by decide +kernel
theorem dX8_lookUp_189 : decode cX8_lookUp 189 = .ok (.istore_n 3, 1) := by decide +kernel
theorem dX8_lookUp_190 : decode cX8_lookUp 190 = .ok (.iload_n 3, 1) := by decide +kernel
theorem dX8_lookUp_191 : decode cX8_lookUp 191 = .ok (.bipush 84, 2) := by decide +kernel
theorem dX8_lookUp_193 : decode cX8_lookUp 193 = .ok (.if_icmp .ge 43, 3) := by decide +kernel
theorem dX8_lookUp_196 : decode cX8_lookUp 196 = .ok (.aload_n 0, 1) := by decide +kernel
theorem dX8_lookUp_197 : decode cX8_lookUp 197 = .ok (.getfield 48, 3) := by decide +kernel
theorem dX8_lookUp_200 : decode cX8_lookUp 200 = .ok (.iload_n 2, 1) := by decide +kernel
theorem dX8_lookUp_201 : decode cX8_lookUp 201 = .ok (.aload_n 0, 1) := by decide +kernel
theorem dX8_lookUp_202 : decode cX8_lookUp 202 = .ok (.getfield 48, 3) := by decide +kernel
theorem dX8_lookUp_205 : decode cX8_lookUp 205 = .ok (.iload_n 2, 1) := by decide +kernel
theorem dX8_lookUp_206 : decode cX8_lookUp 206 = .ok (.baload, 1) := by decide +kernel
theorem dX8_lookUp_207 : decode cX8_lookUp 207 = .ok (.ifCond .eq 21, 3) := by decide +kernel
theorem dX8_lookUp_210 : decode cX8_lookUp 210 = .ok (.aload_n 0, 1) := by decide +kernel
theorem dX8_lookUp_211 : decode cX8_lookUp 211 = .ok (.getfield 45, 3) := by decide +kernel
theorem dX8_lookUp_214 : decode cX8_lookUp 214 = .ok (.bipush 84, 2) := by decide +kernel
theorem dX8_lookUp_216 : decode cX8_lookUp 216 = .ok (.iload_n 2, 1) := by decide +kernel
theorem dX8_lookUp_217 : decode cX8_lookUp 217 = .ok (.imul, 1) := by decide +kernel
theorem dX8_lookUp_218 : decode cX8_lookUp 218 = .ok (.iload_n 3, 1) := by decide +kernel
theorem dX8_lookUp_219 : decode cX8_lookUp 219 = .ok (.iadd, 1) := by decide +kernel
theorem dX8_lookUp_220 : decode cX8_lookUp 220 = .ok (.iaload, 1) := by decide +kernel
theorem dX8_lookUp_221 : decode cX8_lookUp 221 = .ok (.ifCond .lt 7, 3) := by decide +kernel
theorem dX8_lookUp_224 : decode cX8_lookUp 224 = .ok (.iconst 1, 1) := by decide +kernel
theorem dX8_lookUp_225 : decode cX8_lookUp 225 = .ok (.goto 4, 3) := by decide +kernel
theorem dX8_lookUp_228 : decode cX8_lookUp 228 = .ok (.iconst 0, 1) := by decide +kernel
theorem dX8_lookUp_229 : decode cX8_lookUp 229 = .ok (.bastore, 1) := by decide +kernel
theorem dX8_lookUp_230 : decode cX8_lookUp 230 = .ok (.iinc 3 1, 3) := by decide +kernel
theorem dX8_lookUp_233 : decode cX8_lookUp 233 = .ok (.goto (-43), 3) := by decide +kernel
theorem dX8_lookUp_236 : decode cX8_lookUp 236 = .ok (.iinc 2 1, 3) := by decide +kernel
theorem dX8_lookUp_239 : decode cX8_lookUp 239 = .ok (.goto (-86), 3) := by decide +kernel
theorem dX8_lookUp_242 : decode cX8_lookUp 242 = .ok (.return_, 1) := by decide +kernel
theorem dX8_whole_0 : decode cX8_whole 0 = .ok (.aload_n 0, 1) := by decide +kernel
theorem dX8_whole_1 : decode cX8_whole 1 = .ok (.iconst 0, 1) := by decide +kernel
theorem dX8_whole_2 : decode cX8_whole 2 = .ok (.putfield 91, 3) := by decide +kernel
theorem dX8_whole_5 : decode cX8_whole 5 = .ok (.aload_n 0, 1) := by decide +kernel
theorem dX8_whole_6 : decode cX8_whole 6 = .ok (.iload_n 1, 1) := by decide +kernel
theorem dX8_whole_7 : decode cX8_whole 7 = .ok (.invokevirtual 112, 3) := by decide +kernel
theorem dX8_whole_10 : decode cX8_whole 10 = .ok (.ifCond .eq 7, 3) := by decide +kernel
theorem dX8_whole_13 : decode cX8_whole 13 = .ok (.iload_n 2, 1) := by decide +kernel
theorem dX8_whole_14 : decode cX8_whole 14 = .ok (.ifCond .ge 5, 3) := by decide +kernel
theorem dX8_whole_17 : decode cX8_whole 17 = .ok (.iconst (-1), 1) := by decide +kernel
theorem dX8_whole_18 : decode cX8_whole 18 = .ok (.ireturn, 1) := by decide +kernel
theorem dX8_whole_19 : decode cX8_whole 19 = .ok (.aload_n 0, 1) := by decide +kernel
theorem dX8_whole_20 : decode cX8_whole 20 = .ok (.iload_n 2, 1) := by decide +kernel
theorem dX8_whole_21 : decode cX8_whole 21 = .ok (.invokevirtual 134, 3) := by decide +kernel
theorem dX8_whole_24 : decode cX8_whole 24 = .ok (.aload_n 0, 1) := by decide +kernel
theorem dX8_whole_25 : decode cX8_whole 25 = .ok (.getfield 48, 3) := by decide +kernel
theorem dX8_whole_28 : decode cX8_whole 28 = .ok (.iload_n 1, 1) := by decide +kernel
theorem dX8_whole_29 : decode cX8_whole 29 = .ok (.baload, 1) := by decide +kernel
theorem dX8_whole_30 : decode cX8_whole 30 = .ok (.ifCond .eq 7, 3) := by decide +kernel
theorem dX8_whole_33 : decode cX8_whole 33 = .ok (.iconst 1, 1) := by decide +kernel
theorem dX8_whole_34 : decode cX8_whole 34 = .ok (.goto 4, 3) := by decide +kernel
theorem dX8_whole_37 : decode cX8_whole 37 = .ok (.iconst 0, 1) := by decide +kernel
theorem dX8_whole_38 : decode cX8_whole 38 = .ok (.ireturn, 1) := by decide +kernel
theorem dX8_sums_0 : decode cX8_sums 0 = .ok (.iconst 0, 1) := by decide +kernel
theorem dX8_sums_1 : decode cX8_sums 1 = .ok (.istore_n 3, 1) := by decide +kernel
theorem dX8_sums_2 : decode cX8_sums 2 = .ok (.iload_n 3, 1) := by decide +kernel
theorem dX8_sums_3 : decode cX8_sums 3 = .ok (.bipush 7, 2) := by decide +kernel
theorem dX8_sums_5 : decode cX8_sums 5 = .ok (.if_icmp .ge 16, 3) := by decide +kernel
theorem dX8_sums_8 : decode cX8_sums 8 = .ok (.aload_n 0, 1) := by decide +kernel
theorem dX8_sums_9 : decode cX8_sums 9 = .ok (.getfield 51, 3) := by decide +kernel
theorem dX8_sums_12 : decode cX8_sums 12 = .ok (.iload_n 3, 1) := by decide +kernel
theorem dX8_sums_13 : decode cX8_sums 13 = .ok (.lconst 0, 1) := by decide +kernel
theorem dX8_sums_14 : decode cX8_sums 14 = .ok (.lastore, 1) := by decide +kernel
theorem dX8_sums_15 : decode cX8_sums 15 = .ok (.iinc 3 1, 3) := by decide +kernel
theorem dX8_sums_18 : decode cX8_sums 18 = .ok (.goto (-16), 3) := by decide +kernel
theorem dX8_sums_21 : decode cX8_sums 21 = .ok (.iconst 0, 1) := by decide +kernel
theorem dX8_sums_22 : decode cX8_sums 22 = .ok (.istore_n 3, 1) := by decide +kernel
theorem dX8_sums_23 : decode cX8_sums 23 = .ok (.iload_n 3, 1) := by decide +kernel
theorem dX8_sums_24 : decode cX8_sums 24 = .ok (.bipush 12, 2) := by decide +kernel
theorem dX8_sums_26 : decode cX8_sums 26 = .ok (.if_icmp .ge 16, 3) := by decide +kernel
theorem dX8_sums_29 : decode cX8_sums 29 = .ok (.aload_n 0, 1) := by decide +kernel
theorem dX8_sums_30 : decode cX8_sums 30 = .ok (.getfield 55, 3) := by decide +kernel
theorem dX8_sums_33 : decode cX8_sums 33 = .ok (.iload_n 3, 1) := by decide +kernel
theorem dX8_sums_34 : decode cX8_sums 34 = .ok (.lconst 0, 1) := by decide +kernel
theorem dX8_sums_35 : decode cX8_sums 35 = .ok (.lastore, 1) := by decide +kernel
theorem dX8_sums_36 : decode cX8_sums 36 = .ok (.iinc 3 1, 3) := by decide +kernel
theorem dX8_sums_39 : decode cX8_sums 39 = .ok (.goto (-16), 3) := by decide +kernel
theorem dX8_sums_42 : decode cX8_sums 42 = .ok (.aload_n 0, 1) := by decide +kernel
theorem dX8_sums_43 : decode cX8_sums 43 = .ok (.lconst 0, 1) := by decide +kernel
theorem dX8_sums_44 : decode cX8_sums 44 = .ok (.putfield 137, 3) := by decide +kernel
theorem dX8_sums_47 : decode cX8_sums 47 = .ok (.aload_n 0, 1) := by decide +kernel
theorem dX8_sums_48 : decode cX8_sums 48 = .ok (.iconst 0, 1) := by decide +kernel
theorem dX8_sums_49 : decode cX8_sums 49 = .ok (.putfield 141, 3) := by decide +kernel
theorem dX8_sums_52 : decode cX8_sums 52 = .ok (.iconst 0, 1) := by decide +kernel
theorem dX8_sums_53 : decode cX8_sums 53 = .ok (.istore_n 3, 1) := by decide +kernel
theorem dX8_sums_54 : decode cX8_sums 54 = .ok (.iload_n 3, 1) := by decide +kernel
theorem dX8_sums_55 : decode cX8_sums 55 = .ok (.bipush 16, 2) := by decide +kernel
theorem dX8_sums_57 : decode cX8_sums 57 = .ok (.if_icmp .ge 144, 3) := by decide +kernel
theorem dX8_sums_60 : decode cX8_sums 60 = .ok (.aload_n 0, 1) := by decide +kernel
theorem dX8_sums_61 : decode cX8_sums 61 = .ok (.getfield 141, 3) := by decide +kernel
theorem dX8_sums_64 : decode cX8_sums 64 = .ok (.iconst 4, 1) := by decide +kernel
theorem dX8_sums_65 : decode cX8_sums 65 = .ok (.if_icmp .ge 136, 3) := by decide +kernel
theorem dX8_sums_68 : decode cX8_sums 68 = .ok (.iload_n 3, 1) := by decide +kernel
theorem dX8_sums_69 : decode cX8_sums 69 = .ok (.iload_n 2, 1) := by decide +kernel
theorem dX8_sums_70 : decode cX8_sums 70 = .ok (.if_icmp .eq 125, 3) := by decide +kernel
theorem dX8_sums_73 : decode cX8_sums 73 = .ok (.aload_n 0, 1) := by decide +kernel
theorem dX8_sums_74 : decode cX8_sums 74 = .ok (.getfield 48, 3) := by decide +kernel
theorem dX8_sums_77 : decode cX8_sums 77 = .ok (.iload_n 3, 1) := by decide +kernel
theorem dX8_sums_78 : decode cX8_sums 78 = .ok (.baload, 1) := by decide +kernel
theorem dX8_sums_79 : decode cX8_sums 79 = .ok (.ifCond .eq 116, 3) := by decide +kernel
theorem dX8_sums_82 : decode cX8_sums 82 = .ok (.aload_n 0, 1) := by decide +kernel
theorem dX8_sums_83 : decode cX8_sums 83 = .ok (.getfield 27, 3) := by decide +kernel
theorem dX8_sums_86 : decode cX8_sums 86 = .ok (.iload_n 3, 1) := by decide +kernel
theorem dX8_sums_87 : decode cX8_sums 87 = .ok (.iaload, 1) := by decide +kernel
theorem dX8_sums_88 : decode cX8_sums 88 = .ok (.iload_n 1, 1) := by decide +kernel
theorem dX8_sums_89 : decode cX8_sums 89 = .ok (.if_icmp .eq 6, 3) := by decide +kernel
theorem dX8_sums_92 : decode cX8_sums 92 = .ok (.goto 103, 3) := by decide +kernel
theorem dX8_sums_95 : decode cX8_sums 95 = .ok (.aload_n 0, 1) := by decide +kernel
theorem dX8_sums_96 : decode cX8_sums 96 = .ok (.dup, 1) := by decide +kernel
theorem dX8_sums_97 : decode cX8_sums 97 = .ok (.getfield 141, 3) := by decide +kernel
theorem dX8_sums_100 : decode cX8_sums 100 = .ok (.iconst 1, 1) := by decide +kernel
theorem dX8_sums_101 : decode cX8_sums 101 = .ok (.iadd, 1) := by decide +kernel
theorem dX8_sums_102 : decode cX8_sums 102 = .ok (.putfield 141, 3) := by decide +kernel
theorem dX8_sums_105 : decode cX8_sums 105 = .ok (.iconst 0, 1) := by decide +kernel
theorem dX8_sums_106 : decode cX8_sums 106 = .ok (.istore 4, 2) := by decide +kernel
theorem dX8_sums_108 : decode cX8_sums 108 = .ok (.iload 4, 2) := by decide +kernel
theorem dX8_sums_110 : decode cX8_sums 110 = .ok (.bipush 84, 2) := by decide +kernel
theorem dX8_sums_112 : decode cX8_sums 112 = .ok (.if_icmp .ge 83, 3) := by decide +kernel
theorem dX8_sums_115 : decode cX8_sums 115 = .ok (.aload_n 0, 1) := by decide +kernel
theorem dX8_sums_116 : decode cX8_sums 116 = .ok (.getfield 51, 3) := by decide +kernel
theorem dX8_sums_119 : decode cX8_sums 119 = .ok (.iload 4, 2) := by decide +kernel
theorem dX8_sums_121 : decode cX8_sums 121 = .ok (.bipush 7, 2) := by decide +kernel
theorem dX8_sums_123 : decode cX8_sums 123 = .ok (.irem, 1) := by decide +kernel
theorem dX8_sums_124 : decode cX8_sums 124 = .ok (.dup2, 1) := by decide +kernel
theorem dX8_sums_125 : decode cX8_sums 125 = .ok (.laload, 1) := by decide +kernel
theorem dX8_sums_126 : decode cX8_sums 126 = .ok (.aload_n 0, 1) := by decide +kernel
theorem dX8_sums_127 : decode cX8_sums 127 = .ok (.getfield 45, 3) := by decide +kernel
theorem dX8_sums_130 : decode cX8_sums 130 = .ok (.bipush 84, 2) := by decide +kernel
theorem dX8_sums_132 : decode cX8_sums 132 = .ok (.iload_n 3, 1) := by decide +kernel
theorem dX8_sums_133 : decode cX8_sums 133 = .ok (.imul, 1) := by decide +kernel
theorem dX8_sums_134 : decode cX8_sums 134 = .ok (.iload 4, 2) := by decide +kernel
theorem dX8_sums_136 : decode cX8_sums 136 = .ok (.iadd, 1) := by decide +kernel
theorem dX8_sums_137 : decode cX8_sums 137 = .ok (.iaload, 1) := by decide +kernel
theorem dX8_sums_138 : decode cX8_sums 138 = .ok (.i2l, 1) := by decide +kernel
theorem dX8_sums_139 : decode cX8_sums 139 = .ok (.ladd, 1) := by decide +kernel
theorem dX8_sums_140 : decode cX8_sums 140 = .ok (.lastore, 1) := by decide +kernel
theorem dX8_sums_141 : decode cX8_sums 141 = .ok (.aload_n 0, 1) := by decide +kernel
theorem dX8_sums_142 : decode cX8_sums 142 = .ok (.getfield 55, 3) := by decide +kernel
theorem dX8_sums_145 : decode cX8_sums 145 = .ok (.iload 4, 2) := by decide +kernel
theorem dX8_sums_147 : decode cX8_sums 147 = .ok (.bipush 7, 2) := by decide +kernel
theorem dX8_sums_149 : decode cX8_sums 149 = .ok (.idiv, 1) := by decide +kernel
theorem dX8_sums_150 : decode cX8_sums 150 = .ok (.dup2, 1) := by decide +kernel
theorem dX8_sums_151 : decode cX8_sums 151 = .ok (.laload, 1) := by decide +kernel
theorem dX8_sums_152 : decode cX8_sums 152 = .ok (.aload_n 0, 1) := by decide +kernel
theorem dX8_sums_153 : decode cX8_sums 153 = .ok (.getfield 45, 3) := by decide +kernel
theorem dX8_sums_156 : decode cX8_sums 156 = .ok (.bipush 84, 2) := by decide +kernel
theorem dX8_sums_158 : decode cX8_sums 158 = .ok (.iload_n 3, 1) := by decide +kernel
theorem dX8_sums_159 : decode cX8_sums 159 = .ok (.imul, 1) := by decide +kernel
theorem dX8_sums_160 : decode cX8_sums 160 = .ok (.iload 4, 2) := by decide +kernel
theorem dX8_sums_162 : decode cX8_sums 162 = .ok (.iadd, 1) := by decide +kernel
theorem dX8_sums_163 : decode cX8_sums 163 = .ok (.iaload, 1) := by decide +kernel
theorem dX8_sums_164 : decode cX8_sums 164 = .ok (.i2l, 1) := by decide +kernel
theorem dX8_sums_165 : decode cX8_sums 165 = .ok (.ladd, 1) := by decide +kernel
theorem dX8_sums_166 : decode cX8_sums 166 = .ok (.lastore, 1) := by decide +kernel
theorem dX8_sums_167 : decode cX8_sums 167 = .ok (.aload_n 0, 1) := by decide +kernel
theorem dX8_sums_168 : decode cX8_sums 168 = .ok (.dup, 1) := by decide +kernel
theorem dX8_sums_169 : decode cX8_sums 169 = .ok (.getfield 137, 3) := by decide +kernel
theorem dX8_sums_172 : decode cX8_sums 172 = .ok (.aload_n 0, 1) := by decide +kernel
theorem dX8_sums_173 : decode cX8_sums 173 = .ok (.getfield 45, 3) := by decide +kernel
theorem dX8_sums_176 : decode cX8_sums 176 = .ok (.bipush 84, 2) := by decide +kernel
theorem dX8_sums_178 : decode cX8_sums 178 = .ok (.iload_n 3, 1) := by decide +kernel
theorem dX8_sums_179 : decode cX8_sums 179 = .ok (.imul, 1) := by decide +kernel
theorem dX8_sums_180 : decode cX8_sums 180 = .ok (.iload 4, 2) := by decide +kernel
theorem dX8_sums_182 : decode cX8_sums 182 = .ok (.iadd, 1) := by decide +kernel
theorem dX8_sums_183 : decode cX8_sums 183 = .ok (.iaload, 1) := by decide +kernel
theorem dX8_sums_184 : decode cX8_sums 184 = .ok (.i2l, 1) := by decide +kernel
theorem dX8_sums_185 : decode cX8_sums 185 = .ok (.ladd, 1) := by decide +kernel
theorem dX8_sums_186 : decode cX8_sums 186 = .ok (.putfield 137, 3) := by decide +kernel
theorem dX8_sums_189 : decode cX8_sums 189 = .ok (.iinc 4 1, 3) := by decide +kernel
theorem dX8_sums_192 : decode cX8_sums 192 = .ok (.goto (-84), 3) := by decide +kernel
theorem dX8_sums_195 : decode cX8_sums 195 = .ok (.iinc 3 1, 3) := by decide +kernel
theorem dX8_sums_198 : decode cX8_sums 198 = .ok (.goto (-144), 3) := by decide +kernel
theorem dX8_sums_201 : decode cX8_sums 201 = .ok (.aload_n 0, 1) := by decide +kernel
theorem dX8_sums_202 : decode cX8_sums 202 = .ok (.getfield 137, 3) := by decide +kernel
theorem dX8_sums_205 : decode cX8_sums 205 = .ok (.lconst 0, 1) := by decide +kernel
theorem dX8_sums_206 : decode cX8_sums 206 = .ok (.lcmp, 1) := by decide +kernel
theorem dX8_sums_207 : decode cX8_sums 207 = .ok (.ifCond .le 7, 3) := by decide +kernel
theorem dX8_sums_210 : decode cX8_sums 210 = .ok (.iconst 1, 1) := by decide +kernel
theorem dX8_sums_211 : decode cX8_sums 211 = .ok (.goto 4, 3) := by decide +kernel
theorem dX8_sums_214 : decode cX8_sums 214 = .ok (.iconst 0, 1) := by decide +kernel
theorem dX8_sums_215 : decode cX8_sums 215 = .ok (.ireturn, 1) := by decide +kernel
theorem dX8_worthOf_0 : decode cX8_worthOf 0 = .ok (.aload_n 0, 1) := by decide +kernel
theorem dX8_worthOf_1 : decode cX8_worthOf 1 = .ok (.getfield 51, 3) := by decide +kernel
theorem dX8_worthOf_4 : decode cX8_worthOf 4 = .ok (.iload_n 1, 1) := by decide +kernel
theorem dX8_worthOf_5 : decode cX8_worthOf 5 = .ok (.bipush 7, 2) := by decide +kernel
theorem dX8_worthOf_7 : decode cX8_worthOf 7 = .ok (.irem, 1) := by decide +kernel
theorem dX8_worthOf_8 : decode cX8_worthOf 8 = .ok (.laload, 1) := by decide +kernel
theorem dX8_worthOf_9 : decode cX8_worthOf 9 = .ok (.aload_n 0, 1) := by decide +kernel
theorem dX8_worthOf_10 : decode cX8_worthOf 10 = .ok (.getfield 55, 3) := by decide +kernel
theorem dX8_worthOf_13 : decode cX8_worthOf 13 = .ok (.iload_n 1, 1) := by decide +kernel
theorem dX8_worthOf_14 : decode cX8_worthOf 14 = .ok (.bipush 7, 2) := by decide +kernel
theorem dX8_worthOf_16 : decode cX8_worthOf 16 = .ok (.idiv, 1) := by decide +kernel
theorem dX8_worthOf_17 : decode cX8_worthOf 17 = .ok (.laload, 1) := by decide +kernel
theorem dX8_worthOf_18 : decode cX8_worthOf 18 = .ok (.lmul, 1) := by decide +kernel
theorem dX8_worthOf_19 : decode cX8_worthOf 19 = .ok (.lreturn, 1) := by decide +kernel
theorem dX8_isGroup_0 : decode cX8_isGroup 0 = .ok (.iload_n 0, 1) := by decide +kernel
theorem dX8_isGroup_1 : decode cX8_isGroup 1 = .ok (.ifCond .lt 12, 3) := by decide +kernel
theorem dX8_isGroup_4 : decode cX8_isGroup 4 = .ok (.iload_n 0, 1) := by decide +kernel
theorem dX8_isGroup_5 : decode cX8_isGroup 5 = .ok (.iconst 4, 1) := by decide +kernel
theorem dX8_isGroup_6 : decode cX8_isGroup 6 = .ok (.if_icmp .ge 7, 3) := by decide +kernel
theorem dX8_isGroup_9 : decode cX8_isGroup 9 = .ok (.iconst 1, 1) := by decide +kernel
theorem dX8_isGroup_10 : decode cX8_isGroup 10 = .ok (.goto 4, 3) := by decide +kernel
theorem dX8_isGroup_13 : decode cX8_isGroup 13 = .ok (.iconst 0, 1) := by decide +kernel
theorem dX8_isGroup_14 : decode cX8_isGroup 14 = .ok (.ireturn, 1) := by decide +kernel
theorem dX8_posts_0 : decode cX8_posts 0 = .ok (.aload_n 0, 1) := by decide +kernel
theorem dX8_posts_1 : decode cX8_posts 1 = .ok (.iconst 0, 1) := by decide +kernel
theorem dX8_posts_2 : decode cX8_posts 2 = .ok (.putfield 91, 3) := by decide +kernel
theorem dX8_posts_5 : decode cX8_posts 5 = .ok (.iload_n 1, 1) := by decide +kernel
theorem dX8_posts_6 : decode cX8_posts 6 = .ok (.invokestatic 144, 3) := by decide +kernel
theorem dX8_posts_9 : decode cX8_posts 9 = .ok (.ifCond .eq 7, 3) := by decide +kernel
theorem dX8_posts_12 : decode cX8_posts 12 = .ok (.iload_n 2, 1) := by decide +kernel
theorem dX8_posts_13 : decode cX8_posts 13 = .ok (.ifCond .ge 5, 3) := by decide +kernel
theorem dX8_posts_16 : decode cX8_posts 16 = .ok (.iconst (-1), 1) := by decide +kernel
theorem dX8_posts_17 : decode cX8_posts 17 = .ok (.ireturn, 1) := by decide +kernel
theorem dX8_posts_18 : decode cX8_posts 18 = .ok (.aload_n 0, 1) := by decide +kernel
theorem dX8_posts_19 : decode cX8_posts 19 = .ok (.iload_n 2, 1) := by decide +kernel
theorem dX8_posts_20 : decode cX8_posts 20 = .ok (.invokevirtual 134, 3) := by decide +kernel
theorem dX8_posts_23 : decode cX8_posts 23 = .ok (.aload_n 0, 1) := by decide +kernel
theorem dX8_posts_24 : decode cX8_posts 24 = .ok (.iload_n 1, 1) := by decide +kernel
theorem dX8_posts_25 : decode cX8_posts 25 = .ok (.iconst (-1), 1) := by decide +kernel
theorem dX8_posts_26 : decode cX8_posts 26 = .ok (.invokevirtual 147, 3) := by decide +kernel
theorem dX8_posts_29 : decode cX8_posts 29 = .ok (.ifCond .eq 10, 3) := by decide +kernel
theorem dX8_posts_32 : decode cX8_posts 32 = .ok (.aload_n 0, 1) := by decide +kernel
theorem dX8_posts_33 : decode cX8_posts 33 = .ok (.getfield 141, 3) := by decide +kernel
theorem dX8_posts_36 : decode cX8_posts 36 = .ok (.goto 4, 3) := by decide +kernel
theorem dX8_posts_39 : decode cX8_posts 39 = .ok (.iconst 0, 1) := by decide +kernel
theorem dX8_posts_40 : decode cX8_posts 40 = .ok (.ireturn, 1) := by decide +kernel
theorem dX8_worth_0 : decode cX8_worth 0 = .ok (.iload_n 1, 1) := by decide +kernel
theorem dX8_worth_1 : decode cX8_worth 1 = .ok (.invokestatic 144, 3) := by decide +kernel
theorem dX8_worth_4 : decode cX8_worth 4 = .ok (.ifCond .eq 18, 3) := by decide +kernel
theorem dX8_worth_7 : decode cX8_worth 7 = .ok (.iload_n 2, 1) := by decide +kernel
theorem dX8_worth_8 : decode cX8_worth 8 = .ok (.invokestatic 116, 3) := by decide +kernel
theorem dX8_worth_11 : decode cX8_worth 11 = .ok (.ifCond .eq 11, 3) := by decide +kernel
theorem dX8_worth_14 : decode cX8_worth 14 = .ok (.iload_n 3, 1) := by decide +kernel
theorem dX8_worth_15 : decode cX8_worth 15 = .ok (.ifCond .lt 7, 3) := by decide +kernel
theorem dX8_worth_18 : decode cX8_worth 18 = .ok (.iconst 1, 1) := by decide +kernel
theorem dX8_worth_19 : decode cX8_worth 19 = .ok (.goto 4, 3) := by decide +kernel
theorem dX8_worth_22 : decode cX8_worth 22 = .ok (.iconst 0, 1) := by decide +kernel
theorem dX8_worth_23 : decode cX8_worth 23 = .ok (.istore 4, 2) := by decide +kernel
theorem dX8_worth_25 : decode cX8_worth 25 = .ok (.iload 4, 2) := by decide +kernel
theorem dX8_worth_27 : decode cX8_worth 27 = .ok (.ifCond .eq 8, 3) := by decide +kernel
theorem dX8_worth_30 : decode cX8_worth 30 = .ok (.aload_n 0, 1) := by decide +kernel
theorem dX8_worth_31 : decode cX8_worth 31 = .ok (.iload_n 3, 1) := by decide +kernel
theorem dX8_worth_32 : decode cX8_worth 32 = .ok (.invokevirtual 134, 3) := by decide +kernel
theorem dX8_worth_35 : decode cX8_worth 35 = .ok (.aload_n 0, 1) := by decide +kernel
theorem dX8_worth_36 : decode cX8_worth 36 = .ok (.iload 4, 2) := by decide +kernel
theorem dX8_worth_38 : decode cX8_worth 38 = .ok (.ifCond .eq 12, 3) := by decide +kernel
theorem dX8_worth_41 : decode cX8_worth 41 = .ok (.aload_n 0, 1) := by decide +kernel
theorem dX8_worth_42 : decode cX8_worth 42 = .ok (.iload_n 1, 1) := by decide +kernel
theorem dX8_worth_43 : decode cX8_worth 43 = .ok (.iconst (-1), 1) := by decide +kernel
theorem dX8_worth_44 : decode cX8_worth 44 = .ok (.invokevirtual 147, 3) := by decide +kernel
theorem dX8_worth_47 : decode cX8_worth 47 = .ok (.ifCond .ne 7, 3) := by decide +kernel
theorem dX8_worth_50 : decode cX8_worth 50 = .ok (.iconst 1, 1) := by decide +kernel
theorem dX8_worth_51 : decode cX8_worth 51 = .ok (.goto 4, 3) := by decide +kernel
theorem dX8_worth_54 : decode cX8_worth 54 = .ok (.iconst 0, 1) := by decide +kernel
theorem dX8_worth_55 : decode cX8_worth 55 = .ok (.invokevirtual 151, 3) := by decide +kernel
theorem dX8_worth_58 : decode cX8_worth 58 = .ok (.ifCond .eq 5, 3) := by decide +kernel
theorem dX8_worth_61 : decode cX8_worth 61 = .ok (.iconst 0, 1) := by decide +kernel
theorem dX8_worth_62 : decode cX8_worth 62 = .ok (.ireturn, 1) := by decide +kernel
theorem dX8_worth_63 : decode cX8_worth 63 = .ok (.aload_n 0, 1) := by decide +kernel
theorem dX8_worth_64 : decode cX8_worth 64 = .ok (.iload_n 2, 1) := by decide +kernel
theorem dX8_worth_65 : decode cX8_worth 65 = .ok (.invokevirtual 155, 3) := by decide +kernel
theorem dX8_worth_68 : decode cX8_worth 68 = .ok (.l2i, 1) := by decide +kernel
theorem dX8_worth_69 : decode cX8_worth 69 = .ok (.ireturn, 1) := by decide +kernel
theorem dX8_sampleOf_0 : decode cX8_sampleOf 0 = .ok (.iconst 0, 1) := by decide +kernel
theorem dX8_sampleOf_1 : decode cX8_sampleOf 1 = .ok (.istore_n 2, 1) := by decide +kernel
theorem dX8_sampleOf_2 : decode cX8_sampleOf 2 = .ok (.iconst 0, 1) := by decide +kernel
theorem dX8_sampleOf_3 : decode cX8_sampleOf 3 = .ok (.istore_n 3, 1) := by decide +kernel
theorem dX8_sampleOf_4 : decode cX8_sampleOf 4 = .ok (.iload_n 3, 1) := by decide +kernel
theorem dX8_sampleOf_5 : decode cX8_sampleOf 5 = .ok (.bipush 84, 2) := by decide +kernel
theorem dX8_sampleOf_7 : decode cX8_sampleOf 7 = .ok (.if_icmp .ge 46, 3) := by decide +kernel
theorem dX8_sampleOf_10 : decode cX8_sampleOf 10 = .ok (.iload_n 2, 1) := by decide +kernel
theorem dX8_sampleOf_11 : decode cX8_sampleOf 11 = .ok (.bipush 14, 2) := by decide +kernel
theorem dX8_sampleOf_13 : decode cX8_sampleOf 13 = .ok (.if_icmp .ge 40, 3) := by decide +kernel
theorem dX8_sampleOf_16 : decode cX8_sampleOf 16 = .ok (.aload_n 0, 1) := by decide +kernel
theorem dX8_sampleOf_17 : decode cX8_sampleOf 17 = .ok (.getfield 48, 3) := by decide +kernel
theorem dX8_sampleOf_20 : decode cX8_sampleOf 20 = .ok (.iload_n 1, 1) := by decide +kernel
theorem dX8_sampleOf_21 : decode cX8_sampleOf 21 = .ok (.baload, 1) := by decide +kernel
theorem dX8_sampleOf_22 : decode cX8_sampleOf 22 = .ok (.ifCond .ne 31, 3) := by decide +kernel
theorem dX8_sampleOf_25 : decode cX8_sampleOf 25 = .ok (.iload_n 2, 1) := by decide +kernel
theorem dX8_sampleOf_26 : decode cX8_sampleOf 26 = .ok (.aload_n 0, 1) := by decide +kernel
theorem dX8_sampleOf_27 : decode cX8_sampleOf 27 = .ok (.getfield 45, 3) := by decide +kernel
theorem dX8_sampleOf_30 : decode cX8_sampleOf 30 = .ok (.bipush 84, 2) := by decide +kernel
theorem dX8_sampleOf_32 : decode cX8_sampleOf 32 = .ok (.iload_n 1, 1) := by decide +kernel
theorem dX8_sampleOf_33 : decode cX8_sampleOf 33 = .ok (.imul, 1) := by decide +kernel
theorem dX8_sampleOf_34 : decode cX8_sampleOf 34 = .ok (.iload_n 3, 1) := by decide +kernel
theorem dX8_sampleOf_35 : decode cX8_sampleOf 35 = .ok (.iadd, 1) := by decide +kernel
theorem dX8_sampleOf_36 : decode cX8_sampleOf 36 = .ok (.iaload, 1) := by decide +kernel
theorem dX8_sampleOf_37 : decode cX8_sampleOf 37 = .ok (.ifCond .lt 7, 3) := by decide +kernel
theorem dX8_sampleOf_40 : decode cX8_sampleOf 40 = .ok (.iconst 1, 1) := by decide +kernel
theorem dX8_sampleOf_41 : decode cX8_sampleOf 41 = .ok (.goto 4, 3) := by decide +kernel
theorem dX8_sampleOf_44 : decode cX8_sampleOf 44 = .ok (.iconst 0, 1) := by decide +kernel
theorem dX8_sampleOf_45 : decode cX8_sampleOf 45 = .ok (.iadd, 1) := by decide +kernel
theorem dX8_sampleOf_46 : decode cX8_sampleOf 46 = .ok (.istore_n 2, 1) := by decide +kernel
theorem dX8_sampleOf_47 : decode cX8_sampleOf 47 = .ok (.iinc 3 1, 3) := by decide +kernel
theorem dX8_sampleOf_50 : decode cX8_sampleOf 50 = .ok (.goto (-46), 3) := by decide +kernel
theorem dX8_sampleOf_53 : decode cX8_sampleOf 53 = .ok (.iload_n 2, 1) := by decide +kernel
theorem dX8_sampleOf_54 : decode cX8_sampleOf 54 = .ok (.ireturn, 1) := by decide +kernel
theorem dX8_sample_0 : decode cX8_sample 0 = .ok (.aload_n 0, 1) := by decide +kernel
theorem dX8_sample_1 : decode cX8_sample 1 = .ok (.iconst 0, 1) := by decide +kernel
theorem dX8_sample_2 : decode cX8_sample 2 = .ok (.putfield 91, 3) := by decide +kernel
theorem dX8_sample_5 : decode cX8_sample 5 = .ok (.aload_n 0, 1) := by decide +kernel
theorem dX8_sample_6 : decode cX8_sample 6 = .ok (.iload_n 1, 1) := by decide +kernel
theorem dX8_sample_7 : decode cX8_sample 7 = .ok (.invokevirtual 112, 3) := by decide +kernel
theorem dX8_sample_10 : decode cX8_sample 10 = .ok (.ifCond .eq 7, 3) := by decide +kernel
theorem dX8_sample_13 : decode cX8_sample 13 = .ok (.iload_n 2, 1) := by decide +kernel
theorem dX8_sample_14 : decode cX8_sample 14 = .ok (.ifCond .ge 5, 3) := by decide +kernel
theorem dX8_sample_17 : decode cX8_sample 17 = .ok (.iconst (-1), 1) := by decide +kernel
theorem dX8_sample_18 : decode cX8_sample 18 = .ok (.ireturn, 1) := by decide +kernel
theorem dX8_sample_19 : decode cX8_sample 19 = .ok (.aload_n 0, 1) := by decide +kernel
theorem dX8_sample_20 : decode cX8_sample 20 = .ok (.iload_n 2, 1) := by decide +kernel
theorem dX8_sample_21 : decode cX8_sample 21 = .ok (.invokevirtual 134, 3) := by decide +kernel
theorem dX8_sample_24 : decode cX8_sample 24 = .ok (.aload_n 0, 1) := by decide +kernel
theorem dX8_sample_25 : decode cX8_sample 25 = .ok (.iload_n 1, 1) := by decide +kernel
theorem dX8_sample_26 : decode cX8_sample 26 = .ok (.invokevirtual 159, 3) := by decide +kernel
theorem dX8_sample_29 : decode cX8_sample 29 = .ok (.ireturn, 1) := by decide +kernel
theorem dX8_fits_0 : decode cX8_fits 0 = .ok (.aload_n 0, 1) := by decide +kernel
theorem dX8_fits_1 : decode cX8_fits 1 = .ok (.lconst 0, 1) := by decide +kernel
theorem dX8_fits_2 : decode cX8_fits 2 = .ok (.putfield 162, 3) := by decide +kernel
theorem dX8_fits_5 : decode cX8_fits 5 = .ok (.aload_n 0, 1) := by decide +kernel
theorem dX8_fits_6 : decode cX8_fits 6 = .ok (.lconst 0, 1) := by decide +kernel
theorem dX8_fits_7 : decode cX8_fits 7 = .ok (.putfield 165, 3) := by decide +kernel
theorem dX8_fits_10 : decode cX8_fits 10 = .ok (.iconst 0, 1) := by decide +kernel
theorem dX8_fits_11 : decode cX8_fits 11 = .ok (.istore_n 3, 1) := by decide +kernel
theorem dX8_fits_12 : decode cX8_fits 12 = .ok (.iconst 0, 1) := by decide +kernel
theorem dX8_fits_13 : decode cX8_fits 13 = .ok (.istore 4, 2) := by decide +kernel
theorem dX8_fits_15 : decode cX8_fits 15 = .ok (.iload 4, 2) := by decide +kernel
theorem dX8_fits_17 : decode cX8_fits 17 = .ok (.bipush 84, 2) := by decide +kernel
theorem dX8_fits_19 : decode cX8_fits 19 = .ok (.if_icmp .ge 80, 3) := by decide +kernel
theorem dX8_fits_22 : decode cX8_fits 22 = .ok (.iload_n 3, 1) := by decide +kernel
theorem dX8_fits_23 : decode cX8_fits 23 = .ok (.iload_n 2, 1) := by decide +kernel
theorem dX8_fits_24 : decode cX8_fits 24 = .ok (.if_icmp .ge 75, 3) := by decide +kernel
theorem dX8_fits_27 : decode cX8_fits 27 = .ok (.aload_n 0, 1) := by decide +kernel
theorem dX8_fits_28 : decode cX8_fits 28 = .ok (.getfield 45, 3) := by decide +kernel
theorem dX8_fits_31 : decode cX8_fits 31 = .ok (.bipush 84, 2) := by decide +kernel
theorem dX8_fits_33 : decode cX8_fits 33 = .ok (.iload_n 1, 1) := by decide +kernel
theorem dX8_fits_34 : decode cX8_fits 34 = .ok (.imul, 1) := by decide +kernel
theorem dX8_fits_35 : decode cX8_fits 35 = .ok (.iload 4, 2) := by decide +kernel
theorem dX8_fits_37 : decode cX8_fits 37 = .ok (.iadd, 1) := by decide +kernel
theorem dX8_fits_38 : decode cX8_fits 38 = .ok (.iaload, 1) := by decide +kernel
theorem dX8_fits_39 : decode cX8_fits 39 = .ok (.istore 5, 2) := by decide +kernel
theorem dX8_fits_41 : decode cX8_fits 41 = .ok (.iload 5, 2) := by decide +kernel
theorem dX8_fits_43 : decode cX8_fits 43 = .ok (.ifCond .ge 6, 3) := by decide +kernel
theorem dX8_fits_46 : decode cX8_fits 46 = .ok (.goto 47, 3) := by decide +kernel
theorem dX8_fits_49 : decode cX8_fits 49 = .ok (.iinc 3 1, 3) := by decide +kernel
theorem dX8_fits_52 : decode cX8_fits 52 = .ok (.aload_n 0, 1) := by decide +kernel
theorem dX8_fits_53 : decode cX8_fits 53 = .ok (.dup, 1) := by decide +kernel
theorem dX8_fits_54 : decode cX8_fits 54 = .ok (.getfield 162, 3) := by decide +kernel
theorem dX8_fits_57 : decode cX8_fits 57 = .ok (.iload 5, 2) := by decide +kernel
theorem dX8_fits_59 : decode cX8_fits 59 = .ok (.i2l, 1) := by decide +kernel
theorem dX8_fits_60 : decode cX8_fits 60 = .ok (.aload_n 0, 1) := by decide +kernel
theorem dX8_fits_61 : decode cX8_fits 61 = .ok (.iload 4, 2) := by decide +kernel
theorem dX8_fits_63 : decode cX8_fits 63 = .ok (.invokevirtual 155, 3) := by decide +kernel
theorem dX8_fits_66 : decode cX8_fits 66 = .ok (.lmul, 1) := by decide +kernel
theorem dX8_fits_67 : decode cX8_fits 67 = .ok (.ladd, 1) := by decide +kernel
theorem dX8_fits_68 : decode cX8_fits 68 = .ok (.putfield 162, 3) := by decide +kernel
theorem dX8_fits_71 : decode cX8_fits 71 = .ok (.aload_n 0, 1) := by decide +kernel
theorem dX8_fits_72 : decode cX8_fits 72 = .ok (.dup, 1) := by decide +kernel
theorem dX8_fits_73 : decode cX8_fits 73 = .ok (.getfield 165, 3) := by decide +kernel
theorem dX8_fits_76 : decode cX8_fits 76 = .ok (.aload_n 0, 1) := by decide +kernel
theorem dX8_fits_77 : decode cX8_fits 77 = .ok (.iload 4, 2) := by decide +kernel
theorem dX8_fits_79 : decode cX8_fits 79 = .ok (.invokevirtual 155, 3) := by decide +kernel
theorem dX8_fits_82 : decode cX8_fits 82 = .ok (.aload_n 0, 1) := by decide +kernel
theorem dX8_fits_83 : decode cX8_fits 83 = .ok (.iload 4, 2) := by decide +kernel
theorem dX8_fits_85 : decode cX8_fits 85 = .ok (.invokevirtual 155, 3) := by decide +kernel
theorem dX8_fits_88 : decode cX8_fits 88 = .ok (.lmul, 1) := by decide +kernel
theorem dX8_fits_89 : decode cX8_fits 89 = .ok (.ladd, 1) := by decide +kernel
theorem dX8_fits_90 : decode cX8_fits 90 = .ok (.putfield 165, 3) := by decide +kernel
theorem dX8_fits_93 : decode cX8_fits 93 = .ok (.iinc 4 1, 3) := by decide +kernel
theorem dX8_fits_96 : decode cX8_fits 96 = .ok (.goto (-81), 3) := by decide +kernel
theorem dX8_fits_99 : decode cX8_fits 99 = .ok (.aload_n 0, 1) := by decide +kernel
theorem dX8_fits_100 : decode cX8_fits 100 = .ok (.getfield 165, 3) := by decide +kernel
theorem dX8_fits_103 : decode cX8_fits 103 = .ok (.lconst 0, 1) := by decide +kernel
theorem dX8_fits_104 : decode cX8_fits 104 = .ok (.lcmp, 1) := by decide +kernel
theorem dX8_fits_105 : decode cX8_fits 105 = .ok (.ifCond .le 7, 3) := by decide +kernel
theorem dX8_fits_108 : decode cX8_fits 108 = .ok (.iconst 1, 1) := by decide +kernel
theorem dX8_fits_109 : decode cX8_fits 109 = .ok (.goto 4, 3) := by decide +kernel
theorem dX8_fits_112 : decode cX8_fits 112 = .ok (.iconst 0, 1) := by decide +kernel
theorem dX8_fits_113 : decode cX8_fits 113 = .ok (.ireturn, 1) := by decide +kernel
theorem dX8_isLess_0 : decode cX8_isLess 0 = .ok (.lload_n 0, 1) := by decide +kernel
end
section
theorem dX8_isLess_1 : decode cX8_isLess 1 = .ok (.lstore 8, 2) := by decide +kernel
theorem dX8_isLess_3 : decode cX8_isLess 3 = .ok (.lload_n 2, 1) := by decide +kernel
theorem dX8_isLess_4 : decode cX8_isLess 4 = .ok (.lstore 10, 2) := by decide +kernel
theorem dX8_isLess_6 : decode cX8_isLess 6 = .ok (.lload 4, 2) := by decide +kernel
theorem dX8_isLess_8 : decode cX8_isLess 8 = .ok (.lstore 12, 2) := by decide +kernel
theorem dX8_isLess_10 : decode cX8_isLess 10 = .ok (.lload 6, 2) := by decide +kernel
theorem dX8_isLess_12 : decode cX8_isLess 12 = .ok (.lstore 14, 2) := by decide +kernel
theorem dX8_isLess_14 : decode cX8_isLess 14 = .ok (.iconst 0, 1) := by decide +kernel
theorem dX8_isLess_15 : decode cX8_isLess 15 = .ok (.istore 16, 2) := by decide +kernel
theorem dX8_isLess_17 : decode cX8_isLess 17 = .ok (.lload 8, 2) := by decide +kernel
theorem dX8_isLess_19 : decode cX8_isLess 19 = .ok (.lload 10, 2) := by decide +kernel
theorem dX8_isLess_21 : decode cX8_isLess 21 = .ok (.ldiv, 1) := by decide +kernel
theorem dX8_isLess_22 : decode cX8_isLess 22 = .ok (.lstore 17, 2) := by decide +kernel
theorem dX8_isLess_24 : decode cX8_isLess 24 = .ok (.lload 12, 2) := by decide +kernel
theorem dX8_isLess_26 : decode cX8_isLess 26 = .ok (.lload 14, 2) := by decide +kernel
theorem dX8_isLess_28 : decode cX8_isLess 28 = .ok (.ldiv, 1) := by decide +kernel
theorem dX8_isLess_29 : decode cX8_isLess 29 = .ok (.lstore 19, 2) := by decide +kernel
theorem dX8_isLess_31 : decode cX8_isLess 31 = .ok (.lload 17, 2) := by decide +kernel
theorem dX8_isLess_33 : decode cX8_isLess 33 = .ok (.lload 19, 2) := by decide +kernel
theorem dX8_isLess_35 : decode cX8_isLess 35 = .ok (.lcmp, 1) := by decide +kernel
theorem dX8_isLess_36 : decode cX8_isLess 36 = .ok (.ifCond .eq 27, 3) := by decide +kernel
theorem dX8_isLess_39 : decode cX8_isLess 39 = .ok (.lload 17, 2) := by decide +kernel
theorem dX8_isLess_41 : decode cX8_isLess 41 = .ok (.lload 19, 2) := by decide +kernel
theorem dX8_isLess_43 : decode cX8_isLess 43 = .ok (.lcmp, 1) := by decide +kernel
theorem dX8_isLess_44 : decode cX8_isLess 44 = .ok (.ifCond .ge 7, 3) := by decide +kernel
theorem dX8_isLess_47 : decode cX8_isLess 47 = .ok (.iconst 1, 1) := by decide +kernel
theorem dX8_isLess_48 : decode cX8_isLess 48 = .ok (.goto 4, 3) := by decide +kernel
theorem dX8_isLess_51 : decode cX8_isLess 51 = .ok (.iconst 0, 1) := by decide +kernel
theorem dX8_isLess_52 : decode cX8_isLess 52 = .ok (.iload 16, 2) := by decide +kernel
theorem dX8_isLess_54 : decode cX8_isLess 54 = .ok (.if_icmp .eq 7, 3) := by decide +kernel
theorem dX8_isLess_57 : decode cX8_isLess 57 = .ok (.iconst 1, 1) := by decide +kernel
theorem dX8_isLess_58 : decode cX8_isLess 58 = .ok (.goto 4, 3) := by decide +kernel
theorem dX8_isLess_61 : decode cX8_isLess 61 = .ok (.iconst 0, 1) := by decide +kernel
theorem dX8_isLess_62 : decode cX8_isLess 62 = .ok (.ireturn, 1) := by decide +kernel
theorem dX8_isLess_63 : decode cX8_isLess 63 = .ok (.lload 8, 2) := by decide +kernel
theorem dX8_isLess_65 : decode cX8_isLess 65 = .ok (.lload 10, 2) := by decide +kernel
theorem dX8_isLess_67 : decode cX8_isLess 67 = .ok (.lrem, 1) := by decide +kernel
theorem dX8_isLess_68 : decode cX8_isLess 68 = .ok (.lstore 8, 2) := by decide +kernel
theorem dX8_isLess_70 : decode cX8_isLess 70 = .ok (.lload 12, 2) := by decide +kernel
theorem dX8_isLess_72 : decode cX8_isLess 72 = .ok (.lload 14, 2) := by decide +kernel
theorem dX8_isLess_74 : decode cX8_isLess 74 = .ok (.lrem, 1) := by decide +kernel
theorem dX8_isLess_75 : decode cX8_isLess 75 = .ok (.lstore 12, 2) := by decide +kernel
theorem dX8_isLess_77 : decode cX8_isLess 77 = .ok (.lload 8, 2) := by decide +kernel
theorem dX8_isLess_79 : decode cX8_isLess 79 = .ok (.lconst 0, 1) := by decide +kernel
theorem dX8_isLess_80 : decode cX8_isLess 80 = .ok (.lcmp, 1) := by decide +kernel
theorem dX8_isLess_81 : decode cX8_isLess 81 = .ok (.ifCond .eq 10, 3) := by decide +kernel
theorem dX8_isLess_84 : decode cX8_isLess 84 = .ok (.lload 12, 2) := by decide +kernel
theorem dX8_isLess_86 : decode cX8_isLess 86 = .ok (.lconst 0, 1) := by decide +kernel
theorem dX8_isLess_87 : decode cX8_isLess 87 = .ok (.lcmp, 1) := by decide +kernel
theorem dX8_isLess_88 : decode cX8_isLess 88 = .ok (.ifCond .ne 34, 3) := by decide +kernel
theorem dX8_isLess_91 : decode cX8_isLess 91 = .ok (.lload 8, 2) := by decide +kernel
theorem dX8_isLess_93 : decode cX8_isLess 93 = .ok (.lload 12, 2) := by decide +kernel
theorem dX8_isLess_95 : decode cX8_isLess 95 = .ok (.lcmp, 1) := by decide +kernel
theorem dX8_isLess_96 : decode cX8_isLess 96 = .ok (.ifCond .eq 24, 3) := by decide +kernel
theorem dX8_isLess_99 : decode cX8_isLess 99 = .ok (.lload 8, 2) := by decide +kernel
theorem dX8_isLess_101 : decode cX8_isLess 101 = .ok (.lconst 0, 1) := by decide +kernel
theorem dX8_isLess_102 : decode cX8_isLess 102 = .ok (.lcmp, 1) := by decide +kernel
theorem dX8_isLess_103 : decode cX8_isLess 103 = .ok (.ifCond .ne 7, 3) := by decide +kernel
theorem dX8_isLess_106 : decode cX8_isLess 106 = .ok (.iconst 1, 1) := by decide +kernel
theorem dX8_isLess_107 : decode cX8_isLess 107 = .ok (.goto 4, 3) := by decide +kernel
theorem dX8_isLess_110 : decode cX8_isLess 110 = .ok (.iconst 0, 1) := by decide +kernel
theorem dX8_isLess_111 : decode cX8_isLess 111 = .ok (.iload 16, 2) := by decide +kernel
theorem dX8_isLess_113 : decode cX8_isLess 113 = .ok (.if_icmp .eq 7, 3) := by decide +kernel
theorem dX8_isLess_116 : decode cX8_isLess 116 = .ok (.iconst 1, 1) := by decide +kernel
theorem dX8_isLess_117 : decode cX8_isLess 117 = .ok (.goto 4, 3) := by decide +kernel
theorem dX8_isLess_120 : decode cX8_isLess 120 = .ok (.iconst 0, 1) := by decide +kernel
theorem dX8_isLess_121 : decode cX8_isLess 121 = .ok (.ireturn, 1) := by decide +kernel
theorem dX8_isLess_122 : decode cX8_isLess 122 = .ok (.lload 8, 2) := by decide +kernel
theorem dX8_isLess_124 : decode cX8_isLess 124 = .ok (.lstore 21, 2) := by decide +kernel
theorem dX8_isLess_126 : decode cX8_isLess 126 = .ok (.lload 10, 2) := by decide +kernel
theorem dX8_isLess_128 : decode cX8_isLess 128 = .ok (.lstore 8, 2) := by decide +kernel
theorem dX8_isLess_130 : decode cX8_isLess 130 = .ok (.lload 21, 2) := by decide +kernel
theorem dX8_isLess_132 : decode cX8_isLess 132 = .ok (.lstore 10, 2) := by decide +kernel
theorem dX8_isLess_134 : decode cX8_isLess 134 = .ok (.lload 12, 2) := by decide +kernel
theorem dX8_isLess_136 : decode cX8_isLess 136 = .ok (.lstore 21, 2) := by decide +kernel
theorem dX8_isLess_138 : decode cX8_isLess 138 = .ok (.lload 14, 2) := by decide +kernel
theorem dX8_isLess_140 : decode cX8_isLess 140 = .ok (.lstore 12, 2) := by decide +kernel
theorem dX8_isLess_142 : decode cX8_isLess 142 = .ok (.lload 21, 2) := by decide +kernel
theorem dX8_isLess_144 : decode cX8_isLess 144 = .ok (.lstore 14, 2) := by decide +kernel
theorem dX8_isLess_146 : decode cX8_isLess 146 = .ok (.iload 16, 2) := by decide +kernel
theorem dX8_isLess_148 : decode cX8_isLess 148 = .ok (.ifCond .ne 7, 3) := by decide +kernel
theorem dX8_isLess_151 : decode cX8_isLess 151 = .ok (.iconst 1, 1) := by decide +kernel
theorem dX8_isLess_152 : decode cX8_isLess 152 = .ok (.goto 4, 3) := by decide +kernel
theorem dX8_isLess_155 : decode cX8_isLess 155 = .ok (.iconst 0, 1) := by decide +kernel
theorem dX8_isLess_156 : decode cX8_isLess 156 = .ok (.istore 16, 2) := by decide +kernel
theorem dX8_isLess_158 : decode cX8_isLess 158 = .ok (.goto (-141), 3) := by decide +kernel
theorem dX8_fitAll_0 : decode cX8_fitAll 0 = .ok (.aload_n 0, 1) := by decide +kernel
theorem dX8_fitAll_1 : decode cX8_fitAll 1 = .ok (.iload_n 1, 1) := by decide +kernel
theorem dX8_fitAll_2 : decode cX8_fitAll 2 = .ok (.invokevirtual 159, 3) := by decide +kernel
theorem dX8_fitAll_5 : decode cX8_fitAll 5 = .ok (.istore_n 2, 1) := by decide +kernel
theorem dX8_fitAll_6 : decode cX8_fitAll 6 = .ok (.iconst 0, 1) := by decide +kernel
theorem dX8_fitAll_7 : decode cX8_fitAll 7 = .ok (.istore_n 3, 1) := by decide +kernel
theorem dX8_fitAll_8 : decode cX8_fitAll 8 = .ok (.iconst 0, 1) := by decide +kernel
theorem dX8_fitAll_9 : decode cX8_fitAll 9 = .ok (.istore 4, 2) := by decide +kernel
theorem dX8_fitAll_11 : decode cX8_fitAll 11 = .ok (.iload 4, 2) := by decide +kernel
theorem dX8_fitAll_13 : decode cX8_fitAll 13 = .ok (.iconst 4, 1) := by decide +kernel
theorem dX8_fitAll_14 : decode cX8_fitAll 14 = .ok (.if_icmp .ge 161, 3) := by decide +kernel
theorem dX8_fitAll_17 : decode cX8_fitAll 17 = .ok (.iload_n 2, 1) := by decide +kernel
theorem dX8_fitAll_18 : decode cX8_fitAll 18 = .ok (.ifCond .le 157, 3) := by decide +kernel
theorem dX8_fitAll_21 : decode cX8_fitAll 21 = .ok (.aload_n 0, 1) := by decide +kernel
theorem dX8_fitAll_22 : decode cX8_fitAll 22 = .ok (.iload 4, 2) := by decide +kernel
theorem dX8_fitAll_24 : decode cX8_fitAll 24 = .ok (.iconst (-1), 1) := by decide +kernel
theorem dX8_fitAll_25 : decode cX8_fitAll 25 = .ok (.invokevirtual 147, 3) := by decide +kernel
theorem dX8_fitAll_28 : decode cX8_fitAll 28 = .ok (.ifCond .eq 141, 3) := by decide +kernel
theorem dX8_fitAll_31 : decode cX8_fitAll 31 = .ok (.aload_n 0, 1) := by decide +kernel
theorem dX8_fitAll_32 : decode cX8_fitAll 32 = .ok (.iload_n 1, 1) := by decide +kernel
theorem dX8_fitAll_33 : decode cX8_fitAll 33 = .ok (.iload_n 2, 1) := by decide +kernel
theorem dX8_fitAll_34 : decode cX8_fitAll 34 = .ok (.invokevirtual 168, 3) := by decide +kernel
theorem dX8_fitAll_37 : decode cX8_fitAll 37 = .ok (.ifCond .ne 6, 3) := by decide +kernel
theorem dX8_fitAll_40 : decode cX8_fitAll 40 = .ok (.goto 129, 3) := by decide +kernel
theorem dX8_fitAll_43 : decode cX8_fitAll 43 = .ok (.aload_n 0, 1) := by decide +kernel
theorem dX8_fitAll_44 : decode cX8_fitAll 44 = .ok (.getfield 61, 3) := by decide +kernel
theorem dX8_fitAll_47 : decode cX8_fitAll 47 = .ok (.iload 4, 2) := by decide +kernel
theorem dX8_fitAll_49 : decode cX8_fitAll 49 = .ok (.aload_n 0, 1) := by decide +kernel
theorem dX8_fitAll_50 : decode cX8_fitAll 50 = .ok (.getfield 162, 3) := by decide +kernel
theorem dX8_fitAll_53 : decode cX8_fitAll 53 = .ok (.lastore, 1) := by decide +kernel
theorem dX8_fitAll_54 : decode cX8_fitAll 54 = .ok (.aload_n 0, 1) := by decide +kernel
theorem dX8_fitAll_55 : decode cX8_fitAll 55 = .ok (.getfield 64, 3) := by decide +kernel
theorem dX8_fitAll_58 : decode cX8_fitAll 58 = .ok (.iload 4, 2) := by decide +kernel
theorem dX8_fitAll_60 : decode cX8_fitAll 60 = .ok (.aload_n 0, 1) := by decide +kernel
theorem dX8_fitAll_61 : decode cX8_fitAll 61 = .ok (.getfield 165, 3) := by decide +kernel
theorem dX8_fitAll_64 : decode cX8_fitAll 64 = .ok (.lastore, 1) := by decide +kernel
theorem dX8_fitAll_65 : decode cX8_fitAll 65 = .ok (.iload_n 3, 1) := by decide +kernel
theorem dX8_fitAll_66 : decode cX8_fitAll 66 = .ok (.istore 5, 2) := by decide +kernel
theorem dX8_fitAll_68 : decode cX8_fitAll 68 = .ok (.iload 5, 2) := by decide +kernel
theorem dX8_fitAll_70 : decode cX8_fitAll 70 = .ok (.ifCond .le 87, 3) := by decide +kernel
theorem dX8_fitAll_73 : decode cX8_fitAll 73 = .ok (.aload_n 0, 1) := by decide +kernel
theorem dX8_fitAll_74 : decode cX8_fitAll 74 = .ok (.getfield 61, 3) := by decide +kernel
theorem dX8_fitAll_77 : decode cX8_fitAll 77 = .ok (.aload_n 0, 1) := by decide +kernel
theorem dX8_fitAll_78 : decode cX8_fitAll 78 = .ok (.getfield 58, 3) := by decide +kernel
theorem dX8_fitAll_81 : decode cX8_fitAll 81 = .ok (.iload 5, 2) := by decide +kernel
theorem dX8_fitAll_83 : decode cX8_fitAll 83 = .ok (.iconst 1, 1) := by decide +kernel
theorem dX8_fitAll_84 : decode cX8_fitAll 84 = .ok (.isub, 1) := by decide +kernel
theorem dX8_fitAll_85 : decode cX8_fitAll 85 = .ok (.iaload, 1) := by decide +kernel
theorem dX8_fitAll_86 : decode cX8_fitAll 86 = .ok (.laload, 1) := by decide +kernel
theorem dX8_fitAll_87 : decode cX8_fitAll 87 = .ok (.aload_n 0, 1) := by decide +kernel
theorem dX8_fitAll_88 : decode cX8_fitAll 88 = .ok (.getfield 61, 3) := by decide +kernel
theorem dX8_fitAll_91 : decode cX8_fitAll 91 = .ok (.aload_n 0, 1) := by decide +kernel
theorem dX8_fitAll_92 : decode cX8_fitAll 92 = .ok (.getfield 58, 3) := by decide +kernel
theorem dX8_fitAll_95 : decode cX8_fitAll 95 = .ok (.iload 5, 2) := by decide +kernel
theorem dX8_fitAll_97 : decode cX8_fitAll 97 = .ok (.iconst 1, 1) := by decide +kernel
theorem dX8_fitAll_98 : decode cX8_fitAll 98 = .ok (.isub, 1) := by decide +kernel
theorem dX8_fitAll_99 : decode cX8_fitAll 99 = .ok (.iaload, 1) := by decide +kernel
theorem dX8_fitAll_100 : decode cX8_fitAll 100 = .ok (.laload, 1) := by decide +kernel
theorem dX8_fitAll_101 : decode cX8_fitAll 101 = .ok (.lmul, 1) := by decide +kernel
theorem dX8_fitAll_102 : decode cX8_fitAll 102 = .ok (.aload_n 0, 1) := by decide +kernel
theorem dX8_fitAll_103 : decode cX8_fitAll 103 = .ok (.getfield 64, 3) := by decide +kernel
theorem dX8_fitAll_106 : decode cX8_fitAll 106 = .ok (.aload_n 0, 1) := by decide +kernel
theorem dX8_fitAll_107 : decode cX8_fitAll 107 = .ok (.getfield 58, 3) := by decide +kernel
theorem dX8_fitAll_110 : decode cX8_fitAll 110 = .ok (.iload 5, 2) := by decide +kernel
theorem dX8_fitAll_112 : decode cX8_fitAll 112 = .ok (.iconst 1, 1) := by decide +kernel
theorem dX8_fitAll_113 : decode cX8_fitAll 113 = .ok (.isub, 1) := by decide +kernel
theorem dX8_fitAll_114 : decode cX8_fitAll 114 = .ok (.iaload, 1) := by decide +kernel
theorem dX8_fitAll_115 : decode cX8_fitAll 115 = .ok (.laload, 1) := by decide +kernel
theorem dX8_fitAll_116 : decode cX8_fitAll 116 = .ok (.aload_n 0, 1) := by decide +kernel
theorem dX8_fitAll_117 : decode cX8_fitAll 117 = .ok (.getfield 162, 3) := by decide +kernel
theorem dX8_fitAll_120 : decode cX8_fitAll 120 = .ok (.aload_n 0, 1) := by decide +kernel
theorem dX8_fitAll_121 : decode cX8_fitAll 121 = .ok (.getfield 162, 3) := by decide +kernel
theorem dX8_fitAll_124 : decode cX8_fitAll 124 = .ok (.lmul, 1) := by decide +kernel
theorem dX8_fitAll_125 : decode cX8_fitAll 125 = .ok (.aload_n 0, 1) := by decide +kernel
theorem dX8_fitAll_126 : decode cX8_fitAll 126 = .ok (.getfield 165, 3) := by decide +kernel
theorem dX8_fitAll_129 : decode cX8_fitAll 129 = .ok (.invokestatic 171, 3) := by decide +kernel
theorem dX8_fitAll_132 : decode cX8_fitAll 132 = .ok (.ifCond .eq 25, 3) := by decide +kernel
theorem dX8_fitAll_135 : decode cX8_fitAll 135 = .ok (.aload_n 0, 1) := by decide +kernel
theorem dX8_fitAll_136 : decode cX8_fitAll 136 = .ok (.getfield 58, 3) := by decide +kernel
theorem dX8_fitAll_139 : decode cX8_fitAll 139 = .ok (.iload 5, 2) := by decide +kernel
theorem dX8_fitAll_141 : decode cX8_fitAll 141 = .ok (.aload_n 0, 1) := by decide +kernel
theorem dX8_fitAll_142 : decode cX8_fitAll 142 = .ok (.getfield 58, 3) := by decide +kernel
theorem dX8_fitAll_145 : decode cX8_fitAll 145 = .ok (.iload 5, 2) := by decide +kernel
theorem dX8_fitAll_147 : decode cX8_fitAll 147 = .ok (.iconst 1, 1) := by decide +kernel
theorem dX8_fitAll_148 : decode cX8_fitAll 148 = .ok (.isub, 1) := by decide +kernel
theorem dX8_fitAll_149 : decode cX8_fitAll 149 = .ok (.iaload, 1) := by decide +kernel
theorem dX8_fitAll_150 : decode cX8_fitAll 150 = .ok (.iastore, 1) := by decide +kernel
theorem dX8_fitAll_151 : decode cX8_fitAll 151 = .ok (.iinc 5 (-1), 3) := by decide +kernel
theorem dX8_fitAll_154 : decode cX8_fitAll 154 = .ok (.goto (-86), 3) := by decide +kernel
theorem dX8_fitAll_157 : decode cX8_fitAll 157 = .ok (.aload_n 0, 1) := by decide +kernel
theorem dX8_fitAll_158 : decode cX8_fitAll 158 = .ok (.getfield 58, 3) := by decide +kernel
theorem dX8_fitAll_161 : decode cX8_fitAll 161 = .ok (.iload 5, 2) := by decide +kernel
theorem dX8_fitAll_163 : decode cX8_fitAll 163 = .ok (.iload 4, 2) := by decide +kernel
theorem dX8_fitAll_165 : decode cX8_fitAll 165 = .ok (.iastore, 1) := by decide +kernel
theorem dX8_fitAll_166 : decode cX8_fitAll 166 = .ok (.iinc 3 1, 3) := by decide +kernel
theorem dX8_fitAll_169 : decode cX8_fitAll 169 = .ok (.iinc 4 1, 3) := by decide +kernel
theorem dX8_fitAll_172 : decode cX8_fitAll 172 = .ok (.goto (-161), 3) := by decide +kernel
theorem dX8_fitAll_175 : decode cX8_fitAll 175 = .ok (.iload_n 3, 1) := by decide +kernel
theorem dX8_fitAll_176 : decode cX8_fitAll 176 = .ok (.ireturn, 1) := by decide +kernel
theorem dX8_fit_0 : decode cX8_fit 0 = .ok (.aload_n 0, 1) := by decide +kernel
theorem dX8_fit_1 : decode cX8_fit 1 = .ok (.iconst 0, 1) := by decide +kernel
theorem dX8_fit_2 : decode cX8_fit 2 = .ok (.putfield 91, 3) := by decide +kernel
theorem dX8_fit_5 : decode cX8_fit 5 = .ok (.aload_n 0, 1) := by decide +kernel
theorem dX8_fit_6 : decode cX8_fit 6 = .ok (.iload_n 1, 1) := by decide +kernel
theorem dX8_fit_7 : decode cX8_fit 7 = .ok (.invokevirtual 112, 3) := by decide +kernel
theorem dX8_fit_10 : decode cX8_fit 10 = .ok (.ifCond .eq 11, 3) := by decide +kernel
theorem dX8_fit_13 : decode cX8_fit 13 = .ok (.iload_n 3, 1) := by decide +kernel
theorem dX8_fit_14 : decode cX8_fit 14 = .ok (.ifCond .lt 7, 3) := by decide +kernel
theorem dX8_fit_17 : decode cX8_fit 17 = .ok (.iload_n 2, 1) := by decide +kernel
theorem dX8_fit_18 : decode cX8_fit 18 = .ok (.ifCond .ge 5, 3) := by decide +kernel
theorem dX8_fit_21 : decode cX8_fit 21 = .ok (.iconst (-1), 1) := by decide +kernel
theorem dX8_fit_22 : decode cX8_fit 22 = .ok (.ireturn, 1) := by decide +kernel
theorem dX8_fit_23 : decode cX8_fit 23 = .ok (.aload_n 0, 1) := by decide +kernel
theorem dX8_fit_24 : decode cX8_fit 24 = .ok (.iload_n 3, 1) := by decide +kernel
theorem dX8_fit_25 : decode cX8_fit 25 = .ok (.invokevirtual 134, 3) := by decide +kernel
theorem dX8_fit_28 : decode cX8_fit 28 = .ok (.iload_n 2, 1) := by decide +kernel
theorem dX8_fit_29 : decode cX8_fit 29 = .ok (.aload_n 0, 1) := by decide +kernel
theorem dX8_fit_30 : decode cX8_fit 30 = .ok (.iload_n 1, 1) := by decide +kernel
theorem dX8_fit_31 : decode cX8_fit 31 = .ok (.invokevirtual 175, 3) := by decide +kernel
theorem dX8_fit_34 : decode cX8_fit 34 = .ok (.if_icmp .ge 12, 3) := by decide +kernel
theorem dX8_fit_37 : decode cX8_fit 37 = .ok (.aload_n 0, 1) := by decide +kernel
theorem dX8_fit_38 : decode cX8_fit 38 = .ok (.getfield 58, 3) := by decide +kernel
theorem dX8_fit_41 : decode cX8_fit 41 = .ok (.iload_n 2, 1) := by decide +kernel
theorem dX8_fit_42 : decode cX8_fit 42 = .ok (.iaload, 1) := by decide +kernel
theorem dX8_fit_43 : decode cX8_fit 43 = .ok (.goto 4, 3) := by decide +kernel
theorem dX8_fit_46 : decode cX8_fit 46 = .ok (.iconst (-1), 1) := by decide +kernel
theorem dX8_fit_47 : decode cX8_fit 47 = .ok (.ireturn, 1) := by decide +kernel
theorem dX8_common_0 : decode cX8_common 0 = .ok (.lload_n 0, 1) := by decide +kernel
theorem dX8_common_1 : decode cX8_common 1 = .ok (.lconst 0, 1) := by decide +kernel
theorem dX8_common_2 : decode cX8_common 2 = .ok (.lcmp, 1) := by decide +kernel
theorem dX8_common_3 : decode cX8_common 3 = .ok (.ifCond .ge 8, 3) := by decide +kernel
theorem dX8_common_6 : decode cX8_common 6 = .ok (.lload_n 0, 1) := by decide +kernel
theorem dX8_common_7 : decode cX8_common 7 = .ok (.lneg, 1) := by decide +kernel
theorem dX8_common_8 : decode cX8_common 8 = .ok (.goto 4, 3) := by decide +kernel
theorem dX8_common_11 : decode cX8_common 11 = .ok (.lload_n 0, 1) := by decide +kernel
theorem dX8_common_12 : decode cX8_common 12 = .ok (.lstore 4, 2) := by decide +kernel
theorem dX8_common_14 : decode cX8_common 14 = .ok (.lload_n 2, 1) := by decide +kernel
theorem dX8_common_15 : decode cX8_common 15 = .ok (.lconst 0, 1) := by decide +kernel
theorem dX8_common_16 : decode cX8_common 16 = .ok (.lcmp, 1) := by decide +kernel
theorem dX8_common_17 : decode cX8_common 17 = .ok (.ifCond .ge 8, 3) := by decide +kernel
theorem dX8_common_20 : decode cX8_common 20 = .ok (.lload_n 2, 1) := by decide +kernel
theorem dX8_common_21 : decode cX8_common 21 = .ok (.lneg, 1) := by decide +kernel
theorem dX8_common_22 : decode cX8_common 22 = .ok (.goto 4, 3) := by decide +kernel
theorem dX8_common_25 : decode cX8_common 25 = .ok (.lload_n 2, 1) := by decide +kernel
theorem dX8_common_26 : decode cX8_common 26 = .ok (.lstore 6, 2) := by decide +kernel
theorem dX8_common_28 : decode cX8_common 28 = .ok (.lload 6, 2) := by decide +kernel
theorem dX8_common_30 : decode cX8_common 30 = .ok (.lconst 0, 1) := by decide +kernel
theorem dX8_common_31 : decode cX8_common 31 = .ok (.lcmp, 1) := by decide +kernel
theorem dX8_common_32 : decode cX8_common 32 = .ok (.ifCond .eq 21, 3) := by decide +kernel
theorem dX8_common_35 : decode cX8_common 35 = .ok (.lload 4, 2) := by decide +kernel
theorem dX8_common_37 : decode cX8_common 37 = .ok (.lload 6, 2) := by decide +kernel
theorem dX8_common_39 : decode cX8_common 39 = .ok (.lrem, 1) := by decide +kernel
theorem dX8_common_40 : decode cX8_common 40 = .ok (.lstore 8, 2) := by decide +kernel
theorem dX8_common_42 : decode cX8_common 42 = .ok (.lload 6, 2) := by decide +kernel
theorem dX8_common_44 : decode cX8_common 44 = .ok (.lstore 4, 2) := by decide +kernel
theorem dX8_common_46 : decode cX8_common 46 = .ok (.lload 8, 2) := by decide +kernel
theorem dX8_common_48 : decode cX8_common 48 = .ok (.lstore 6, 2) := by decide +kernel
theorem dX8_common_50 : decode cX8_common 50 = .ok (.goto (-22), 3) := by decide +kernel
theorem dX8_common_53 : decode cX8_common 53 = .ok (.lload 4, 2) := by decide +kernel
theorem dX8_common_55 : decode cX8_common 55 = .ok (.lreturn, 1) := by decide +kernel
theorem dX8_set_0 : decode cX8_set 0 = .ok (.lload_n 1, 1) := by decide +kernel
theorem dX8_set_1 : decode cX8_set 1 = .ok (.lload_n 3, 1) := by decide +kernel
theorem dX8_set_2 : decode cX8_set 2 = .ok (.invokestatic 178, 3) := by decide +kernel
theorem dX8_set_5 : decode cX8_set 5 = .ok (.lstore 5, 2) := by decide +kernel
theorem dX8_set_7 : decode cX8_set 7 = .ok (.aload_n 0, 1) := by decide +kernel
theorem dX8_set_8 : decode cX8_set 8 = .ok (.lload_n 3, 1) := by decide +kernel
theorem dX8_set_9 : decode cX8_set 9 = .ok (.lconst 0, 1) := by decide +kernel
theorem dX8_set_10 : decode cX8_set 10 = .ok (.lcmp, 1) := by decide +kernel
theorem dX8_set_11 : decode cX8_set 11 = .ok (.ifCond .ge 11, 3) := by decide +kernel
theorem dX8_set_14 : decode cX8_set 14 = .ok (.lload_n 1, 1) := by decide +kernel
theorem dX8_set_15 : decode cX8_set 15 = .ok (.lneg, 1) := by decide +kernel
theorem dX8_set_16 : decode cX8_set 16 = .ok (.lload 5, 2) := by decide +kernel
theorem dX8_set_18 : decode cX8_set 18 = .ok (.ldiv, 1) := by decide +kernel
theorem dX8_set_19 : decode cX8_set 19 = .ok (.goto 7, 3) := by decide +kernel
theorem dX8_set_22 : decode cX8_set 22 = .ok (.lload_n 1, 1) := by decide +kernel
theorem dX8_set_23 : decode cX8_set 23 = .ok (.lload 5, 2) := by decide +kernel
theorem dX8_set_25 : decode cX8_set 25 = .ok (.ldiv, 1) := by decide +kernel
theorem dX8_set_26 : decode cX8_set 26 = .ok (.putfield 182, 3) := by decide +kernel
theorem dX8_set_29 : decode cX8_set 29 = .ok (.aload_n 0, 1) := by decide +kernel
theorem dX8_set_30 : decode cX8_set 30 = .ok (.lload_n 3, 1) := by decide +kernel
theorem dX8_set_31 : decode cX8_set 31 = .ok (.lconst 0, 1) := by decide +kernel
theorem dX8_set_32 : decode cX8_set 32 = .ok (.lcmp, 1) := by decide +kernel
theorem dX8_set_33 : decode cX8_set 33 = .ok (.ifCond .ge 11, 3) := by decide +kernel
theorem dX8_set_36 : decode cX8_set 36 = .ok (.lload_n 3, 1) := by decide +kernel
theorem dX8_set_37 : decode cX8_set 37 = .ok (.lneg, 1) := by decide +kernel
theorem dX8_set_38 : decode cX8_set 38 = .ok (.lload 5, 2) := by decide +kernel
theorem dX8_set_40 : decode cX8_set 40 = .ok (.ldiv, 1) := by decide +kernel
theorem dX8_set_41 : decode cX8_set 41 = .ok (.goto 7, 3) := by decide +kernel
theorem dX8_set_44 : decode cX8_set 44 = .ok (.lload_n 3, 1) := by decide +kernel
theorem dX8_set_45 : decode cX8_set 45 = .ok (.lload 5, 2) := by decide +kernel
theorem dX8_set_47 : decode cX8_set 47 = .ok (.ldiv, 1) := by decide +kernel
theorem dX8_set_48 : decode cX8_set 48 = .ok (.putfield 185, 3) := by decide +kernel
theorem dX8_set_51 : decode cX8_set 51 = .ok (.return_, 1) := by decide +kernel
theorem dX8_yearOf_0 : decode cX8_yearOf 0 = .ok (.aload_n 0, 1) := by decide +kernel
theorem dX8_yearOf_1 : decode cX8_yearOf 1 = .ok (.getfield 48, 3) := by decide +kernel
theorem dX8_yearOf_4 : decode cX8_yearOf 4 = .ok (.iload_n 1, 1) := by decide +kernel
theorem dX8_yearOf_5 : decode cX8_yearOf 5 = .ok (.baload, 1) := by decide +kernel
theorem dX8_yearOf_6 : decode cX8_yearOf 6 = .ok (.ifCond .eq 45, 3) := by decide +kernel
theorem dX8_yearOf_9 : decode cX8_yearOf 9 = .ok (.lconst 0, 1) := by decide +kernel
theorem dX8_yearOf_10 : decode cX8_yearOf 10 = .ok (.lstore_n 2, 1) := by decide +kernel
theorem dX8_yearOf_11 : decode cX8_yearOf 11 = .ok (.iconst 0, 1) := by decide +kernel
theorem dX8_yearOf_12 : decode cX8_yearOf 12 = .ok (.istore 4, 2) := by decide +kernel
theorem dX8_yearOf_14 : decode cX8_yearOf 14 = .ok (.iload 4, 2) := by decide +kernel
theorem dX8_yearOf_16 : decode cX8_yearOf 16 = .ok (.bipush 84, 2) := by decide +kernel
theorem dX8_yearOf_18 : decode cX8_yearOf 18 = .ok (.if_icmp .ge 25, 3) := by decide +kernel
theorem dX8_yearOf_21 : decode cX8_yearOf 21 = .ok (.lload_n 2, 1) := by decide +kernel
theorem dX8_yearOf_22 : decode cX8_yearOf 22 = .ok (.aload_n 0, 1) := by decide +kernel
theorem dX8_yearOf_23 : decode cX8_yearOf 23 = .ok (.getfield 45, 3) := by decide +kernel
theorem dX8_yearOf_26 : decode cX8_yearOf 26 = .ok (.bipush 84, 2) := by decide +kernel
theorem dX8_yearOf_28 : decode cX8_yearOf 28 = .ok (.iload_n 1, 1) := by decide +kernel
theorem dX8_yearOf_29 : decode cX8_yearOf 29 = .ok (.imul, 1) := by decide +kernel
theorem dX8_yearOf_30 : decode cX8_yearOf 30 = .ok (.iload 4, 2) := by decide +kernel
theorem dX8_yearOf_32 : decode cX8_yearOf 32 = .ok (.iadd, 1) := by decide +kernel
theorem dX8_yearOf_33 : decode cX8_yearOf 33 = .ok (.iaload, 1) := by decide +kernel
theorem dX8_yearOf_34 : decode cX8_yearOf 34 = .ok (.i2l, 1) := by decide +kernel
theorem dX8_yearOf_35 : decode cX8_yearOf 35 = .ok (.ladd, 1) := by decide +kernel
theorem dX8_yearOf_36 : decode cX8_yearOf 36 = .ok (.lstore_n 2, 1) := by decide +kernel
theorem dX8_yearOf_37 : decode cX8_yearOf 37 = .ok (.iinc 4 1, 3) := by decide +kernel
theorem dX8_yearOf_40 : decode cX8_yearOf 40 = .ok (.goto (-26), 3) := by decide +kernel
theorem dX8_yearOf_43 : decode cX8_yearOf 43 = .ok (.aload_n 0, 1) := by decide +kernel
theorem dX8_yearOf_44 : decode cX8_yearOf 44 = .ok (.lload_n 2, 1) := by decide +kernel
theorem dX8_yearOf_45 : decode cX8_yearOf 45 = .ok (.lconst 1, 1) := by decide +kernel
theorem dX8_yearOf_46 : decode cX8_yearOf 46 = .ok (.invokevirtual 188, 3) := by decide +kernel
theorem dX8_yearOf_49 : decode cX8_yearOf 49 = .ok (.iconst 1, 1) := by decide +kernel
theorem dX8_yearOf_50 : decode cX8_yearOf 50 = .ok (.ireturn, 1) := by decide +kernel
theorem dX8_yearOf_51 : decode cX8_yearOf 51 = .ok (.aload_n 0, 1) := by decide +kernel
theorem dX8_yearOf_52 : decode cX8_yearOf 52 = .ok (.iload_n 1, 1) := by decide +kernel
theorem dX8_yearOf_53 : decode cX8_yearOf 53 = .ok (.invokevirtual 175, 3) := by decide +kernel
theorem dX8_yearOf_56 : decode cX8_yearOf 56 = .ok (.ifCond .ne 5, 3) := by decide +kernel
theorem dX8_yearOf_59 : decode cX8_yearOf 59 = .ok (.iconst 0, 1) := by decide +kernel
theorem dX8_yearOf_60 : decode cX8_yearOf 60 = .ok (.ireturn, 1) := by decide +kernel
theorem dX8_yearOf_61 : decode cX8_yearOf 61 = .ok (.aload_n 0, 1) := by decide +kernel
theorem dX8_yearOf_62 : decode cX8_yearOf 62 = .ok (.aload_n 0, 1) := by decide +kernel
theorem dX8_yearOf_63 : decode cX8_yearOf 63 = .ok (.getfield 58, 3) := by decide +kernel
theorem dX8_yearOf_66 : decode cX8_yearOf 66 = .ok (.iconst 0, 1) := by decide +kernel
theorem dX8_yearOf_67 : decode cX8_yearOf 67 = .ok (.iaload, 1) := by decide +kernel
theorem dX8_yearOf_68 : decode cX8_yearOf 68 = .ok (.iconst (-1), 1) := by decide +kernel
theorem dX8_yearOf_69 : decode cX8_yearOf 69 = .ok (.invokevirtual 147, 3) := by decide +kernel
theorem dX8_yearOf_72 : decode cX8_yearOf 72 = .ok (.pop, 1) := by decide +kernel
theorem dX8_yearOf_73 : decode cX8_yearOf 73 = .ok (.aload_n 0, 1) := by decide +kernel
theorem dX8_yearOf_74 : decode cX8_yearOf 74 = .ok (.getfield 61, 3) := by decide +kernel
theorem dX8_yearOf_77 : decode cX8_yearOf 77 = .ok (.aload_n 0, 1) := by decide +kernel
theorem dX8_yearOf_78 : decode cX8_yearOf 78 = .ok (.getfield 58, 3) := by decide +kernel
theorem dX8_yearOf_81 : decode cX8_yearOf 81 = .ok (.iconst 0, 1) := by decide +kernel
theorem dX8_yearOf_82 : decode cX8_yearOf 82 = .ok (.iaload, 1) := by decide +kernel
theorem dX8_yearOf_83 : decode cX8_yearOf 83 = .ok (.laload, 1) := by decide +kernel
theorem dX8_yearOf_84 : decode cX8_yearOf 84 = .ok (.aload_n 0, 1) := by decide +kernel
theorem dX8_yearOf_85 : decode cX8_yearOf 85 = .ok (.getfield 64, 3) := by decide +kernel
theorem dX8_yearOf_88 : decode cX8_yearOf 88 = .ok (.aload_n 0, 1) := by decide +kernel
theorem dX8_yearOf_89 : decode cX8_yearOf 89 = .ok (.getfield 58, 3) := by decide +kernel
theorem dX8_yearOf_92 : decode cX8_yearOf 92 = .ok (.iconst 0, 1) := by decide +kernel
theorem dX8_yearOf_93 : decode cX8_yearOf 93 = .ok (.iaload, 1) := by decide +kernel
theorem dX8_yearOf_94 : decode cX8_yearOf 94 = .ok (.laload, 1) := by decide +kernel
theorem dX8_yearOf_95 : decode cX8_yearOf 95 = .ok (.invokestatic 178, 3) := by decide +kernel
theorem dX8_yearOf_98 : decode cX8_yearOf 98 = .ok (.lstore_n 2, 1) := by decide +kernel
theorem dX8_yearOf_99 : decode cX8_yearOf 99 = .ok (.aload_n 0, 1) := by decide +kernel
theorem dX8_yearOf_100 : decode cX8_yearOf 100 = .ok (.aload_n 0, 1) := by decide +kernel
theorem dX8_yearOf_101 : decode cX8_yearOf 101 = .ok (.getfield 61, 3) := by decide +kernel
theorem dX8_yearOf_104 : decode cX8_yearOf 104 = .ok (.aload_n 0, 1) := by decide +kernel
theorem dX8_yearOf_105 : decode cX8_yearOf 105 = .ok (.getfield 58, 3) := by decide +kernel
theorem dX8_yearOf_108 : decode cX8_yearOf 108 = .ok (.iconst 0, 1) := by decide +kernel
theorem dX8_yearOf_109 : decode cX8_yearOf 109 = .ok (.iaload, 1) := by decide +kernel
theorem dX8_yearOf_110 : decode cX8_yearOf 110 = .ok (.laload, 1) := by decide +kernel
theorem dX8_yearOf_111 : decode cX8_yearOf 111 = .ok (.lload_n 2, 1) := by decide +kernel
theorem dX8_yearOf_112 : decode cX8_yearOf 112 = .ok (.ldiv, 1) := by decide +kernel
theorem dX8_yearOf_113 : decode cX8_yearOf 113 = .ok (.aload_n 0, 1) := by decide +kernel
theorem dX8_yearOf_114 : decode cX8_yearOf 114 = .ok (.getfield 137, 3) := by decide +kernel
theorem dX8_yearOf_117 : decode cX8_yearOf 117 = .ok (.lmul, 1) := by decide +kernel
theorem dX8_yearOf_118 : decode cX8_yearOf 118 = .ok (.aload_n 0, 1) := by decide +kernel
theorem dX8_yearOf_119 : decode cX8_yearOf 119 = .ok (.getfield 137, 3) := by decide +kernel
theorem dX8_yearOf_122 : decode cX8_yearOf 122 = .ok (.lmul, 1) := by decide +kernel
theorem dX8_yearOf_123 : decode cX8_yearOf 123 = .ok (.aload_n 0, 1) := by decide +kernel
theorem dX8_yearOf_124 : decode cX8_yearOf 124 = .ok (.getfield 64, 3) := by decide +kernel
theorem dX8_yearOf_127 : decode cX8_yearOf 127 = .ok (.aload_n 0, 1) := by decide +kernel
theorem dX8_yearOf_128 : decode cX8_yearOf 128 = .ok (.getfield 58, 3) := by decide +kernel
theorem dX8_yearOf_131 : decode cX8_yearOf 131 = .ok (.iconst 0, 1) := by decide +kernel
theorem dX8_yearOf_132 : decode cX8_yearOf 132 = .ok (.iaload, 1) := by decide +kernel
theorem dX8_yearOf_133 : decode cX8_yearOf 133 = .ok (.laload, 1) := by decide +kernel
theorem dX8_yearOf_134 : decode cX8_yearOf 134 = .ok (.lload_n 2, 1) := by decide +kernel
theorem dX8_yearOf_135 : decode cX8_yearOf 135 = .ok (.ldiv, 1) := by decide +kernel
theorem dX8_yearOf_136 : decode cX8_yearOf 136 = .ok (.invokevirtual 188, 3) := by decide +kernel
theorem dX8_yearOf_139 : decode cX8_yearOf 139 = .ok (.iconst 1, 1) := by decide +kernel
theorem dX8_yearOf_140 : decode cX8_yearOf 140 = .ok (.ireturn, 1) := by decide +kernel
theorem dX8_begins_0 : decode cX8_begins 0 = .ok (.aload_n 0, 1) := by decide +kernel
theorem dX8_begins_1 : decode cX8_begins 1 = .ok (.iload_n 1, 1) := by decide +kernel
theorem dX8_begins_2 : decode cX8_begins 2 = .ok (.invokevirtual 112, 3) := by decide +kernel
theorem dX8_begins_5 : decode cX8_begins 5 = .ok (.ifCond .eq 7, 3) := by decide +kernel
theorem dX8_begins_8 : decode cX8_begins 8 = .ok (.iload_n 2, 1) := by decide +kernel
theorem dX8_begins_9 : decode cX8_begins 9 = .ok (.ifCond .ge 5, 3) := by decide +kernel
theorem dX8_begins_12 : decode cX8_begins 12 = .ok (.iconst 0, 1) := by decide +kernel
theorem dX8_begins_13 : decode cX8_begins 13 = .ok (.ireturn, 1) := by decide +kernel
theorem dX8_begins_14 : decode cX8_begins 14 = .ok (.aload_n 0, 1) := by decide +kernel
theorem dX8_begins_15 : decode cX8_begins 15 = .ok (.iload_n 2, 1) := by decide +kernel
theorem dX8_begins_16 : decode cX8_begins 16 = .ok (.invokevirtual 134, 3) := by decide +kernel
theorem dX8_begins_19 : decode cX8_begins 19 = .ok (.iconst 1, 1) := by decide +kernel
theorem dX8_begins_20 : decode cX8_begins 20 = .ok (.ireturn, 1) := by decide +kernel
theorem dX8_isWhat_0 : decode cX8_isWhat 0 = .ok (.iload_n 0, 1) := by decide +kernel
theorem dX8_isWhat_1 : decode cX8_isWhat 1 = .ok (.ifCond .eq 8, 3) := by decide +kernel
theorem dX8_isWhat_4 : decode cX8_isWhat 4 = .ok (.iload_n 0, 1) := by decide +kernel
theorem dX8_isWhat_5 : decode cX8_isWhat 5 = .ok (.iconst 1, 1) := by decide +kernel
theorem dX8_isWhat_6 : decode cX8_isWhat 6 = .ok (.if_icmp .ne 7, 3) := by decide +kernel
theorem dX8_isWhat_9 : decode cX8_isWhat 9 = .ok (.iconst 1, 1) := by decide +kernel
theorem dX8_isWhat_10 : decode cX8_isWhat 10 = .ok (.goto 4, 3) := by decide +kernel
theorem dX8_isWhat_13 : decode cX8_isWhat 13 = .ok (.iconst 0, 1) := by decide +kernel
theorem dX8_isWhat_14 : decode cX8_isWhat 14 = .ok (.ireturn, 1) := by decide +kernel
theorem dX8_year_0 : decode cX8_year 0 = .ok (.aload_n 0, 1) := by decide +kernel
theorem dX8_year_1 : decode cX8_year 1 = .ok (.iload_n 3, 1) := by decide +kernel
theorem dX8_year_2 : decode cX8_year 2 = .ok (.invokestatic 192, 3) := by decide +kernel
theorem dX8_year_5 : decode cX8_year 5 = .ok (.ifCond .eq 20, 3) := by decide +kernel
theorem dX8_year_8 : decode cX8_year 8 = .ok (.aload_n 0, 1) := by decide +kernel
theorem dX8_year_9 : decode cX8_year 9 = .ok (.iload_n 1, 1) := by decide +kernel
theorem dX8_year_10 : decode cX8_year 10 = .ok (.iload_n 2, 1) := by decide +kernel
theorem dX8_year_11 : decode cX8_year 11 = .ok (.invokevirtual 195, 3) := by decide +kernel
theorem dX8_year_14 : decode cX8_year 14 = .ok (.ifCond .eq 11, 3) := by decide +kernel
theorem dX8_year_17 : decode cX8_year 17 = .ok (.aload_n 0, 1) := by decide +kernel
theorem dX8_year_18 : decode cX8_year 18 = .ok (.iload_n 1, 1) := by decide +kernel
theorem dX8_year_19 : decode cX8_year 19 = .ok (.invokevirtual 198, 3) := by decide +kernel
theorem dX8_year_22 : decode cX8_year 22 = .ok (.ifCond .ne 7, 3) := by decide +kernel
theorem dX8_year_25 : decode cX8_year 25 = .ok (.iconst 1, 1) := by decide +kernel
theorem dX8_year_26 : decode cX8_year 26 = .ok (.goto 4, 3) := by decide +kernel
theorem dX8_year_29 : decode cX8_year 29 = .ok (.iconst 0, 1) := by decide +kernel
theorem dX8_year_30 : decode cX8_year 30 = .ok (.invokevirtual 151, 3) := by decide +kernel
theorem dX8_year_33 : decode cX8_year 33 = .ok (.ifCond .eq 5, 3) := by decide +kernel
theorem dX8_year_36 : decode cX8_year 36 = .ok (.lconst 0, 1) := by decide +kernel
theorem dX8_year_37 : decode cX8_year 37 = .ok (.lreturn, 1) := by decide +kernel
theorem dX8_year_38 : decode cX8_year 38 = .ok (.iload_n 3, 1) := by decide +kernel
theorem dX8_year_39 : decode cX8_year 39 = .ok (.ifCond .ne 10, 3) := by decide +kernel
theorem dX8_year_42 : decode cX8_year 42 = .ok (.aload_n 0, 1) := by decide +kernel
theorem dX8_year_43 : decode cX8_year 43 = .ok (.getfield 182, 3) := by decide +kernel
theorem dX8_year_46 : decode cX8_year 46 = .ok (.goto 7, 3) := by decide +kernel
theorem dX8_year_49 : decode cX8_year 49 = .ok (.aload_n 0, 1) := by decide +kernel
theorem dX8_year_50 : decode cX8_year 50 = .ok (.getfield 185, 3) := by decide +kernel
theorem dX8_year_53 : decode cX8_year 53 = .ok (.lreturn, 1) := by decide +kernel
theorem dX8_trial_0 : decode cX8_trial 0 = .ok (.aload_n 0, 1) := by decide +kernel
theorem dX8_trial_1 : decode cX8_trial 1 = .ok (.iload_n 3, 1) := by decide +kernel
theorem dX8_trial_2 : decode cX8_trial 2 = .ok (.invokestatic 192, 3) := by decide +kernel
theorem dX8_trial_5 : decode cX8_trial 5 = .ok (.ifCond .eq 45, 3) := by decide +kernel
theorem dX8_trial_8 : decode cX8_trial 8 = .ok (.aload_n 0, 1) := by decide +kernel
theorem dX8_trial_9 : decode cX8_trial 9 = .ok (.iload_n 1, 1) := by decide +kernel
theorem dX8_trial_10 : decode cX8_trial 10 = .ok (.iload_n 2, 1) := by decide +kernel
theorem dX8_trial_11 : decode cX8_trial 11 = .ok (.invokevirtual 195, 3) := by decide +kernel
theorem dX8_trial_14 : decode cX8_trial 14 = .ok (.ifCond .eq 36, 3) := by decide +kernel
theorem dX8_trial_17 : decode cX8_trial 17 = .ok (.aload_n 0, 1) := by decide +kernel
theorem dX8_trial_18 : decode cX8_trial 18 = .ok (.getfield 48, 3) := by decide +kernel
theorem dX8_trial_21 : decode cX8_trial 21 = .ok (.iload_n 1, 1) := by decide +kernel
theorem dX8_trial_22 : decode cX8_trial 22 = .ok (.baload, 1) := by decide +kernel
theorem dX8_trial_23 : decode cX8_trial 23 = .ok (.ifCond .eq 27, 3) := by decide +kernel
theorem dX8_trial_26 : decode cX8_trial 26 = .ok (.aload_n 0, 1) := by decide +kernel
theorem dX8_trial_27 : decode cX8_trial 27 = .ok (.aload_n 0, 1) := by decide +kernel
theorem dX8_trial_28 : decode cX8_trial 28 = .ok (.getfield 27, 3) := by decide +kernel
theorem dX8_trial_31 : decode cX8_trial 31 = .ok (.iload_n 1, 1) := by decide +kernel
theorem dX8_trial_32 : decode cX8_trial 32 = .ok (.iaload, 1) := by decide +kernel
theorem dX8_trial_33 : decode cX8_trial 33 = .ok (.iload_n 1, 1) := by decide +kernel
theorem dX8_trial_34 : decode cX8_trial 34 = .ok (.invokevirtual 147, 3) := by decide +kernel
theorem dX8_trial_37 : decode cX8_trial 37 = .ok (.ifCond .eq 13, 3) := by decide +kernel
theorem dX8_trial_40 : decode cX8_trial 40 = .ok (.aload_n 0, 1) := by decide +kernel
theorem dX8_trial_41 : decode cX8_trial 41 = .ok (.iload_n 1, 1) := by decide +kernel
theorem dX8_trial_42 : decode cX8_trial 42 = .ok (.bipush 7, 2) := by decide +kernel
theorem dX8_trial_44 : decode cX8_trial 44 = .ok (.invokevirtual 168, 3) := by decide +kernel
theorem dX8_trial_47 : decode cX8_trial 47 = .ok (.ifCond .ne 7, 3) := by decide +kernel
theorem dX8_trial_50 : decode cX8_trial 50 = .ok (.iconst 1, 1) := by decide +kernel
theorem dX8_trial_51 : decode cX8_trial 51 = .ok (.goto 4, 3) := by decide +kernel
theorem dX8_trial_54 : decode cX8_trial 54 = .ok (.iconst 0, 1) := by decide +kernel
theorem dX8_trial_55 : decode cX8_trial 55 = .ok (.invokevirtual 151, 3) := by decide +kernel
theorem dX8_trial_58 : decode cX8_trial 58 = .ok (.ifCond .eq 5, 3) := by decide +kernel
theorem dX8_trial_61 : decode cX8_trial 61 = .ok (.lconst 0, 1) := by decide +kernel
theorem dX8_trial_62 : decode cX8_trial 62 = .ok (.lreturn, 1) := by decide +kernel
theorem dX8_trial_63 : decode cX8_trial 63 = .ok (.aload_n 0, 1) := by decide +kernel
theorem dX8_trial_64 : decode cX8_trial 64 = .ok (.getfield 162, 3) := by decide +kernel
theorem dX8_trial_67 : decode cX8_trial 67 = .ok (.aload_n 0, 1) := by decide +kernel
theorem dX8_trial_68 : decode cX8_trial 68 = .ok (.getfield 165, 3) := by decide +kernel
theorem dX8_trial_71 : decode cX8_trial 71 = .ok (.invokestatic 178, 3) := by decide +kernel
theorem dX8_trial_74 : decode cX8_trial 74 = .ok (.lstore 4, 2) := by decide +kernel
theorem dX8_trial_76 : decode cX8_trial 76 = .ok (.aload_n 0, 1) := by decide +kernel
theorem dX8_trial_77 : decode cX8_trial 77 = .ok (.aload_n 0, 1) := by decide +kernel
theorem dX8_trial_78 : decode cX8_trial 78 = .ok (.getfield 162, 3) := by decide +kernel
theorem dX8_trial_81 : decode cX8_trial 81 = .ok (.lload 4, 2) := by decide +kernel
theorem dX8_trial_83 : decode cX8_trial 83 = .ok (.ldiv, 1) := by decide +kernel
theorem dX8_trial_84 : decode cX8_trial 84 = .ok (.aload_n 0, 1) := by decide +kernel
theorem dX8_trial_85 : decode cX8_trial 85 = .ok (.getfield 137, 3) := by decide +kernel
theorem dX8_trial_88 : decode cX8_trial 88 = .ok (.lmul, 1) := by decide +kernel
theorem dX8_trial_89 : decode cX8_trial 89 = .ok (.aload_n 0, 1) := by decide +kernel
theorem dX8_trial_90 : decode cX8_trial 90 = .ok (.getfield 137, 3) := by decide +kernel
theorem dX8_trial_93 : decode cX8_trial 93 = .ok (.lmul, 1) := by decide +kernel
theorem dX8_trial_94 : decode cX8_trial 94 = .ok (.aload_n 0, 1) := by decide +kernel
theorem dX8_trial_95 : decode cX8_trial 95 = .ok (.getfield 165, 3) := by decide +kernel
theorem dX8_trial_98 : decode cX8_trial 98 = .ok (.lload 4, 2) := by decide +kernel
theorem dX8_trial_100 : decode cX8_trial 100 = .ok (.ldiv, 1) := by decide +kernel
theorem dX8_trial_101 : decode cX8_trial 101 = .ok (.invokevirtual 188, 3) := by decide +kernel
theorem dX8_trial_104 : decode cX8_trial 104 = .ok (.iload_n 3, 1) := by decide +kernel
theorem dX8_trial_105 : decode cX8_trial 105 = .ok (.ifCond .ne 10, 3) := by decide +kernel
theorem dX8_trial_108 : decode cX8_trial 108 = .ok (.aload_n 0, 1) := by decide +kernel
theorem dX8_trial_109 : decode cX8_trial 109 = .ok (.getfield 182, 3) := by decide +kernel
theorem dX8_trial_112 : decode cX8_trial 112 = .ok (.goto 7, 3) := by decide +kernel
theorem dX8_trial_115 : decode cX8_trial 115 = .ok (.aload_n 0, 1) := by decide +kernel
theorem dX8_trial_116 : decode cX8_trial 116 = .ok (.getfield 185, 3) := by decide +kernel
theorem dX8_trial_119 : decode cX8_trial 119 = .ok (.lreturn, 1) := by decide +kernel
theorem dX8_flowAll_0 : decode cX8_flowAll 0 = .ok (.aload_n 0, 1) := by decide +kernel
theorem dX8_flowAll_1 : decode cX8_flowAll 1 = .ok (.iload_n 1, 1) := by decide +kernel
theorem dX8_flowAll_2 : decode cX8_flowAll 2 = .ok (.invokevirtual 134, 3) := by decide +kernel
theorem dX8_flowAll_5 : decode cX8_flowAll 5 = .ok (.iconst 0, 1) := by decide +kernel
theorem dX8_flowAll_6 : decode cX8_flowAll 6 = .ok (.istore_n 2, 1) := by decide +kernel
theorem dX8_flowAll_7 : decode cX8_flowAll 7 = .ok (.iload_n 2, 1) := by decide +kernel
theorem dX8_flowAll_8 : decode cX8_flowAll 8 = .ok (.bipush 16, 2) := by decide +kernel
theorem dX8_flowAll_10 : decode cX8_flowAll 10 = .ok (.if_icmp .ge 120, 3) := by decide +kernel
theorem dX8_flowAll_13 : decode cX8_flowAll 13 = .ok (.aload_n 0, 1) := by decide +kernel
theorem dX8_flowAll_14 : decode cX8_flowAll 14 = .ok (.getfield 67, 3) := by decide +kernel
theorem dX8_flowAll_17 : decode cX8_flowAll 17 = .ok (.iload_n 2, 1) := by decide +kernel
theorem dX8_flowAll_18 : decode cX8_flowAll 18 = .ok (.iconst (-1), 1) := by decide +kernel
theorem dX8_flowAll_19 : decode cX8_flowAll 19 = .ok (.iastore, 1) := by decide +kernel
theorem dX8_flowAll_20 : decode cX8_flowAll 20 = .ok (.aload_n 0, 1) := by decide +kernel
theorem dX8_flowAll_21 : decode cX8_flowAll 21 = .ok (.getfield 13, 3) := by decide +kernel
theorem dX8_flowAll_24 : decode cX8_flowAll 24 = .ok (.iload_n 2, 1) := by decide +kernel
theorem dX8_flowAll_25 : decode cX8_flowAll 25 = .ok (.baload, 1) := by decide +kernel
theorem dX8_flowAll_26 : decode cX8_flowAll 26 = .ok (.ifCond .eq 98, 3) := by decide +kernel
theorem dX8_flowAll_29 : decode cX8_flowAll 29 = .ok (.aload_n 0, 1) := by decide +kernel
theorem dX8_flowAll_30 : decode cX8_flowAll 30 = .ok (.iload_n 2, 1) := by decide +kernel
theorem dX8_flowAll_31 : decode cX8_flowAll 31 = .ok (.invokevirtual 198, 3) := by decide +kernel
theorem dX8_flowAll_34 : decode cX8_flowAll 34 = .ok (.ifCond .ne 6, 3) := by decide +kernel
theorem dX8_flowAll_37 : decode cX8_flowAll 37 = .ok (.goto 87, 3) := by decide +kernel
theorem dX8_flowAll_40 : decode cX8_flowAll 40 = .ok (.aload_n 0, 1) := by decide +kernel
theorem dX8_flowAll_41 : decode cX8_flowAll 41 = .ok (.getfield 182, 3) := by decide +kernel
theorem dX8_flowAll_44 : decode cX8_flowAll 44 = .ok (.aload_n 0, 1) := by decide +kernel
theorem dX8_flowAll_45 : decode cX8_flowAll 45 = .ok (.getfield 185, 3) := by decide +kernel
theorem dX8_flowAll_48 : decode cX8_flowAll 48 = .ok (.ldiv, 1) := by decide +kernel
theorem dX8_flowAll_49 : decode cX8_flowAll 49 = .ok (.lstore_n 3, 1) := by decide +kernel
theorem dX8_flowAll_50 : decode cX8_flowAll 50 = .ok (.aload_n 0, 1) := by decide +kernel
theorem dX8_flowAll_51 : decode cX8_flowAll 51 = .ok (.getfield 182, 3) := by decide +kernel
theorem dX8_flowAll_54 : decode cX8_flowAll 54 = .ok (.aload_n 0, 1) := by decide +kernel
theorem dX8_flowAll_55 : decode cX8_flowAll 55 = .ok (.getfield 185, 3) := by decide +kernel
theorem dX8_flowAll_58 : decode cX8_flowAll 58 = .ok (.lrem, 1) := by decide +kernel
theorem dX8_flowAll_59 : decode cX8_flowAll 59 = .ok (.lstore 5, 2) := by decide +kernel
theorem dX8_flowAll_61 : decode cX8_flowAll 61 = .ok (.lload 5, 2) := by decide +kernel
theorem dX8_flowAll_63 : decode cX8_flowAll 63 = .ok (.aload_n 0, 1) := by decide +kernel
theorem dX8_flowAll_64 : decode cX8_flowAll 64 = .ok (.getfield 185, 3) := by decide +kernel
theorem dX8_flowAll_67 : decode cX8_flowAll 67 = .ok (.lload 5, 2) := by decide +kernel
theorem dX8_flowAll_69 : decode cX8_flowAll 69 = .ok (.lsub, 1) := by decide +kernel
theorem dX8_flowAll_70 : decode cX8_flowAll 70 = .ok (.lcmp, 1) := by decide +kernel
theorem dX8_flowAll_71 : decode cX8_flowAll 71 = .ok (.ifCond .lt 7, 3) := by decide +kernel
theorem dX8_flowAll_74 : decode cX8_flowAll 74 = .ok (.lload_n 3, 1) := by decide +kernel
theorem dX8_flowAll_75 : decode cX8_flowAll 75 = .ok (.lconst 1, 1) := by decide +kernel
theorem dX8_flowAll_76 : decode cX8_flowAll 76 = .ok (.ladd, 1) := by decide +kernel
theorem dX8_flowAll_77 : decode cX8_flowAll 77 = .ok (.lstore_n 3, 1) := by decide +kernel
theorem dX8_flowAll_78 : decode cX8_flowAll 78 = .ok (.lload_n 3, 1) := by decide +kernel
theorem dX8_flowAll_79 : decode cX8_flowAll 79 = .ok (.ldc2_w 201, 3) := by decide +kernel
theorem dX8_flowAll_82 : decode cX8_flowAll 82 = .ok (.lcmp, 1) := by decide +kernel
theorem dX8_flowAll_83 : decode cX8_flowAll 83 = .ok (.ifCond .le 6, 3) := by decide +kernel
theorem dX8_flowAll_86 : decode cX8_flowAll 86 = .ok (.goto 38, 3) := by decide +kernel
theorem dX8_flowAll_89 : decode cX8_flowAll 89 = .ok (.aload_n 0, 1) := by decide +kernel
theorem dX8_flowAll_90 : decode cX8_flowAll 90 = .ok (.getfield 67, 3) := by decide +kernel
theorem dX8_flowAll_93 : decode cX8_flowAll 93 = .ok (.iload_n 2, 1) := by decide +kernel
theorem dX8_flowAll_94 : decode cX8_flowAll 94 = .ok (.lload_n 3, 1) := by decide +kernel
theorem dX8_flowAll_95 : decode cX8_flowAll 95 = .ok (.l2i, 1) := by decide +kernel
theorem dX8_flowAll_96 : decode cX8_flowAll 96 = .ok (.iastore, 1) := by decide +kernel
theorem dX8_flowAll_97 : decode cX8_flowAll 97 = .ok (.aload_n 0, 1) := by decide +kernel
theorem dX8_flowAll_98 : decode cX8_flowAll 98 = .ok (.getfield 70, 3) := by decide +kernel
theorem dX8_flowAll_101 : decode cX8_flowAll 101 = .ok (.iload_n 2, 1) := by decide +kernel
theorem dX8_flowAll_102 : decode cX8_flowAll 102 = .ok (.aload_n 0, 1) := by decide +kernel
theorem dX8_flowAll_103 : decode cX8_flowAll 103 = .ok (.getfield 48, 3) := by decide +kernel
theorem dX8_flowAll_106 : decode cX8_flowAll 106 = .ok (.iload_n 2, 1) := by decide +kernel
theorem dX8_flowAll_107 : decode cX8_flowAll 107 = .ok (.baload, 1) := by decide +kernel
theorem dX8_flowAll_108 : decode cX8_flowAll 108 = .ok (.ifCond .eq 7, 3) := by decide +kernel
theorem dX8_flowAll_111 : decode cX8_flowAll 111 = .ok (.iconst 1, 1) := by decide +kernel
theorem dX8_flowAll_112 : decode cX8_flowAll 112 = .ok (.goto 11, 3) := by decide +kernel
theorem dX8_flowAll_115 : decode cX8_flowAll 115 = .ok (.bipush 15, 2) := by decide +kernel
theorem dX8_flowAll_117 : decode cX8_flowAll 117 = .ok (.aload_n 0, 1) := by decide +kernel
theorem dX8_flowAll_118 : decode cX8_flowAll 118 = .ok (.iload_n 2, 1) := by decide +kernel
theorem dX8_flowAll_119 : decode cX8_flowAll 119 = .ok (.invokevirtual 159, 3) := by decide +kernel
theorem dX8_flowAll_122 : decode cX8_flowAll 122 = .ok (.isub, 1) := by decide +kernel
theorem dX8_flowAll_123 : decode cX8_flowAll 123 = .ok (.iastore, 1) := by decide +kernel
theorem dX8_flowAll_124 : decode cX8_flowAll 124 = .ok (.iinc 2 1, 3) := by decide +kernel
theorem dX8_flowAll_127 : decode cX8_flowAll 127 = .ok (.goto (-120), 3) := by decide +kernel
theorem dX8_flowAll_130 : decode cX8_flowAll 130 = .ok (.return_, 1) := by decide +kernel
theorem dX8_flow_0 : decode cX8_flow 0 = .ok (.aload_n 0, 1) := by decide +kernel
theorem dX8_flow_1 : decode cX8_flow 1 = .ok (.iconst 0, 1) := by decide +kernel
theorem dX8_flow_2 : decode cX8_flow 2 = .ok (.putfield 91, 3) := by decide +kernel
theorem dX8_flow_5 : decode cX8_flow 5 = .ok (.aload_n 0, 1) := by decide +kernel
theorem dX8_flow_6 : decode cX8_flow 6 = .ok (.iload_n 1, 1) := by decide +kernel
theorem dX8_flow_7 : decode cX8_flow 7 = .ok (.invokevirtual 112, 3) := by decide +kernel
theorem dX8_flow_10 : decode cX8_flow 10 = .ok (.ifCond .eq 7, 3) := by decide +kernel
theorem dX8_flow_13 : decode cX8_flow 13 = .ok (.iload_n 2, 1) := by decide +kernel
theorem dX8_flow_14 : decode cX8_flow 14 = .ok (.ifCond .ge 5, 3) := by decide +kernel
theorem dX8_flow_17 : decode cX8_flow 17 = .ok (.iconst (-1), 1) := by decide +kernel
theorem dX8_flow_18 : decode cX8_flow 18 = .ok (.ireturn, 1) := by decide +kernel
theorem dX8_flow_19 : decode cX8_flow 19 = .ok (.aload_n 0, 1) := by decide +kernel
theorem dX8_flow_20 : decode cX8_flow 20 = .ok (.iload_n 2, 1) := by decide +kernel
theorem dX8_flow_21 : decode cX8_flow 21 = .ok (.invokevirtual 203, 3) := by decide +kernel
theorem dX8_flow_24 : decode cX8_flow 24 = .ok (.aload_n 0, 1) := by decide +kernel
theorem dX8_flow_25 : decode cX8_flow 25 = .ok (.getfield 67, 3) := by decide +kernel
theorem dX8_flow_28 : decode cX8_flow 28 = .ok (.iload_n 1, 1) := by decide +kernel
theorem dX8_flow_29 : decode cX8_flow 29 = .ok (.iaload, 1) := by decide +kernel
theorem dX8_flow_30 : decode cX8_flow 30 = .ok (.ireturn, 1) := by decide +kernel
theorem dX8_missingAt_0 : decode cX8_missingAt 0 = .ok (.lconst 0, 1) := by decide +kernel
theorem dX8_missingAt_1 : decode cX8_missingAt 1 = .ok (.lstore_n 2, 1) := by decide +kernel
theorem dX8_missingAt_2 : decode cX8_missingAt 2 = .ok (.iconst 0, 1) := by decide +kernel
theorem dX8_missingAt_3 : decode cX8_missingAt 3 = .ok (.istore 4, 2) := by decide +kernel
theorem dX8_missingAt_5 : decode cX8_missingAt 5 = .ok (.iload 4, 2) := by decide +kernel
theorem dX8_missingAt_7 : decode cX8_missingAt 7 = .ok (.bipush 16, 2) := by decide +kernel
theorem dX8_missingAt_9 : decode cX8_missingAt 9 = .ok (.if_icmp .ge 68, 3) := by decide +kernel
theorem dX8_missingAt_12 : decode cX8_missingAt 12 = .ok (.aload_n 0, 1) := by decide +kernel
theorem dX8_missingAt_13 : decode cX8_missingAt 13 = .ok (.getfield 67, 3) := by decide +kernel
theorem dX8_missingAt_16 : decode cX8_missingAt 16 = .ok (.iload 4, 2) := by decide +kernel
theorem dX8_missingAt_18 : decode cX8_missingAt 18 = .ok (.iaload, 1) := by decide +kernel
theorem dX8_missingAt_19 : decode cX8_missingAt 19 = .ok (.ifCond .lt 52, 3) := by decide +kernel
theorem dX8_missingAt_22 : decode cX8_missingAt 22 = .ok (.lload_n 2, 1) := by decide +kernel
theorem dX8_missingAt_23 : decode cX8_missingAt 23 = .ok (.aload_n 0, 1) := by decide +kernel
theorem dX8_missingAt_24 : decode cX8_missingAt 24 = .ok (.getfield 24, 3) := by decide +kernel
theorem dX8_missingAt_27 : decode cX8_missingAt 27 = .ok (.iload 4, 2) := by decide +kernel
theorem dX8_missingAt_29 : decode cX8_missingAt 29 = .ok (.iaload, 1) := by decide +kernel
theorem dX8_missingAt_30 : decode cX8_missingAt 30 = .ok (.iload_n 1, 1) := by decide +kernel
theorem dX8_missingAt_31 : decode cX8_missingAt 31 = .ok (.if_icmp .ne 13, 3) := by decide +kernel
theorem dX8_missingAt_34 : decode cX8_missingAt 34 = .ok (.aload_n 0, 1) := by decide +kernel
theorem dX8_missingAt_35 : decode cX8_missingAt 35 = .ok (.getfield 67, 3) := by decide +kernel
theorem dX8_missingAt_38 : decode cX8_missingAt 38 = .ok (.iload 4, 2) := by decide +kernel
theorem dX8_missingAt_40 : decode cX8_missingAt 40 = .ok (.iaload, 1) := by decide +kernel
theorem dX8_missingAt_41 : decode cX8_missingAt 41 = .ok (.goto 4, 3) := by decide +kernel
theorem dX8_missingAt_44 : decode cX8_missingAt 44 = .ok (.iconst 0, 1) := by decide +kernel
theorem dX8_missingAt_45 : decode cX8_missingAt 45 = .ok (.aload_n 0, 1) := by decide +kernel
theorem dX8_missingAt_46 : decode cX8_missingAt 46 = .ok (.getfield 20, 3) := by decide +kernel
theorem dX8_missingAt_49 : decode cX8_missingAt 49 = .ok (.iload 4, 2) := by decide +kernel
theorem dX8_missingAt_51 : decode cX8_missingAt 51 = .ok (.iaload, 1) := by decide +kernel
theorem dX8_missingAt_52 : decode cX8_missingAt 52 = .ok (.iload_n 1, 1) := by decide +kernel
theorem dX8_missingAt_53 : decode cX8_missingAt 53 = .ok (.if_icmp .ne 13, 3) := by decide +kernel
theorem dX8_missingAt_56 : decode cX8_missingAt 56 = .ok (.aload_n 0, 1) := by decide +kernel
theorem dX8_missingAt_57 : decode cX8_missingAt 57 = .ok (.getfield 67, 3) := by decide +kernel
theorem dX8_missingAt_60 : decode cX8_missingAt 60 = .ok (.iload 4, 2) := by decide +kernel
theorem dX8_missingAt_62 : decode cX8_missingAt 62 = .ok (.iaload, 1) := by decide +kernel
theorem dX8_missingAt_63 : decode cX8_missingAt 63 = .ok (.goto 4, 3) := by decide +kernel
theorem dX8_missingAt_66 : decode cX8_missingAt 66 = .ok (.iconst 0, 1) := by decide +kernel
theorem dX8_missingAt_67 : decode cX8_missingAt 67 = .ok (.isub, 1) := by decide +kernel
theorem dX8_missingAt_68 : decode cX8_missingAt 68 = .ok (.i2l, 1) := by decide +kernel
theorem dX8_missingAt_69 : decode cX8_missingAt 69 = .ok (.ladd, 1) := by decide +kernel
theorem dX8_missingAt_70 : decode cX8_missingAt 70 = .ok (.lstore_n 2, 1) := by decide +kernel
theorem dX8_missingAt_71 : decode cX8_missingAt 71 = .ok (.iinc 4 1, 3) := by decide +kernel
theorem dX8_missingAt_74 : decode cX8_missingAt 74 = .ok (.goto (-69), 3) := by decide +kernel
theorem dX8_missingAt_77 : decode cX8_missingAt 77 = .ok (.lload_n 2, 1) := by decide +kernel
theorem dX8_missingAt_78 : decode cX8_missingAt 78 = .ok (.lreturn, 1) := by decide +kernel
theorem dX8_missing_0 : decode cX8_missing 0 = .ok (.aload_n 0, 1) := by decide +kernel
theorem dX8_missing_1 : decode cX8_missing 1 = .ok (.iload_n 1, 1) := by decide +kernel
theorem dX8_missing_2 : decode cX8_missing 2 = .ok (.ifCond .lt 13, 3) := by decide +kernel
theorem dX8_missing_5 : decode cX8_missing 5 = .ok (.iload_n 1, 1) := by decide +kernel
theorem dX8_missing_6 : decode cX8_missing 6 = .ok (.bipush 8, 2) := by decide +kernel
theorem dX8_missing_8 : decode cX8_missing 8 = .ok (.if_icmp .ge 7, 3) := by decide +kernel
theorem dX8_missing_11 : decode cX8_missing 11 = .ok (.iload_n 2, 1) := by decide +kernel
theorem dX8_missing_12 : decode cX8_missing 12 = .ok (.ifCond .ge 7, 3) := by decide +kernel
theorem dX8_missing_15 : decode cX8_missing 15 = .ok (.iconst 1, 1) := by decide +kernel
theorem dX8_missing_16 : decode cX8_missing 16 = .ok (.goto 4, 3) := by decide +kernel
theorem dX8_missing_19 : decode cX8_missing 19 = .ok (.iconst 0, 1) := by decide +kernel
theorem dX8_missing_20 : decode cX8_missing 20 = .ok (.invokevirtual 151, 3) := by decide +kernel
theorem dX8_missing_23 : decode cX8_missing 23 = .ok (.ifCond .eq 5, 3) := by decide +kernel
theorem dX8_missing_26 : decode cX8_missing 26 = .ok (.iconst 0, 1) := by decide +kernel
theorem dX8_missing_27 : decode cX8_missing 27 = .ok (.ireturn, 1) := by decide +kernel
theorem dX8_missing_28 : decode cX8_missing 28 = .ok (.aload_n 0, 1) := by decide +kernel
theorem dX8_missing_29 : decode cX8_missing 29 = .ok (.iload_n 2, 1) := by decide +kernel
theorem dX8_missing_30 : decode cX8_missing 30 = .ok (.invokevirtual 203, 3) := by decide +kernel
theorem dX8_missing_33 : decode cX8_missing 33 = .ok (.aload_n 0, 1) := by decide +kernel
theorem dX8_missing_34 : decode cX8_missing 34 = .ok (.iload_n 1, 1) := by decide +kernel
theorem dX8_missing_35 : decode cX8_missing 35 = .ok (.invokevirtual 206, 3) := by decide +kernel
theorem dX8_missing_38 : decode cX8_missing 38 = .ok (.l2i, 1) := by decide +kernel
theorem dX8_missing_39 : decode cX8_missing 39 = .ok (.ireturn, 1) := by decide +kernel
theorem dX8_choose_0 : decode cX8_choose 0 = .ok (.iconst 0, 1) := by decide +kernel
theorem dX8_choose_1 : decode cX8_choose 1 = .ok (.istore_n 1, 1) := by decide +kernel
theorem dX8_choose_2 : decode cX8_choose 2 = .ok (.iload_n 1, 1) := by decide +kernel
theorem dX8_choose_3 : decode cX8_choose 3 = .ok (.bipush 8, 2) := by decide +kernel
theorem dX8_choose_5 : decode cX8_choose 5 = .ok (.if_icmp .ge 25, 3) := by decide +kernel
theorem dX8_choose_8 : decode cX8_choose 8 = .ok (.aload_n 0, 1) := by decide +kernel
theorem dX8_choose_9 : decode cX8_choose 9 = .ok (.getfield 88, 3) := by decide +kernel
theorem dX8_choose_12 : decode cX8_choose 12 = .ok (.iload_n 1, 1) := by decide +kernel
theorem dX8_choose_13 : decode cX8_choose 13 = .ok (.iload_n 1, 1) := by decide +kernel
theorem dX8_choose_14 : decode cX8_choose 14 = .ok (.iconst 4, 1) := by decide +kernel
theorem dX8_choose_15 : decode cX8_choose 15 = .ok (.if_icmp .lt 7, 3) := by decide +kernel
theorem dX8_choose_18 : decode cX8_choose 18 = .ok (.iconst 1, 1) := by decide +kernel
theorem dX8_choose_19 : decode cX8_choose 19 = .ok (.goto 4, 3) := by decide +kernel
theorem dX8_choose_22 : decode cX8_choose 22 = .ok (.iconst 0, 1) := by decide +kernel
theorem dX8_choose_23 : decode cX8_choose 23 = .ok (.bastore, 1) := by decide +kernel
theorem dX8_choose_24 : decode cX8_choose 24 = .ok (.iinc 1 1, 3) := by decide +kernel
theorem dX8_choose_27 : decode cX8_choose 27 = .ok (.goto (-25), 3) := by decide +kernel
theorem dX8_choose_30 : decode cX8_choose 30 = .ok (.iconst 0, 1) := by decide +kernel
theorem dX8_choose_31 : decode cX8_choose 31 = .ok (.istore_n 1, 1) := by decide +kernel
theorem dX8_choose_32 : decode cX8_choose 32 = .ok (.iconst 0, 1) := by decide +kernel
theorem dX8_choose_33 : decode cX8_choose 33 = .ok (.istore_n 2, 1) := by decide +kernel
theorem dX8_choose_34 : decode cX8_choose 34 = .ok (.iload_n 2, 1) := by decide +kernel
theorem dX8_choose_35 : decode cX8_choose 35 = .ok (.bipush 8, 2) := by decide +kernel
theorem dX8_choose_37 : decode cX8_choose 37 = .ok (.if_icmp .ge 16, 3) := by decide +kernel
theorem dX8_choose_40 : decode cX8_choose 40 = .ok (.aload_n 0, 1) := by decide +kernel
theorem dX8_choose_41 : decode cX8_choose 41 = .ok (.getfield 73, 3) := by decide +kernel
theorem dX8_choose_44 : decode cX8_choose 44 = .ok (.iload_n 2, 1) := by decide +kernel
theorem dX8_choose_45 : decode cX8_choose 45 = .ok (.iconst (-1), 1) := by decide +kernel
theorem dX8_choose_46 : decode cX8_choose 46 = .ok (.iastore, 1) := by decide +kernel
theorem dX8_choose_47 : decode cX8_choose 47 = .ok (.iinc 2 1, 3) := by decide +kernel
theorem dX8_choose_50 : decode cX8_choose 50 = .ok (.goto (-16), 3) := by decide +kernel
theorem dX8_choose_53 : decode cX8_choose 53 = .ok (.iconst 0, 1) := by decide +kernel
theorem dX8_choose_54 : decode cX8_choose 54 = .ok (.istore_n 2, 1) := by decide +kernel
theorem dX8_choose_55 : decode cX8_choose 55 = .ok (.iload_n 2, 1) := by decide +kernel
theorem dX8_choose_56 : decode cX8_choose 56 = .ok (.iconst 4, 1) := by decide +kernel
theorem dX8_choose_57 : decode cX8_choose 57 = .ok (.if_icmp .ge 40, 3) := by decide +kernel
theorem dX8_choose_60 : decode cX8_choose 60 = .ok (.aload_n 0, 1) := by decide +kernel
theorem dX8_choose_61 : decode cX8_choose 61 = .ok (.invokevirtual 209, 3) := by decide +kernel
theorem dX8_choose_64 : decode cX8_choose 64 = .ok (.aload_n 0, 1) := by decide +kernel
theorem dX8_choose_65 : decode cX8_choose 65 = .ok (.getfield 88, 3) := by decide +kernel
theorem dX8_choose_68 : decode cX8_choose 68 = .ok (.iload_n 2, 1) := by decide +kernel
theorem dX8_choose_69 : decode cX8_choose 69 = .ok (.baload, 1) := by decide +kernel
theorem dX8_choose_70 : decode cX8_choose 70 = .ok (.ifCond .eq 6, 3) := by decide +kernel
theorem dX8_choose_73 : decode cX8_choose 73 = .ok (.goto 18, 3) := by decide +kernel
theorem dX8_choose_76 : decode cX8_choose 76 = .ok (.aload_n 0, 1) := by decide +kernel
theorem dX8_choose_77 : decode cX8_choose 77 = .ok (.getfield 88, 3) := by decide +kernel
theorem dX8_choose_80 : decode cX8_choose 80 = .ok (.iload_n 2, 1) := by decide +kernel
theorem dX8_choose_81 : decode cX8_choose 81 = .ok (.iconst 1, 1) := by decide +kernel
theorem dX8_choose_82 : decode cX8_choose 82 = .ok (.bastore, 1) := by decide +kernel
theorem dX8_choose_83 : decode cX8_choose 83 = .ok (.aload_n 0, 1) := by decide +kernel
theorem dX8_choose_84 : decode cX8_choose 84 = .ok (.getfield 73, 3) := by decide +kernel
theorem dX8_choose_87 : decode cX8_choose 87 = .ok (.iload_n 2, 1) := by decide +kernel
theorem dX8_choose_88 : decode cX8_choose 88 = .ok (.bipush (-2), 2) := by decide +kernel
theorem dX8_choose_90 : decode cX8_choose 90 = .ok (.iastore, 1) := by decide +kernel
theorem dX8_choose_91 : decode cX8_choose 91 = .ok (.iinc 2 1, 3) := by decide +kernel
theorem dX8_choose_94 : decode cX8_choose 94 = .ok (.goto (-39), 3) := by decide +kernel
theorem dX8_choose_97 : decode cX8_choose 97 = .ok (.aload_n 0, 1) := by decide +kernel
theorem dX8_choose_98 : decode cX8_choose 98 = .ok (.invokevirtual 209, 3) := by decide +kernel
theorem dX8_choose_101 : decode cX8_choose 101 = .ok (.iconst 0, 1) := by decide +kernel
theorem dX8_choose_102 : decode cX8_choose 102 = .ok (.istore_n 2, 1) := by decide +kernel
theorem dX8_choose_103 : decode cX8_choose 103 = .ok (.iload_n 2, 1) := by decide +kernel
theorem dX8_choose_104 : decode cX8_choose 104 = .ok (.iconst 4, 1) := by decide +kernel
theorem dX8_choose_105 : decode cX8_choose 105 = .ok (.if_icmp .ge 33, 3) := by decide +kernel
theorem dX8_choose_108 : decode cX8_choose 108 = .ok (.aload_n 0, 1) := by decide +kernel
theorem dX8_choose_109 : decode cX8_choose 109 = .ok (.getfield 73, 3) := by decide +kernel
theorem dX8_choose_112 : decode cX8_choose 112 = .ok (.iload_n 2, 1) := by decide +kernel
theorem dX8_choose_113 : decode cX8_choose 113 = .ok (.iaload, 1) := by decide +kernel
theorem dX8_choose_114 : decode cX8_choose 114 = .ok (.bipush (-2), 2) := by decide +kernel
theorem dX8_choose_116 : decode cX8_choose 116 = .ok (.if_icmp .ne 6, 3) := by decide +kernel
theorem dX8_choose_119 : decode cX8_choose 119 = .ok (.goto 13, 3) := by decide +kernel
theorem dX8_choose_122 : decode cX8_choose 122 = .ok (.aload_n 0, 1) := by decide +kernel
theorem dX8_choose_123 : decode cX8_choose 123 = .ok (.getfield 73, 3) := by decide +kernel
theorem dX8_choose_126 : decode cX8_choose 126 = .ok (.iload_n 2, 1) := by decide +kernel
theorem dX8_choose_127 : decode cX8_choose 127 = .ok (.iload_n 1, 1) := by decide +kernel
theorem dX8_choose_128 : decode cX8_choose 128 = .ok (.iastore, 1) := by decide +kernel
theorem dX8_choose_129 : decode cX8_choose 129 = .ok (.iinc 1 1, 3) := by decide +kernel
theorem dX8_choose_132 : decode cX8_choose 132 = .ok (.iinc 2 1, 3) := by decide +kernel
theorem dX8_choose_135 : decode cX8_choose 135 = .ok (.goto (-32), 3) := by decide +kernel
theorem dX8_choose_138 : decode cX8_choose 138 = .ok (.iload_n 1, 1) := by decide +kernel
theorem dX8_choose_139 : decode cX8_choose 139 = .ok (.ireturn, 1) := by decide +kernel
theorem dX8_spread_0 : decode cX8_spread 0 = .ok (.iconst 0, 1) := by decide +kernel
theorem dX8_spread_1 : decode cX8_spread 1 = .ok (.istore_n 1, 1) := by decide +kernel
theorem dX8_spread_2 : decode cX8_spread 2 = .ok (.iload_n 1, 1) := by decide +kernel
theorem dX8_spread_3 : decode cX8_spread 3 = .ok (.bipush 8, 2) := by decide +kernel
theorem dX8_spread_5 : decode cX8_spread 5 = .ok (.if_icmp .ge 93, 3) := by decide +kernel
theorem dX8_spread_8 : decode cX8_spread 8 = .ok (.iconst 0, 1) := by decide +kernel
theorem dX8_spread_9 : decode cX8_spread 9 = .ok (.istore_n 2, 1) := by decide +kernel
theorem dX8_spread_10 : decode cX8_spread 10 = .ok (.iload_n 2, 1) := by decide +kernel
theorem dX8_spread_11 : decode cX8_spread 11 = .ok (.bipush 16, 2) := by decide +kernel
theorem dX8_spread_13 : decode cX8_spread 13 = .ok (.if_icmp .ge 79, 3) := by decide +kernel
theorem dX8_spread_16 : decode cX8_spread 16 = .ok (.aload_n 0, 1) := by decide +kernel
theorem dX8_spread_17 : decode cX8_spread 17 = .ok (.getfield 67, 3) := by decide +kernel
theorem dX8_spread_20 : decode cX8_spread 20 = .ok (.iload_n 2, 1) := by decide +kernel
theorem dX8_spread_21 : decode cX8_spread 21 = .ok (.iaload, 1) := by decide +kernel
theorem dX8_spread_22 : decode cX8_spread 22 = .ok (.ifCond .ge 6, 3) := by decide +kernel
theorem dX8_spread_25 : decode cX8_spread 25 = .ok (.goto 61, 3) := by decide +kernel
theorem dX8_spread_28 : decode cX8_spread 28 = .ok (.aload_n 0, 1) := by decide +kernel
theorem dX8_spread_29 : decode cX8_spread 29 = .ok (.getfield 88, 3) := by decide +kernel
theorem dX8_spread_32 : decode cX8_spread 32 = .ok (.aload_n 0, 1) := by decide +kernel
theorem dX8_spread_33 : decode cX8_spread 33 = .ok (.getfield 20, 3) := by decide +kernel
theorem dX8_spread_36 : decode cX8_spread 36 = .ok (.iload_n 2, 1) := by decide +kernel
theorem dX8_spread_37 : decode cX8_spread 37 = .ok (.iaload, 1) := by decide +kernel
theorem dX8_spread_38 : decode cX8_spread 38 = .ok (.baload, 1) := by decide +kernel
theorem dX8_spread_39 : decode cX8_spread 39 = .ok (.ifCond .ne 17, 3) := by decide +kernel
theorem dX8_spread_42 : decode cX8_spread 42 = .ok (.aload_n 0, 1) := by decide +kernel
theorem dX8_spread_43 : decode cX8_spread 43 = .ok (.getfield 88, 3) := by decide +kernel
theorem dX8_spread_46 : decode cX8_spread 46 = .ok (.aload_n 0, 1) := by decide +kernel
theorem dX8_spread_47 : decode cX8_spread 47 = .ok (.getfield 24, 3) := by decide +kernel
theorem dX8_spread_50 : decode cX8_spread 50 = .ok (.iload_n 2, 1) := by decide +kernel
theorem dX8_spread_51 : decode cX8_spread 51 = .ok (.iaload, 1) := by decide +kernel
theorem dX8_spread_52 : decode cX8_spread 52 = .ok (.baload, 1) := by decide +kernel
theorem dX8_spread_53 : decode cX8_spread 53 = .ok (.ifCond .eq 7, 3) := by decide +kernel
theorem dX8_spread_56 : decode cX8_spread 56 = .ok (.iconst 1, 1) := by decide +kernel
theorem dX8_spread_57 : decode cX8_spread 57 = .ok (.goto 4, 3) := by decide +kernel
theorem dX8_spread_60 : decode cX8_spread 60 = .ok (.iconst 0, 1) := by decide +kernel
theorem dX8_spread_61 : decode cX8_spread 61 = .ok (.istore_n 3, 1) := by decide +kernel
theorem dX8_spread_62 : decode cX8_spread 62 = .ok (.aload_n 0, 1) := by decide +kernel
theorem dX8_spread_63 : decode cX8_spread 63 = .ok (.getfield 88, 3) := by decide +kernel
theorem dX8_spread_66 : decode cX8_spread 66 = .ok (.aload_n 0, 1) := by decide +kernel
theorem dX8_spread_67 : decode cX8_spread 67 = .ok (.getfield 20, 3) := by decide +kernel
theorem dX8_spread_70 : decode cX8_spread 70 = .ok (.iload_n 2, 1) := by decide +kernel
theorem dX8_spread_71 : decode cX8_spread 71 = .ok (.iaload, 1) := by decide +kernel
theorem dX8_spread_72 : decode cX8_spread 72 = .ok (.iload_n 3, 1) := by decide +kernel
theorem dX8_spread_73 : decode cX8_spread 73 = .ok (.bastore, 1) := by decide +kernel
theorem dX8_spread_74 : decode cX8_spread 74 = .ok (.aload_n 0, 1) := by decide +kernel
theorem dX8_spread_75 : decode cX8_spread 75 = .ok (.getfield 88, 3) := by decide +kernel
theorem dX8_spread_78 : decode cX8_spread 78 = .ok (.aload_n 0, 1) := by decide +kernel
theorem dX8_spread_79 : decode cX8_spread 79 = .ok (.getfield 24, 3) := by decide +kernel
theorem dX8_spread_82 : decode cX8_spread 82 = .ok (.iload_n 2, 1) := by decide +kernel
theorem dX8_spread_83 : decode cX8_spread 83 = .ok (.iaload, 1) := by decide +kernel
theorem dX8_spread_84 : decode cX8_spread 84 = .ok (.iload_n 3, 1) := by decide +kernel
theorem dX8_spread_85 : decode cX8_spread 85 = .ok (.bastore, 1) := by decide +kernel
theorem dX8_spread_86 : decode cX8_spread 86 = .ok (.iinc 2 1, 3) := by decide +kernel
theorem dX8_spread_89 : decode cX8_spread 89 = .ok (.goto (-79), 3) := by decide +kernel
theorem dX8_spread_92 : decode cX8_spread 92 = .ok (.iinc 1 1, 3) := by decide +kernel
theorem dX8_spread_95 : decode cX8_spread 95 = .ok (.goto (-93), 3) := by decide +kernel
theorem dX8_spread_98 : decode cX8_spread 98 = .ok (.return_, 1) := by decide +kernel
theorem dX8_determinant_0 : decode cX8_determinant 0 = .ok (.iconst 1, 1) := by decide +kernel
theorem dX8_determinant_1 : decode cX8_determinant 1 = .ok (.istore_n 3, 1) := by decide +kernel
theorem dX8_determinant_2 : decode cX8_determinant 2 = .ok (.iconst 0, 1) := by decide +kernel
theorem dX8_determinant_3 : decode cX8_determinant 3 = .ok (.istore 4, 2) := by decide +kernel
theorem dX8_determinant_5 : decode cX8_determinant 5 = .ok (.iload 4, 2) := by decide +kernel
theorem dX8_determinant_7 : decode cX8_determinant 7 = .ok (.iload_n 1, 1) := by decide +kernel
theorem dX8_determinant_8 : decode cX8_determinant 8 = .ok (.if_icmp .ge 13, 3) := by decide +kernel
theorem dX8_determinant_11 : decode cX8_determinant 11 = .ok (.iload_n 3, 1) := by decide +kernel
theorem dX8_determinant_12 : decode cX8_determinant 12 = .ok (.iload_n 1, 1) := by decide +kernel
theorem dX8_determinant_13 : decode cX8_determinant 13 = .ok (.imul, 1) := by decide +kernel
theorem dX8_determinant_14 : decode cX8_determinant 14 = .ok (.istore_n 3, 1) := by decide +kernel
theorem dX8_determinant_15 : decode cX8_determinant 15 = .ok (.iinc 4 1, 3) := by decide +kernel
theorem dX8_determinant_18 : decode cX8_determinant 18 = .ok (.goto (-13), 3) := by decide +kernel
theorem dX8_determinant_21 : decode cX8_determinant 21 = .ok (.lconst 0, 1) := by decide +kernel
theorem dX8_determinant_22 : decode cX8_determinant 22 = .ok (.lstore 4, 2) := by decide +kernel
theorem dX8_determinant_24 : decode cX8_determinant 24 = .ok (.iconst 0, 1) := by decide +kernel
theorem dX8_determinant_25 : decode cX8_determinant 25 = .ok (.istore 6, 2) := by decide +kernel
theorem dX8_determinant_27 : decode cX8_determinant 27 = .ok (.iload 6, 2) := by decide +kernel
theorem dX8_determinant_29 : decode cX8_determinant 29 = .ok (.iload_n 3, 1) := by decide +kernel
theorem dX8_determinant_30 : decode cX8_determinant 30 = .ok (.if_icmp .ge 184, 3) := by decide +kernel
theorem dX8_determinant_33 : decode cX8_determinant 33 = .ok (.iload 6, 2) := by decide +kernel
theorem dX8_determinant_35 : decode cX8_determinant 35 = .ok (.istore 7, 2) := by decide +kernel
theorem dX8_determinant_37 : decode cX8_determinant 37 = .ok (.lconst 1, 1) := by decide +kernel
theorem dX8_determinant_38 : decode cX8_determinant 38 = .ok (.lstore 8, 2) := by decide +kernel
theorem dX8_determinant_40 : decode cX8_determinant 40 = .ok (.iconst 0, 1) := by decide +kernel
theorem dX8_determinant_41 : decode cX8_determinant 41 = .ok (.istore 10, 2) := by decide +kernel
theorem dX8_determinant_43 : decode cX8_determinant 43 = .ok (.iload 10, 2) := by decide +kernel
theorem dX8_determinant_45 : decode cX8_determinant 45 = .ok (.iload_n 1, 1) := by decide +kernel
theorem dX8_determinant_46 : decode cX8_determinant 46 = .ok (.if_icmp .ge 90, 3) := by decide +kernel
theorem dX8_determinant_49 : decode cX8_determinant 49 = .ok (.aload_n 0, 1) := by decide +kernel
theorem dX8_determinant_50 : decode cX8_determinant 50 = .ok (.getfield 76, 3) := by decide +kernel
theorem dX8_determinant_53 : decode cX8_determinant 53 = .ok (.iload 10, 2) := by decide +kernel
theorem dX8_determinant_55 : decode cX8_determinant 55 = .ok (.iload 7, 2) := by decide +kernel
theorem dX8_determinant_57 : decode cX8_determinant 57 = .ok (.iload_n 1, 1) := by decide +kernel
theorem dX8_determinant_58 : decode cX8_determinant 58 = .ok (.irem, 1) := by decide +kernel
theorem dX8_determinant_59 : decode cX8_determinant 59 = .ok (.iastore, 1) := by decide +kernel
theorem dX8_determinant_60 : decode cX8_determinant 60 = .ok (.iload 7, 2) := by decide +kernel
theorem dX8_determinant_62 : decode cX8_determinant 62 = .ok (.iload_n 1, 1) := by decide +kernel
theorem dX8_determinant_63 : decode cX8_determinant 63 = .ok (.idiv, 1) := by decide +kernel
theorem dX8_determinant_64 : decode cX8_determinant 64 = .ok (.istore 7, 2) := by decide +kernel
theorem dX8_determinant_66 : decode cX8_determinant 66 = .ok (.iconst 0, 1) := by decide +kernel
theorem dX8_determinant_67 : decode cX8_determinant 67 = .ok (.istore 11, 2) := by decide +kernel
theorem dX8_determinant_69 : decode cX8_determinant 69 = .ok (.iload 11, 2) := by decide +kernel
theorem dX8_determinant_71 : decode cX8_determinant 71 = .ok (.iload 10, 2) := by decide +kernel
theorem dX8_determinant_73 : decode cX8_determinant 73 = .ok (.if_icmp .ge 57, 3) := by decide +kernel
theorem dX8_determinant_76 : decode cX8_determinant 76 = .ok (.aload_n 0, 1) := by decide +kernel
theorem dX8_determinant_77 : decode cX8_determinant 77 = .ok (.getfield 76, 3) := by decide +kernel
theorem dX8_determinant_80 : decode cX8_determinant 80 = .ok (.iload 11, 2) := by decide +kernel
theorem dX8_determinant_82 : decode cX8_determinant 82 = .ok (.iaload, 1) := by decide +kernel
theorem dX8_determinant_83 : decode cX8_determinant 83 = .ok (.aload_n 0, 1) := by decide +kernel
theorem dX8_determinant_84 : decode cX8_determinant 84 = .ok (.getfield 76, 3) := by decide +kernel
theorem dX8_determinant_87 : decode cX8_determinant 87 = .ok (.iload 10, 2) := by decide +kernel
theorem dX8_determinant_89 : decode cX8_determinant 89 = .ok (.iaload, 1) := by decide +kernel
theorem dX8_determinant_90 : decode cX8_determinant 90 = .ok (.if_icmp .ne 7, 3) := by decide +kernel
theorem dX8_determinant_93 : decode cX8_determinant 93 = .ok (.lconst 0, 1) := by decide +kernel
theorem dX8_determinant_94 : decode cX8_determinant 94 = .ok (.goto 28, 3) := by decide +kernel
theorem dX8_determinant_97 : decode cX8_determinant 97 = .ok (.aload_n 0, 1) := by decide +kernel
theorem dX8_determinant_98 : decode cX8_determinant 98 = .ok (.getfield 76, 3) := by decide +kernel
theorem dX8_determinant_101 : decode cX8_determinant 101 = .ok (.iload 11, 2) := by decide +kernel
theorem dX8_determinant_103 : decode cX8_determinant 103 = .ok (.iaload, 1) := by decide +kernel
theorem dX8_determinant_104 : decode cX8_determinant 104 = .ok (.aload_n 0, 1) := by decide +kernel
theorem dX8_determinant_105 : decode cX8_determinant 105 = .ok (.getfield 76, 3) := by decide +kernel
theorem dX8_determinant_108 : decode cX8_determinant 108 = .ok (.iload 10, 2) := by decide +kernel
theorem dX8_determinant_110 : decode cX8_determinant 110 = .ok (.iaload, 1) := by decide +kernel
theorem dX8_determinant_111 : decode cX8_determinant 111 = .ok (.if_icmp .le 9, 3) := by decide +kernel
theorem dX8_determinant_114 : decode cX8_determinant 114 = .ok (.lload 8, 2) := by decide +kernel
theorem dX8_determinant_116 : decode cX8_determinant 116 = .ok (.lneg, 1) := by decide +kernel
theorem dX8_determinant_117 : decode cX8_determinant 117 = .ok (.goto 5, 3) := by decide +kernel
theorem dX8_determinant_120 : decode cX8_determinant 120 = .ok (.lload 8, 2) := by decide +kernel
theorem dX8_determinant_122 : decode cX8_determinant 122 = .ok (.lstore 8, 2) := by decide +kernel
theorem dX8_determinant_124 : decode cX8_determinant 124 = .ok (.iinc 11 1, 3) := by decide +kernel
theorem dX8_determinant_127 : decode cX8_determinant 127 = .ok (.goto (-58), 3) := by decide +kernel
theorem dX8_determinant_130 : decode cX8_determinant 130 = .ok (.iinc 10 1, 3) := by decide +kernel
theorem dX8_determinant_133 : decode cX8_determinant 133 = .ok (.goto (-90), 3) := by decide +kernel
theorem dX8_determinant_136 : decode cX8_determinant 136 = .ok (.iconst 0, 1) := by decide +kernel
theorem dX8_determinant_137 : decode cX8_determinant 137 = .ok (.istore 10, 2) := by decide +kernel
theorem dX8_determinant_139 : decode cX8_determinant 139 = .ok (.iload 10, 2) := by decide +kernel
theorem dX8_determinant_141 : decode cX8_determinant 141 = .ok (.iload_n 1, 1) := by decide +kernel
theorem dX8_determinant_142 : decode cX8_determinant 142 = .ok (.if_icmp .ge 59, 3) := by decide +kernel
theorem dX8_determinant_145 : decode cX8_determinant 145 = .ok (.lload 8, 2) := by decide +kernel
theorem dX8_determinant_147 : decode cX8_determinant 147 = .ok (.lconst 0, 1) := by decide +kernel
theorem dX8_determinant_148 : decode cX8_determinant 148 = .ok (.lcmp, 1) := by decide +kernel
theorem dX8_determinant_149 : decode cX8_determinant 149 = .ok (.ifCond .eq 52, 3) := by decide +kernel
theorem dX8_determinant_152 : decode cX8_determinant 152 = .ok (.lload 8, 2) := by decide +kernel
theorem dX8_determinant_154 : decode cX8_determinant 154 = .ok (.aload_n 0, 1) := by decide +kernel
theorem dX8_determinant_155 : decode cX8_determinant 155 = .ok (.getfield 76, 3) := by decide +kernel
theorem dX8_determinant_158 : decode cX8_determinant 158 = .ok (.iload 10, 2) := by decide +kernel
theorem dX8_determinant_160 : decode cX8_determinant 160 = .ok (.iaload, 1) := by decide +kernel
theorem dX8_determinant_161 : decode cX8_determinant 161 = .ok (.iload_n 2, 1) := by decide +kernel
theorem dX8_determinant_162 : decode cX8_determinant 162 = .ok (.if_icmp .ne 13, 3) := by decide +kernel
theorem dX8_determinant_165 : decode cX8_determinant 165 = .ok (.aload_n 0, 1) := by decide +kernel
theorem dX8_determinant_166 : decode cX8_determinant 166 = .ok (.getfield 82, 3) := by decide +kernel
theorem dX8_determinant_169 : decode cX8_determinant 169 = .ok (.iload 10, 2) := by decide +kernel
theorem dX8_determinant_171 : decode cX8_determinant 171 = .ok (.laload, 1) := by decide +kernel
theorem dX8_determinant_172 : decode cX8_determinant 172 = .ok (.goto 20, 3) := by decide +kernel
theorem dX8_determinant_175 : decode cX8_determinant 175 = .ok (.aload_n 0, 1) := by decide +kernel
theorem dX8_determinant_176 : decode cX8_determinant 176 = .ok (.getfield 79, 3) := by decide +kernel
theorem dX8_determinant_179 : decode cX8_determinant 179 = .ok (.iconst 4, 1) := by decide +kernel
theorem dX8_determinant_180 : decode cX8_determinant 180 = .ok (.iload 10, 2) := by decide +kernel
theorem dX8_determinant_182 : decode cX8_determinant 182 = .ok (.imul, 1) := by decide +kernel
theorem dX8_determinant_183 : decode cX8_determinant 183 = .ok (.aload_n 0, 1) := by decide +kernel
theorem dX8_determinant_184 : decode cX8_determinant 184 = .ok (.getfield 76, 3) := by decide +kernel
theorem dX8_determinant_187 : decode cX8_determinant 187 = .ok (.iload 10, 2) := by decide +kernel
theorem dX8_determinant_189 : decode cX8_determinant 189 = .ok (.iaload, 1) := by decide +kernel
theorem dX8_determinant_190 : decode cX8_determinant 190 = .ok (.iadd, 1) := by decide +kernel
theorem dX8_determinant_191 : decode cX8_determinant 191 = .ok (.laload, 1) := by decide +kernel
theorem dX8_determinant_192 : decode cX8_determinant 192 = .ok (.lmul, 1) := by decide +kernel
theorem dX8_determinant_193 : decode cX8_determinant 193 = .ok (.lstore 8, 2) := by decide +kernel
theorem dX8_determinant_195 : decode cX8_determinant 195 = .ok (.iinc 10 1, 3) := by decide +kernel
theorem dX8_determinant_198 : decode cX8_determinant 198 = .ok (.goto (-59), 3) := by decide +kernel
theorem dX8_determinant_201 : decode cX8_determinant 201 = .ok (.lload 4, 2) := by decide +kernel
theorem dX8_determinant_203 : decode cX8_determinant 203 = .ok (.lload 8, 2) := by decide +kernel
theorem dX8_determinant_205 : decode cX8_determinant 205 = .ok (.ladd, 1) := by decide +kernel
theorem dX8_determinant_206 : decode cX8_determinant 206 = .ok (.lstore 4, 2) := by decide +kernel
theorem dX8_determinant_208 : decode cX8_determinant 208 = .ok (.iinc 6 1, 3) := by decide +kernel
theorem dX8_determinant_211 : decode cX8_determinant 211 = .ok (.goto (-184), 3) := by decide +kernel
theorem dX8_determinant_214 : decode cX8_determinant 214 = .ok (.lload 4, 2) := by decide +kernel
theorem dX8_determinant_216 : decode cX8_determinant 216 = .ok (.lreturn, 1) := by decide +kernel
theorem dX8_agreed_0 : decode cX8_agreed 0 = .ok (.aload_n 0, 1) := by decide +kernel
theorem dX8_agreed_1 : decode cX8_agreed 1 = .ok (.iload_n 1, 1) := by decide +kernel
theorem dX8_agreed_2 : decode cX8_agreed 2 = .ok (.invokevirtual 112, 3) := by decide +kernel
theorem dX8_agreed_5 : decode cX8_agreed 5 = .ok (.ifCond .eq 18, 3) := by decide +kernel
theorem dX8_agreed_8 : decode cX8_agreed 8 = .ok (.iload_n 2, 1) := by decide +kernel
theorem dX8_agreed_9 : decode cX8_agreed 9 = .ok (.ifCond .lt 14, 3) := by decide +kernel
theorem dX8_agreed_12 : decode cX8_agreed 12 = .ok (.iload_n 3, 1) := by decide +kernel
theorem dX8_agreed_13 : decode cX8_agreed 13 = .ok (.invokestatic 192, 3) := by decide +kernel
theorem dX8_agreed_16 : decode cX8_agreed 16 = .ok (.ifCond .eq 7, 3) := by decide +kernel
theorem dX8_agreed_19 : decode cX8_agreed 19 = .ok (.iconst 1, 1) := by decide +kernel
theorem dX8_agreed_20 : decode cX8_agreed 20 = .ok (.goto 4, 3) := by decide +kernel
theorem dX8_agreed_23 : decode cX8_agreed 23 = .ok (.iconst 0, 1) := by decide +kernel
theorem dX8_agreed_24 : decode cX8_agreed 24 = .ok (.istore 4, 2) := by decide +kernel
theorem dX8_agreed_26 : decode cX8_agreed 26 = .ok (.iload 4, 2) := by decide +kernel
theorem dX8_agreed_28 : decode cX8_agreed 28 = .ok (.ifCond .eq 8, 3) := by decide +kernel
theorem dX8_agreed_31 : decode cX8_agreed 31 = .ok (.aload_n 0, 1) := by decide +kernel
theorem dX8_agreed_32 : decode cX8_agreed 32 = .ok (.iload_n 2, 1) := by decide +kernel
theorem dX8_agreed_33 : decode cX8_agreed 33 = .ok (.invokevirtual 203, 3) := by decide +kernel
theorem dX8_agreed_36 : decode cX8_agreed 36 = .ok (.aload_n 0, 1) := by decide +kernel
theorem dX8_agreed_37 : decode cX8_agreed 37 = .ok (.iload 4, 2) := by decide +kernel
theorem dX8_agreed_39 : decode cX8_agreed 39 = .ok (.ifCond .eq 12, 3) := by decide +kernel
theorem dX8_agreed_42 : decode cX8_agreed 42 = .ok (.aload_n 0, 1) := by decide +kernel
theorem dX8_agreed_43 : decode cX8_agreed 43 = .ok (.getfield 67, 3) := by decide +kernel
theorem dX8_agreed_46 : decode cX8_agreed 46 = .ok (.iload_n 1, 1) := by decide +kernel
theorem dX8_agreed_47 : decode cX8_agreed 47 = .ok (.iaload, 1) := by decide +kernel
theorem dX8_agreed_48 : decode cX8_agreed 48 = .ok (.ifCond .ge 7, 3) := by decide +kernel
theorem dX8_agreed_51 : decode cX8_agreed 51 = .ok (.iconst 1, 1) := by decide +kernel
theorem dX8_agreed_52 : decode cX8_agreed 52 = .ok (.goto 4, 3) := by decide +kernel
theorem dX8_agreed_55 : decode cX8_agreed 55 = .ok (.iconst 0, 1) := by decide +kernel
theorem dX8_agreed_56 : decode cX8_agreed 56 = .ok (.invokevirtual 151, 3) := by decide +kernel
theorem dX8_agreed_59 : decode cX8_agreed 59 = .ok (.ifCond .eq 5, 3) := by decide +kernel
theorem dX8_agreed_62 : decode cX8_agreed 62 = .ok (.lconst 0, 1) := by decide +kernel
theorem dX8_agreed_63 : decode cX8_agreed 63 = .ok (.lreturn, 1) := by decide +kernel
theorem dX8_agreed_64 : decode cX8_agreed 64 = .ok (.aload_n 0, 1) := by decide +kernel
theorem dX8_agreed_65 : decode cX8_agreed 65 = .ok (.invokevirtual 212, 3) := by decide +kernel
theorem dX8_agreed_68 : decode cX8_agreed 68 = .ok (.istore 5, 2) := by decide +kernel
theorem dX8_agreed_70 : decode cX8_agreed 70 = .ok (.iconst 0, 1) := by decide +kernel
theorem dX8_agreed_71 : decode cX8_agreed 71 = .ok (.istore 6, 2) := by decide +kernel
theorem dX8_agreed_73 : decode cX8_agreed 73 = .ok (.iload 6, 2) := by decide +kernel
theorem dX8_agreed_75 : decode cX8_agreed 75 = .ok (.bipush 16, 2) := by decide +kernel
theorem dX8_agreed_77 : decode cX8_agreed 77 = .ok (.if_icmp .ge 17, 3) := by decide +kernel
theorem dX8_agreed_80 : decode cX8_agreed 80 = .ok (.aload_n 0, 1) := by decide +kernel
theorem dX8_agreed_81 : decode cX8_agreed 81 = .ok (.getfield 79, 3) := by decide +kernel
theorem dX8_agreed_84 : decode cX8_agreed 84 = .ok (.iload 6, 2) := by decide +kernel
theorem dX8_agreed_86 : decode cX8_agreed 86 = .ok (.lconst 0, 1) := by decide +kernel
theorem dX8_agreed_87 : decode cX8_agreed 87 = .ok (.lastore, 1) := by decide +kernel
theorem dX8_agreed_88 : decode cX8_agreed 88 = .ok (.iinc 6 1, 3) := by decide +kernel
theorem dX8_agreed_91 : decode cX8_agreed 91 = .ok (.goto (-18), 3) := by decide +kernel
theorem dX8_agreed_94 : decode cX8_agreed 94 = .ok (.iconst 0, 1) := by decide +kernel
theorem dX8_agreed_95 : decode cX8_agreed 95 = .ok (.istore 6, 2) := by decide +kernel
theorem dX8_agreed_97 : decode cX8_agreed 97 = .ok (.iload 6, 2) := by decide +kernel
theorem dX8_agreed_99 : decode cX8_agreed 99 = .ok (.bipush 16, 2) := by decide +kernel
theorem dX8_agreed_101 : decode cX8_agreed 101 = .ok (.if_icmp .ge 156, 3) := by decide +kernel
theorem dX8_agreed_104 : decode cX8_agreed 104 = .ok (.aload_n 0, 1) := by decide +kernel
theorem dX8_agreed_105 : decode cX8_agreed 105 = .ok (.getfield 67, 3) := by decide +kernel
theorem dX8_agreed_108 : decode cX8_agreed 108 = .ok (.iload 6, 2) := by decide +kernel
theorem dX8_agreed_110 : decode cX8_agreed 110 = .ok (.iaload, 1) := by decide +kernel
theorem dX8_agreed_111 : decode cX8_agreed 111 = .ok (.ifCond .ge 6, 3) := by decide +kernel
theorem dX8_agreed_114 : decode cX8_agreed 114 = .ok (.goto 137, 3) := by decide +kernel
theorem dX8_agreed_117 : decode cX8_agreed 117 = .ok (.aload_n 0, 1) := by decide +kernel
theorem dX8_agreed_118 : decode cX8_agreed 118 = .ok (.getfield 73, 3) := by decide +kernel
theorem dX8_agreed_121 : decode cX8_agreed 121 = .ok (.aload_n 0, 1) := by decide +kernel
theorem dX8_agreed_122 : decode cX8_agreed 122 = .ok (.getfield 20, 3) := by decide +kernel
theorem dX8_agreed_125 : decode cX8_agreed 125 = .ok (.iload 6, 2) := by decide +kernel
theorem dX8_agreed_127 : decode cX8_agreed 127 = .ok (.iaload, 1) := by decide +kernel
theorem dX8_agreed_128 : decode cX8_agreed 128 = .ok (.iaload, 1) := by decide +kernel
theorem dX8_agreed_129 : decode cX8_agreed 129 = .ok (.istore 7, 2) := by decide +kernel
theorem dX8_agreed_131 : decode cX8_agreed 131 = .ok (.aload_n 0, 1) := by decide +kernel
theorem dX8_agreed_132 : decode cX8_agreed 132 = .ok (.getfield 73, 3) := by decide +kernel
theorem dX8_agreed_135 : decode cX8_agreed 135 = .ok (.aload_n 0, 1) := by decide +kernel
theorem dX8_agreed_136 : decode cX8_agreed 136 = .ok (.getfield 24, 3) := by decide +kernel
theorem dX8_agreed_139 : decode cX8_agreed 139 = .ok (.iload 6, 2) := by decide +kernel
theorem dX8_agreed_141 : decode cX8_agreed 141 = .ok (.iaload, 1) := by decide +kernel
theorem dX8_agreed_142 : decode cX8_agreed 142 = .ok (.iaload, 1) := by decide +kernel
theorem dX8_agreed_143 : decode cX8_agreed 143 = .ok (.istore 8, 2) := by decide +kernel
theorem dX8_agreed_145 : decode cX8_agreed 145 = .ok (.iload 7, 2) := by decide +kernel
theorem dX8_agreed_147 : decode cX8_agreed 147 = .ok (.ifCond .lt 23, 3) := by decide +kernel
theorem dX8_agreed_150 : decode cX8_agreed 150 = .ok (.aload_n 0, 1) := by decide +kernel
theorem dX8_agreed_151 : decode cX8_agreed 151 = .ok (.getfield 79, 3) := by decide +kernel
theorem dX8_agreed_154 : decode cX8_agreed 154 = .ok (.iconst 5, 1) := by decide +kernel
theorem dX8_agreed_155 : decode cX8_agreed 155 = .ok (.iload 7, 2) := by decide +kernel
theorem dX8_agreed_157 : decode cX8_agreed 157 = .ok (.imul, 1) := by decide +kernel
theorem dX8_agreed_158 : decode cX8_agreed 158 = .ok (.dup2, 1) := by decide +kernel
theorem dX8_agreed_159 : decode cX8_agreed 159 = .ok (.laload, 1) := by decide +kernel
theorem dX8_agreed_160 : decode cX8_agreed 160 = .ok (.aload_n 0, 1) := by decide +kernel
theorem dX8_agreed_161 : decode cX8_agreed 161 = .ok (.getfield 70, 3) := by decide +kernel
theorem dX8_agreed_164 : decode cX8_agreed 164 = .ok (.iload 6, 2) := by decide +kernel
theorem dX8_agreed_166 : decode cX8_agreed 166 = .ok (.iaload, 1) := by decide +kernel
theorem dX8_agreed_167 : decode cX8_agreed 167 = .ok (.i2l, 1) := by decide +kernel
theorem dX8_agreed_168 : decode cX8_agreed 168 = .ok (.ladd, 1) := by decide +kernel
theorem dX8_agreed_169 : decode cX8_agreed 169 = .ok (.lastore, 1) := by decide +kernel
theorem dX8_agreed_170 : decode cX8_agreed 170 = .ok (.iload 8, 2) := by decide +kernel
theorem dX8_agreed_172 : decode cX8_agreed 172 = .ok (.ifCond .lt 23, 3) := by decide +kernel
theorem dX8_agreed_175 : decode cX8_agreed 175 = .ok (.aload_n 0, 1) := by decide +kernel
theorem dX8_agreed_176 : decode cX8_agreed 176 = .ok (.getfield 79, 3) := by decide +kernel
theorem dX8_agreed_179 : decode cX8_agreed 179 = .ok (.iconst 5, 1) := by decide +kernel
theorem dX8_agreed_180 : decode cX8_agreed 180 = .ok (.iload 8, 2) := by decide +kernel
theorem dX8_agreed_182 : decode cX8_agreed 182 = .ok (.imul, 1) := by decide +kernel
theorem dX8_agreed_183 : decode cX8_agreed 183 = .ok (.dup2, 1) := by decide +kernel
theorem dX8_agreed_184 : decode cX8_agreed 184 = .ok (.laload, 1) := by decide +kernel
theorem dX8_agreed_185 : decode cX8_agreed 185 = .ok (.aload_n 0, 1) := by decide +kernel
theorem dX8_agreed_186 : decode cX8_agreed 186 = .ok (.getfield 70, 3) := by decide +kernel
theorem dX8_agreed_189 : decode cX8_agreed 189 = .ok (.iload 6, 2) := by decide +kernel
theorem dX8_agreed_191 : decode cX8_agreed 191 = .ok (.iaload, 1) := by decide +kernel
theorem dX8_agreed_192 : decode cX8_agreed 192 = .ok (.i2l, 1) := by decide +kernel
theorem dX8_agreed_193 : decode cX8_agreed 193 = .ok (.ladd, 1) := by decide +kernel
theorem dX8_agreed_194 : decode cX8_agreed 194 = .ok (.lastore, 1) := by decide +kernel
theorem dX8_agreed_195 : decode cX8_agreed 195 = .ok (.iload 7, 2) := by decide +kernel
theorem dX8_agreed_197 : decode cX8_agreed 197 = .ok (.ifCond .lt 54, 3) := by decide +kernel
theorem dX8_agreed_200 : decode cX8_agreed 200 = .ok (.iload 8, 2) := by decide +kernel
theorem dX8_agreed_202 : decode cX8_agreed 202 = .ok (.ifCond .lt 49, 3) := by decide +kernel
theorem dX8_agreed_205 : decode cX8_agreed 205 = .ok (.aload_n 0, 1) := by decide +kernel
theorem dX8_agreed_206 : decode cX8_agreed 206 = .ok (.getfield 79, 3) := by decide +kernel
theorem dX8_agreed_209 : decode cX8_agreed 209 = .ok (.iconst 4, 1) := by decide +kernel
theorem dX8_agreed_210 : decode cX8_agreed 210 = .ok (.iload 7, 2) := by decide +kernel
theorem dX8_agreed_212 : decode cX8_agreed 212 = .ok (.imul, 1) := by decide +kernel
theorem dX8_agreed_213 : decode cX8_agreed 213 = .ok (.iload 8, 2) := by decide +kernel
theorem dX8_agreed_215 : decode cX8_agreed 215 = .ok (.iadd, 1) := by decide +kernel
theorem dX8_agreed_216 : decode cX8_agreed 216 = .ok (.dup2, 1) := by decide +kernel
theorem dX8_agreed_217 : decode cX8_agreed 217 = .ok (.laload, 1) := by decide +kernel
theorem dX8_agreed_218 : decode cX8_agreed 218 = .ok (.aload_n 0, 1) := by decide +kernel
theorem dX8_agreed_219 : decode cX8_agreed 219 = .ok (.getfield 70, 3) := by decide +kernel
theorem dX8_agreed_222 : decode cX8_agreed 222 = .ok (.iload 6, 2) := by decide +kernel
theorem dX8_agreed_224 : decode cX8_agreed 224 = .ok (.iaload, 1) := by decide +kernel
theorem dX8_agreed_225 : decode cX8_agreed 225 = .ok (.i2l, 1) := by decide +kernel
theorem dX8_agreed_226 : decode cX8_agreed 226 = .ok (.lsub, 1) := by decide +kernel
theorem dX8_agreed_227 : decode cX8_agreed 227 = .ok (.lastore, 1) := by decide +kernel
theorem dX8_agreed_228 : decode cX8_agreed 228 = .ok (.aload_n 0, 1) := by decide +kernel
theorem dX8_agreed_229 : decode cX8_agreed 229 = .ok (.getfield 79, 3) := by decide +kernel
theorem dX8_agreed_232 : decode cX8_agreed 232 = .ok (.iconst 4, 1) := by decide +kernel
theorem dX8_agreed_233 : decode cX8_agreed 233 = .ok (.iload 8, 2) := by decide +kernel
theorem dX8_agreed_235 : decode cX8_agreed 235 = .ok (.imul, 1) := by decide +kernel
theorem dX8_agreed_236 : decode cX8_agreed 236 = .ok (.iload 7, 2) := by decide +kernel
theorem dX8_agreed_238 : decode cX8_agreed 238 = .ok (.iadd, 1) := by decide +kernel
theorem dX8_agreed_239 : decode cX8_agreed 239 = .ok (.dup2, 1) := by decide +kernel
theorem dX8_agreed_240 : decode cX8_agreed 240 = .ok (.laload, 1) := by decide +kernel
theorem dX8_agreed_241 : decode cX8_agreed 241 = .ok (.aload_n 0, 1) := by decide +kernel
theorem dX8_agreed_242 : decode cX8_agreed 242 = .ok (.getfield 70, 3) := by decide +kernel
theorem dX8_agreed_245 : decode cX8_agreed 245 = .ok (.iload 6, 2) := by decide +kernel
theorem dX8_agreed_247 : decode cX8_agreed 247 = .ok (.iaload, 1) := by decide +kernel
theorem dX8_agreed_248 : decode cX8_agreed 248 = .ok (.i2l, 1) := by decide +kernel
theorem dX8_agreed_249 : decode cX8_agreed 249 = .ok (.lsub, 1) := by decide +kernel
theorem dX8_agreed_250 : decode cX8_agreed 250 = .ok (.lastore, 1) := by decide +kernel
theorem dX8_agreed_251 : decode cX8_agreed 251 = .ok (.iinc 6 1, 3) := by decide +kernel
theorem dX8_agreed_254 : decode cX8_agreed 254 = .ok (.goto (-157), 3) := by decide +kernel
theorem dX8_agreed_257 : decode cX8_agreed 257 = .ok (.iconst 0, 1) := by decide +kernel
theorem dX8_agreed_258 : decode cX8_agreed 258 = .ok (.istore 6, 2) := by decide +kernel
theorem dX8_agreed_260 : decode cX8_agreed 260 = .ok (.iload 6, 2) := by decide +kernel
theorem dX8_agreed_262 : decode cX8_agreed 262 = .ok (.iconst 4, 1) := by decide +kernel
theorem dX8_agreed_263 : decode cX8_agreed 263 = .ok (.if_icmp .ge 37, 3) := by decide +kernel
theorem dX8_agreed_266 : decode cX8_agreed 266 = .ok (.aload_n 0, 1) := by decide +kernel
theorem dX8_agreed_267 : decode cX8_agreed 267 = .ok (.getfield 73, 3) := by decide +kernel
theorem dX8_agreed_270 : decode cX8_agreed 270 = .ok (.iload 6, 2) := by decide +kernel
theorem dX8_agreed_272 : decode cX8_agreed 272 = .ok (.iaload, 1) := by decide +kernel
theorem dX8_agreed_273 : decode cX8_agreed 273 = .ok (.ifCond .lt 21, 3) := by decide +kernel
theorem dX8_agreed_276 : decode cX8_agreed 276 = .ok (.aload_n 0, 1) := by decide +kernel
theorem dX8_agreed_277 : decode cX8_agreed 277 = .ok (.getfield 82, 3) := by decide +kernel
theorem dX8_agreed_280 : decode cX8_agreed 280 = .ok (.aload_n 0, 1) := by decide +kernel
theorem dX8_agreed_281 : decode cX8_agreed 281 = .ok (.getfield 73, 3) := by decide +kernel
theorem dX8_agreed_284 : decode cX8_agreed 284 = .ok (.iload 6, 2) := by decide +kernel
theorem dX8_agreed_286 : decode cX8_agreed 286 = .ok (.iaload, 1) := by decide +kernel
theorem dX8_agreed_287 : decode cX8_agreed 287 = .ok (.aload_n 0, 1) := by decide +kernel
theorem dX8_agreed_288 : decode cX8_agreed 288 = .ok (.iload 6, 2) := by decide +kernel
theorem dX8_agreed_290 : decode cX8_agreed 290 = .ok (.invokevirtual 206, 3) := by decide +kernel
theorem dX8_agreed_293 : decode cX8_agreed 293 = .ok (.lastore, 1) := by decide +kernel
theorem dX8_agreed_294 : decode cX8_agreed 294 = .ok (.iinc 6 1, 3) := by decide +kernel
theorem dX8_agreed_297 : decode cX8_agreed 297 = .ok (.goto (-37), 3) := by decide +kernel
theorem dX8_agreed_300 : decode cX8_agreed 300 = .ok (.aload_n 0, 1) := by decide +kernel
theorem dX8_agreed_301 : decode cX8_agreed 301 = .ok (.iload 5, 2) := by decide +kernel
theorem dX8_agreed_303 : decode cX8_agreed 303 = .ok (.iconst (-1), 1) := by decide +kernel
theorem dX8_agreed_304 : decode cX8_agreed 304 = .ok (.invokevirtual 215, 3) := by decide +kernel
theorem dX8_agreed_307 : decode cX8_agreed 307 = .ok (.lstore 6, 2) := by decide +kernel
theorem dX8_agreed_309 : decode cX8_agreed 309 = .ok (.iconst 0, 1) := by decide +kernel
theorem dX8_agreed_310 : decode cX8_agreed 310 = .ok (.istore 8, 2) := by decide +kernel
theorem dX8_agreed_312 : decode cX8_agreed 312 = .ok (.iload 8, 2) := by decide +kernel
theorem dX8_agreed_314 : decode cX8_agreed 314 = .ok (.bipush 8, 2) := by decide +kernel
theorem dX8_agreed_316 : decode cX8_agreed 316 = .ok (.if_icmp .ge 43, 3) := by decide +kernel
theorem dX8_agreed_319 : decode cX8_agreed 319 = .ok (.aload_n 0, 1) := by decide +kernel
theorem dX8_agreed_320 : decode cX8_agreed 320 = .ok (.getfield 85, 3) := by decide +kernel
theorem dX8_agreed_323 : decode cX8_agreed 323 = .ok (.iload 8, 2) := by decide +kernel
theorem dX8_agreed_325 : decode cX8_agreed 325 = .ok (.aload_n 0, 1) := by decide +kernel
theorem dX8_agreed_326 : decode cX8_agreed 326 = .ok (.getfield 73, 3) := by decide +kernel
theorem dX8_agreed_329 : decode cX8_agreed 329 = .ok (.iload 8, 2) := by decide +kernel
theorem dX8_agreed_331 : decode cX8_agreed 331 = .ok (.iaload, 1) := by decide +kernel
theorem dX8_agreed_332 : decode cX8_agreed 332 = .ok (.ifCond .lt 19, 3) := by decide +kernel
theorem dX8_agreed_335 : decode cX8_agreed 335 = .ok (.aload_n 0, 1) := by decide +kernel
theorem dX8_agreed_336 : decode cX8_agreed 336 = .ok (.iload 5, 2) := by decide +kernel
theorem dX8_agreed_338 : decode cX8_agreed 338 = .ok (.aload_n 0, 1) := by decide +kernel
theorem dX8_agreed_339 : decode cX8_agreed 339 = .ok (.getfield 73, 3) := by decide +kernel
theorem dX8_agreed_342 : decode cX8_agreed 342 = .ok (.iload 8, 2) := by decide +kernel
theorem dX8_agreed_344 : decode cX8_agreed 344 = .ok (.iaload, 1) := by decide +kernel
theorem dX8_agreed_345 : decode cX8_agreed 345 = .ok (.invokevirtual 215, 3) := by decide +kernel
theorem dX8_agreed_348 : decode cX8_agreed 348 = .ok (.goto 4, 3) := by decide +kernel
theorem dX8_agreed_351 : decode cX8_agreed 351 = .ok (.lconst 0, 1) := by decide +kernel
theorem dX8_agreed_352 : decode cX8_agreed 352 = .ok (.lastore, 1) := by decide +kernel
theorem dX8_agreed_353 : decode cX8_agreed 353 = .ok (.iinc 8 1, 3) := by decide +kernel
theorem dX8_agreed_356 : decode cX8_agreed 356 = .ok (.goto (-44), 3) := by decide +kernel
theorem dX8_agreed_359 : decode cX8_agreed 359 = .ok (.aload_n 0, 1) := by decide +kernel
theorem dX8_agreed_360 : decode cX8_agreed 360 = .ok (.aload_n 0, 1) := by decide +kernel
theorem dX8_agreed_361 : decode cX8_agreed 361 = .ok (.getfield 67, 3) := by decide +kernel
theorem dX8_agreed_364 : decode cX8_agreed 364 = .ok (.iload_n 1, 1) := by decide +kernel
theorem dX8_agreed_365 : decode cX8_agreed 365 = .ok (.iaload, 1) := by decide +kernel
theorem dX8_agreed_366 : decode cX8_agreed 366 = .ok (.i2l, 1) := by decide +kernel
theorem dX8_agreed_367 : decode cX8_agreed 367 = .ok (.lload 6, 2) := by decide +kernel
theorem dX8_agreed_369 : decode cX8_agreed 369 = .ok (.lmul, 1) := by decide +kernel
theorem dX8_agreed_370 : decode cX8_agreed 370 = .ok (.aload_n 0, 1) := by decide +kernel
theorem dX8_agreed_371 : decode cX8_agreed 371 = .ok (.getfield 70, 3) := by decide +kernel
theorem dX8_agreed_374 : decode cX8_agreed 374 = .ok (.iload_n 1, 1) := by decide +kernel
theorem dX8_agreed_375 : decode cX8_agreed 375 = .ok (.iaload, 1) := by decide +kernel
theorem dX8_agreed_376 : decode cX8_agreed 376 = .ok (.i2l, 1) := by decide +kernel
theorem dX8_agreed_377 : decode cX8_agreed 377 = .ok (.aload_n 0, 1) := by decide +kernel
theorem dX8_agreed_378 : decode cX8_agreed 378 = .ok (.getfield 85, 3) := by decide +kernel
theorem dX8_agreed_381 : decode cX8_agreed 381 = .ok (.aload_n 0, 1) := by decide +kernel
theorem dX8_agreed_382 : decode cX8_agreed 382 = .ok (.getfield 24, 3) := by decide +kernel
theorem dX8_agreed_385 : decode cX8_agreed 385 = .ok (.iload_n 1, 1) := by decide +kernel
theorem dX8_agreed_386 : decode cX8_agreed 386 = .ok (.iaload, 1) := by decide +kernel
theorem dX8_agreed_387 : decode cX8_agreed 387 = .ok (.laload, 1) := by decide +kernel
theorem dX8_agreed_388 : decode cX8_agreed 388 = .ok (.aload_n 0, 1) := by decide +kernel
theorem dX8_agreed_389 : decode cX8_agreed 389 = .ok (.getfield 85, 3) := by decide +kernel
theorem dX8_agreed_392 : decode cX8_agreed 392 = .ok (.aload_n 0, 1) := by decide +kernel
theorem dX8_agreed_393 : decode cX8_agreed 393 = .ok (.getfield 20, 3) := by decide +kernel
theorem dX8_agreed_396 : decode cX8_agreed 396 = .ok (.iload_n 1, 1) := by decide +kernel
theorem dX8_agreed_397 : decode cX8_agreed 397 = .ok (.iaload, 1) := by decide +kernel
theorem dX8_agreed_398 : decode cX8_agreed 398 = .ok (.laload, 1) := by decide +kernel
theorem dX8_agreed_399 : decode cX8_agreed 399 = .ok (.lsub, 1) := by decide +kernel
theorem dX8_agreed_400 : decode cX8_agreed 400 = .ok (.lmul, 1) := by decide +kernel
theorem dX8_agreed_401 : decode cX8_agreed 401 = .ok (.lsub, 1) := by decide +kernel
theorem dX8_agreed_402 : decode cX8_agreed 402 = .ok (.lload 6, 2) := by decide +kernel
theorem dX8_agreed_404 : decode cX8_agreed 404 = .ok (.invokevirtual 188, 3) := by decide +kernel
theorem dX8_agreed_407 : decode cX8_agreed 407 = .ok (.iload_n 3, 1) := by decide +kernel
theorem dX8_agreed_408 : decode cX8_agreed 408 = .ok (.ifCond .ne 10, 3) := by decide +kernel
theorem dX8_agreed_411 : decode cX8_agreed 411 = .ok (.aload_n 0, 1) := by decide +kernel
theorem dX8_agreed_412 : decode cX8_agreed 412 = .ok (.getfield 182, 3) := by decide +kernel
theorem dX8_agreed_415 : decode cX8_agreed 415 = .ok (.goto 7, 3) := by decide +kernel
theorem dX8_agreed_418 : decode cX8_agreed 418 = .ok (.aload_n 0, 1) := by decide +kernel
theorem dX8_agreed_419 : decode cX8_agreed 419 = .ok (.getfield 185, 3) := by decide +kernel
theorem dX8_agreed_422 : decode cX8_agreed 422 = .ok (.lreturn, 1) := by decide +kernel
theorem dX8_told_0 : decode cX8_told 0 = .ok (.aload_n 0, 1) := by decide +kernel
theorem dX8_told_1 : decode cX8_told 1 = .ok (.iconst 0, 1) := by decide +kernel
theorem dX8_told_2 : decode cX8_told 2 = .ok (.putfield 91, 3) := by decide +kernel
theorem dX8_told_5 : decode cX8_told 5 = .ok (.iload_n 1, 1) := by decide +kernel
theorem dX8_told_6 : decode cX8_told 6 = .ok (.tableswitch 80 0 3 #[30, 65, 70, 75], 30) := by decide +kernel
theorem dX8_told_36 : decode cX8_told 36 = .ok (.iconst 0, 1) := by decide +kernel
theorem dX8_told_37 : decode cX8_told 37 = .ok (.istore_n 2, 1) := by decide +kernel
theorem dX8_told_38 : decode cX8_told 38 = .ok (.iconst 0, 1) := by decide +kernel
theorem dX8_told_39 : decode cX8_told 39 = .ok (.istore_n 3, 1) := by decide +kernel
theorem dX8_told_40 : decode cX8_told 40 = .ok (.iload_n 3, 1) := by decide +kernel
theorem dX8_told_41 : decode cX8_told 41 = .ok (.bipush 16, 2) := by decide +kernel
theorem dX8_told_43 : decode cX8_told 43 = .ok (.if_icmp .ge 26, 3) := by decide +kernel
theorem dX8_told_46 : decode cX8_told 46 = .ok (.iload_n 2, 1) := by decide +kernel
theorem dX8_told_47 : decode cX8_told 47 = .ok (.aload_n 0, 1) := by decide +kernel
theorem dX8_told_48 : decode cX8_told 48 = .ok (.getfield 13, 3) := by decide +kernel
theorem dX8_told_51 : decode cX8_told 51 = .ok (.iload_n 3, 1) := by decide +kernel
theorem dX8_told_52 : decode cX8_told 52 = .ok (.baload, 1) := by decide +kernel
theorem dX8_told_53 : decode cX8_told 53 = .ok (.ifCond .eq 7, 3) := by decide +kernel
theorem dX8_told_56 : decode cX8_told 56 = .ok (.iconst 1, 1) := by decide +kernel
theorem dX8_told_57 : decode cX8_told 57 = .ok (.goto 4, 3) := by decide +kernel
theorem dX8_told_60 : decode cX8_told 60 = .ok (.iconst 0, 1) := by decide +kernel
theorem dX8_told_61 : decode cX8_told 61 = .ok (.iadd, 1) := by decide +kernel
theorem dX8_told_62 : decode cX8_told 62 = .ok (.istore_n 2, 1) := by decide +kernel
theorem dX8_told_63 : decode cX8_told 63 = .ok (.iinc 3 1, 3) := by decide +kernel
theorem dX8_told_66 : decode cX8_told 66 = .ok (.goto (-26), 3) := by decide +kernel
theorem dX8_told_69 : decode cX8_told 69 = .ok (.iload_n 2, 1) := by decide +kernel
theorem dX8_told_70 : decode cX8_told 70 = .ok (.ireturn, 1) := by decide +kernel
theorem dX8_told_71 : decode cX8_told 71 = .ok (.aload_n 0, 1) := by decide +kernel
theorem dX8_told_72 : decode cX8_told 72 = .ok (.getfield 102, 3) := by decide +kernel
theorem dX8_told_75 : decode cX8_told 75 = .ok (.ireturn, 1) := by decide +kernel
theorem dX8_told_76 : decode cX8_told 76 = .ok (.aload_n 0, 1) := by decide +kernel
theorem dX8_told_77 : decode cX8_told 77 = .ok (.getfield 105, 3) := by decide +kernel
theorem dX8_told_80 : decode cX8_told 80 = .ok (.ireturn, 1) := by decide +kernel
theorem dX8_told_81 : decode cX8_told 81 = .ok (.aload_n 0, 1) := by decide +kernel
theorem dX8_told_82 : decode cX8_told 82 = .ok (.getfield 95, 3) := by decide +kernel
theorem dX8_told_85 : decode cX8_told 85 = .ok (.ireturn, 1) := by decide +kernel
theorem dX8_told_86 : decode cX8_told 86 = .ok (.iconst (-1), 1) := by decide +kernel
theorem dX8_told_87 : decode cX8_told 87 = .ok (.ireturn, 1) := by decide +kernel
end
section
theorem dL_worth_0 : decode cL_worth 0 = .ok (.aload 4, 2) := by decide +kernel
theorem dL_worth_2 : decode cL_worth 2 = .ok (.iconst 0, 1) := by decide +kernel
theorem dL_worth_3 : decode cL_worth 3 = .ok (.aload_n 0, 1) := by decide +kernel
theorem dL_worth_4 : decode cL_worth 4 = .ok (.iload_n 1, 1) := by decide +kernel
theorem dL_worth_5 : decode cL_worth 5 = .ok (.iload_n 2, 1) := by decide +kernel
theorem dL_worth_6 : decode cL_worth 6 = .ok (.iload_n 3, 1) := by decide +kernel
theorem dL_worth_7 : decode cL_worth 7 = .ok (.invokevirtual 7, 3) := by decide +kernel
theorem dL_worth_10 : decode cL_worth 10 = .ok (.i2l, 1) := by decide +kernel
theorem dL_worth_11 : decode cL_worth 11 = .ok (.lastore, 1) := by decide +kernel
theorem dL_worth_12 : decode cL_worth 12 = .ok (.goto 7, 3) := by decide +kernel
theorem dL_worth_15 : decode cL_worth 15 = .ok (.astore 5, 2) := by decide +kernel
theorem dL_worth_17 : decode cL_worth 17 = .ok (.iconst 1, 1) := by decide +kernel
theorem dL_worth_18 : decode cL_worth 18 = .ok (.ireturn, 1) := by decide +kernel
theorem dL_worth_19 : decode cL_worth 19 = .ok (.iconst 0, 1) := by decide +kernel
theorem dL_worth_20 : decode cL_worth 20 = .ok (.ireturn, 1) := by decide +kernel
theorem dL_year_0 : decode cL_year 0 = .ok (.aload 4, 2) := by decide +kernel
theorem dL_year_2 : decode cL_year 2 = .ok (.iconst 0, 1) := by decide +kernel
theorem dL_year_3 : decode cL_year 3 = .ok (.aload_n 0, 1) := by decide +kernel
theorem dL_year_4 : decode cL_year 4 = .ok (.iload_n 1, 1) := by decide +kernel
theorem dL_year_5 : decode cL_year 5 = .ok (.iload_n 2, 1) := by decide +kernel
theorem dL_year_6 : decode cL_year 6 = .ok (.iload_n 3, 1) := by decide +kernel
theorem dL_year_7 : decode cL_year 7 = .ok (.invokevirtual 15, 3) := by decide +kernel
theorem dL_year_10 : decode cL_year 10 = .ok (.lastore, 1) := by decide +kernel
theorem dL_year_11 : decode cL_year 11 = .ok (.goto 7, 3) := by decide +kernel
theorem dL_year_14 : decode cL_year 14 = .ok (.astore 5, 2) := by decide +kernel
theorem dL_year_16 : decode cL_year 16 = .ok (.iconst 1, 1) := by decide +kernel
theorem dL_year_17 : decode cL_year 17 = .ok (.ireturn, 1) := by decide +kernel
theorem dL_year_18 : decode cL_year 18 = .ok (.iconst 0, 1) := by decide +kernel
theorem dL_year_19 : decode cL_year 19 = .ok (.ireturn, 1) := by decide +kernel
theorem dL_trial_0 : decode cL_trial 0 = .ok (.aload 4, 2) := by decide +kernel
theorem dL_trial_2 : decode cL_trial 2 = .ok (.iconst 0, 1) := by decide +kernel
theorem dL_trial_3 : decode cL_trial 3 = .ok (.aload_n 0, 1) := by decide +kernel
theorem dL_trial_4 : decode cL_trial 4 = .ok (.iload_n 1, 1) := by decide +kernel
theorem dL_trial_5 : decode cL_trial 5 = .ok (.iload_n 2, 1) := by decide +kernel
theorem dL_trial_6 : decode cL_trial 6 = .ok (.iload_n 3, 1) := by decide +kernel
theorem dL_trial_7 : decode cL_trial 7 = .ok (.invokevirtual 19, 3) := by decide +kernel
theorem dL_trial_10 : decode cL_trial 10 = .ok (.lastore, 1) := by decide +kernel
theorem dL_trial_11 : decode cL_trial 11 = .ok (.goto 7, 3) := by decide +kernel
theorem dL_trial_14 : decode cL_trial 14 = .ok (.astore 5, 2) := by decide +kernel
theorem dL_trial_16 : decode cL_trial 16 = .ok (.iconst 1, 1) := by decide +kernel
theorem dL_trial_17 : decode cL_trial 17 = .ok (.ireturn, 1) := by decide +kernel
theorem dL_trial_18 : decode cL_trial 18 = .ok (.iconst 0, 1) := by decide +kernel
theorem dL_trial_19 : decode cL_trial 19 = .ok (.ireturn, 1) := by decide +kernel
theorem dL_missing_0 : decode cL_missing 0 = .ok (.aload_n 3, 1) := by decide +kernel
theorem dL_missing_1 : decode cL_missing 1 = .ok (.iconst 0, 1) := by decide +kernel
theorem dL_missing_2 : decode cL_missing 2 = .ok (.aload_n 0, 1) := by decide +kernel
theorem dL_missing_3 : decode cL_missing 3 = .ok (.iload_n 1, 1) := by decide +kernel
theorem dL_missing_4 : decode cL_missing 4 = .ok (.iload_n 2, 1) := by decide +kernel
theorem dL_missing_5 : decode cL_missing 5 = .ok (.invokevirtual 22, 3) := by decide +kernel
theorem dL_missing_8 : decode cL_missing 8 = .ok (.i2l, 1) := by decide +kernel
theorem dL_missing_9 : decode cL_missing 9 = .ok (.lastore, 1) := by decide +kernel
theorem dL_missing_10 : decode cL_missing 10 = .ok (.goto 7, 3) := by decide +kernel
theorem dL_missing_13 : decode cL_missing 13 = .ok (.astore 4, 2) := by decide +kernel
theorem dL_missing_15 : decode cL_missing 15 = .ok (.iconst 1, 1) := by decide +kernel
theorem dL_missing_16 : decode cL_missing 16 = .ok (.ireturn, 1) := by decide +kernel
theorem dL_missing_17 : decode cL_missing 17 = .ok (.iconst 0, 1) := by decide +kernel
theorem dL_missing_18 : decode cL_missing 18 = .ok (.ireturn, 1) := by decide +kernel
theorem dL_agreed_0 : decode cL_agreed 0 = .ok (.aload 4, 2) := by decide +kernel
theorem dL_agreed_2 : decode cL_agreed 2 = .ok (.iconst 0, 1) := by decide +kernel
theorem dL_agreed_3 : decode cL_agreed 3 = .ok (.aload_n 0, 1) := by decide +kernel
theorem dL_agreed_4 : decode cL_agreed 4 = .ok (.iload_n 1, 1) := by decide +kernel
theorem dL_agreed_5 : decode cL_agreed 5 = .ok (.iload_n 2, 1) := by decide +kernel
theorem dL_agreed_6 : decode cL_agreed 6 = .ok (.iload_n 3, 1) := by decide +kernel
theorem dL_agreed_7 : decode cL_agreed 7 = .ok (.invokevirtual 26, 3) := by decide +kernel
theorem dL_agreed_10 : decode cL_agreed 10 = .ok (.lastore, 1) := by decide +kernel
theorem dL_agreed_11 : decode cL_agreed 11 = .ok (.goto 7, 3) := by decide +kernel
theorem dL_agreed_14 : decode cL_agreed 14 = .ok (.astore 5, 2) := by decide +kernel
theorem dL_agreed_16 : decode cL_agreed 16 = .ok (.iconst 1, 1) := by decide +kernel
theorem dL_agreed_17 : decode cL_agreed 17 = .ok (.ireturn, 1) := by decide +kernel
theorem dL_agreed_18 : decode cL_agreed 18 = .ok (.iconst 0, 1) := by decide +kernel
theorem dL_agreed_19 : decode cL_agreed 19 = .ok (.ireturn, 1) := by decide +kernel
theorem dL_law_0 : decode cL_law 0 = .ok (.new 8, 3) := by decide +kernel
theorem dL_law_3 : decode cL_law 3 = .ok (.dup, 1) := by decide +kernel
theorem dL_law_4 : decode cL_law 4 = .ok (.invokespecial 29, 3) := by decide +kernel
theorem dL_law_7 : decode cL_law 7 = .ok (.astore_n 1, 1) := by decide +kernel
theorem dL_law_8 : decode cL_law 8 = .ok (.new 30, 3) := by decide +kernel
theorem dL_law_11 : decode cL_law 11 = .ok (.dup, 1) := by decide +kernel
theorem dL_law_12 : decode cL_law 12 = .ok (.invokespecial 32, 3) := by decide +kernel
theorem dL_law_15 : decode cL_law 15 = .ok (.astore_n 2, 1) := by decide +kernel
theorem dL_law_16 : decode cL_law 16 = .ok (.iconst 1, 1) := by decide +kernel
theorem dL_law_17 : decode cL_law 17 = .ok (.newarray .long, 2) := by decide +kernel
theorem dL_law_19 : decode cL_law 19 = .ok (.astore_n 3, 1) := by decide +kernel
theorem dL_law_20 : decode cL_law 20 = .ok (.iconst 0, 1) := by decide +kernel
theorem dL_law_21 : decode cL_law 21 = .ok (.istore 4, 2) := by decide +kernel
theorem dL_law_23 : decode cL_law 23 = .ok (.iload 4, 2) := by decide +kernel
theorem dL_law_25 : decode cL_law 25 = .ok (.aload_n 0, 1) := by decide +kernel
theorem dL_law_26 : decode cL_law 26 = .ok (.arraylength, 1) := by decide +kernel
theorem dL_law_27 : decode cL_law 27 = .ok (.bipush 6, 2) := by decide +kernel
theorem dL_law_29 : decode cL_law 29 = .ok (.isub, 1) := by decide +kernel
theorem dL_law_30 : decode cL_law 30 = .ok (.if_icmp .gt 1152, 3) := by decide +kernel
theorem dL_law_33 : decode cL_law 33 = .ok (.aload_n 0, 1) := by decide +kernel
theorem dL_law_34 : decode cL_law 34 = .ok (.iload 4, 2) := by decide +kernel
theorem dL_law_36 : decode cL_law 36 = .ok (.iaload, 1) := by decide +kernel
theorem dL_law_37 : decode cL_law 37 = .ok (.bipush 31, 2) := by decide +kernel
theorem dL_law_39 : decode cL_law 39 = .ok (.iand, 1) := by decide +kernel
theorem dL_law_40 : decode cL_law 40 = .ok (.tableswitch 1136 0 19 #[96, 169, 194, 255, 292, 329, 342, 419, 468, 529, 566, 603, 683, 720, 769, 848, 927, 964, 1032, 1111], 96) := by decide +kernel
theorem dL_law_136 : decode cL_law 136 = .ok (.aload_n 1, 1) := by decide +kernel
theorem dL_law_137 : decode cL_law 137 = .ok (.aload_n 0, 1) := by decide +kernel
theorem dL_law_138 : decode cL_law 138 = .ok (.iload 4, 2) := by decide +kernel
theorem dL_law_140 : decode cL_law 140 = .ok (.iconst 1, 1) := by decide +kernel
theorem dL_law_141 : decode cL_law 141 = .ok (.iadd, 1) := by decide +kernel
theorem dL_law_142 : decode cL_law 142 = .ok (.iaload, 1) := by decide +kernel
theorem dL_law_143 : decode cL_law 143 = .ok (.aload_n 0, 1) := by decide +kernel
theorem dL_law_144 : decode cL_law 144 = .ok (.iload 4, 2) := by decide +kernel
theorem dL_law_146 : decode cL_law 146 = .ok (.iconst 2, 1) := by decide +kernel
theorem dL_law_147 : decode cL_law 147 = .ok (.iadd, 1) := by decide +kernel
theorem dL_law_148 : decode cL_law 148 = .ok (.iaload, 1) := by decide +kernel
theorem dL_law_149 : decode cL_law 149 = .ok (.aload_n 0, 1) := by decide +kernel
theorem dL_law_150 : decode cL_law 150 = .ok (.iload 4, 2) := by decide +kernel
theorem dL_law_152 : decode cL_law 152 = .ok (.iconst 3, 1) := by decide +kernel
theorem dL_law_153 : decode cL_law 153 = .ok (.iadd, 1) := by decide +kernel
theorem dL_law_154 : decode cL_law 154 = .ok (.iaload, 1) := by decide +kernel
theorem dL_law_155 : decode cL_law 155 = .ok (.aload_n 0, 1) := by decide +kernel
theorem dL_law_156 : decode cL_law 156 = .ok (.iload 4, 2) := by decide +kernel
theorem dL_law_158 : decode cL_law 158 = .ok (.iconst 4, 1) := by decide +kernel
theorem dL_law_159 : decode cL_law 159 = .ok (.iadd, 1) := by decide +kernel
theorem dL_law_160 : decode cL_law 160 = .ok (.iaload, 1) := by decide +kernel
theorem dL_law_161 : decode cL_law 161 = .ok (.aload_n 0, 1) := by decide +kernel
theorem dL_law_162 : decode cL_law 162 = .ok (.iload 4, 2) := by decide +kernel
theorem dL_law_164 : decode cL_law 164 = .ok (.iconst 5, 1) := by decide +kernel
theorem dL_law_165 : decode cL_law 165 = .ok (.iadd, 1) := by decide +kernel
theorem dL_law_166 : decode cL_law 166 = .ok (.iaload, 1) := by decide +kernel
theorem dL_law_167 : decode cL_law 167 = .ok (.invokevirtual 33, 3) := by decide +kernel
theorem dL_law_170 : decode cL_law 170 = .ok (.aload_n 2, 1) := by decide +kernel
theorem dL_law_171 : decode cL_law 171 = .ok (.aload_n 0, 1) := by decide +kernel
theorem dL_law_172 : decode cL_law 172 = .ok (.iload 4, 2) := by decide +kernel
theorem dL_law_174 : decode cL_law 174 = .ok (.iconst 1, 1) := by decide +kernel
theorem dL_law_175 : decode cL_law 175 = .ok (.iadd, 1) := by decide +kernel
theorem dL_law_176 : decode cL_law 176 = .ok (.iaload, 1) := by decide +kernel
theorem dL_law_177 : decode cL_law 177 = .ok (.aload_n 0, 1) := by decide +kernel
theorem dL_law_178 : decode cL_law 178 = .ok (.iload 4, 2) := by decide +kernel
theorem dL_law_180 : decode cL_law 180 = .ok (.iconst 2, 1) := by decide +kernel
theorem dL_law_181 : decode cL_law 181 = .ok (.iadd, 1) := by decide +kernel
theorem dL_law_182 : decode cL_law 182 = .ok (.iaload, 1) := by decide +kernel
theorem dL_law_183 : decode cL_law 183 = .ok (.aload_n 0, 1) := by decide +kernel
theorem dL_law_184 : decode cL_law 184 = .ok (.iload 4, 2) := by decide +kernel
theorem dL_law_186 : decode cL_law 186 = .ok (.iconst 3, 1) := by decide +kernel
theorem dL_law_187 : decode cL_law 187 = .ok (.iadd, 1) := by decide +kernel
theorem dL_law_188 : decode cL_law 188 = .ok (.iaload, 1) := by decide +kernel
theorem dL_law_189 : decode cL_law 189 = .ok (.aload_n 0, 1) := by decide +kernel
theorem dL_law_190 : decode cL_law 190 = .ok (.iload 4, 2) := by decide +kernel
theorem dL_law_192 : decode cL_law 192 = .ok (.iconst 4, 1) := by decide +kernel
theorem dL_law_193 : decode cL_law 193 = .ok (.iadd, 1) := by decide +kernel
theorem dL_law_194 : decode cL_law 194 = .ok (.iaload, 1) := by decide +kernel
theorem dL_law_195 : decode cL_law 195 = .ok (.aload_n 0, 1) := by decide +kernel
theorem dL_law_196 : decode cL_law 196 = .ok (.iload 4, 2) := by decide +kernel
theorem dL_law_198 : decode cL_law 198 = .ok (.iconst 5, 1) := by decide +kernel
theorem dL_law_199 : decode cL_law 199 = .ok (.iadd, 1) := by decide +kernel
theorem dL_law_200 : decode cL_law 200 = .ok (.iaload, 1) := by decide +kernel
theorem dL_law_201 : decode cL_law 201 = .ok (.invokevirtual 37, 3) := by decide +kernel
theorem dL_law_204 : decode cL_law 204 = .ok (.if_icmp .eq 972, 3) := by decide +kernel
theorem dL_law_207 : decode cL_law 207 = .ok (.iconst 0, 1) := by decide +kernel
theorem dL_law_208 : decode cL_law 208 = .ok (.ireturn, 1) := by decide +kernel
theorem dL_law_209 : decode cL_law 209 = .ok (.aload_n 1, 1) := by decide +kernel
theorem dL_law_210 : decode cL_law 210 = .ok (.aload_n 0, 1) := by decide +kernel
theorem dL_law_211 : decode cL_law 211 = .ok (.iload 4, 2) := by decide +kernel
theorem dL_law_213 : decode cL_law 213 = .ok (.iconst 1, 1) := by decide +kernel
theorem dL_law_214 : decode cL_law 214 = .ok (.iadd, 1) := by decide +kernel
theorem dL_law_215 : decode cL_law 215 = .ok (.iaload, 1) := by decide +kernel
theorem dL_law_216 : decode cL_law 216 = .ok (.invokevirtual 38, 3) := by decide +kernel
theorem dL_law_219 : decode cL_law 219 = .ok (.aload_n 2, 1) := by decide +kernel
theorem dL_law_220 : decode cL_law 220 = .ok (.aload_n 0, 1) := by decide +kernel
theorem dL_law_221 : decode cL_law 221 = .ok (.iload 4, 2) := by decide +kernel
theorem dL_law_223 : decode cL_law 223 = .ok (.iconst 1, 1) := by decide +kernel
theorem dL_law_224 : decode cL_law 224 = .ok (.iadd, 1) := by decide +kernel
theorem dL_law_225 : decode cL_law 225 = .ok (.iaload, 1) := by decide +kernel
theorem dL_law_226 : decode cL_law 226 = .ok (.invokevirtual 42, 3) := by decide +kernel
theorem dL_law_229 : decode cL_law 229 = .ok (.if_icmp .eq 947, 3) := by decide +kernel
theorem dL_law_232 : decode cL_law 232 = .ok (.iconst 0, 1) := by decide +kernel
theorem dL_law_233 : decode cL_law 233 = .ok (.ireturn, 1) := by decide +kernel
theorem dL_law_234 : decode cL_law 234 = .ok (.aload_n 1, 1) := by decide +kernel
theorem dL_law_235 : decode cL_law 235 = .ok (.aload_n 0, 1) := by decide +kernel
theorem dL_law_236 : decode cL_law 236 = .ok (.iload 4, 2) := by decide +kernel
theorem dL_law_238 : decode cL_law 238 = .ok (.iconst 1, 1) := by decide +kernel
theorem dL_law_239 : decode cL_law 239 = .ok (.iadd, 1) := by decide +kernel
theorem dL_law_240 : decode cL_law 240 = .ok (.iaload, 1) := by decide +kernel
theorem dL_law_241 : decode cL_law 241 = .ok (.aload_n 0, 1) := by decide +kernel
theorem dL_law_242 : decode cL_law 242 = .ok (.iload 4, 2) := by decide +kernel
theorem dL_law_244 : decode cL_law 244 = .ok (.iconst 2, 1) := by decide +kernel
theorem dL_law_245 : decode cL_law 245 = .ok (.iadd, 1) := by decide +kernel
theorem dL_law_246 : decode cL_law 246 = .ok (.iaload, 1) := by decide +kernel
theorem dL_law_247 : decode cL_law 247 = .ok (.aload_n 0, 1) := by decide +kernel
theorem dL_law_248 : decode cL_law 248 = .ok (.iload 4, 2) := by decide +kernel
theorem dL_law_250 : decode cL_law 250 = .ok (.iconst 3, 1) := by decide +kernel
theorem dL_law_251 : decode cL_law 251 = .ok (.iadd, 1) := by decide +kernel
theorem dL_law_252 : decode cL_law 252 = .ok (.iaload, 1) := by decide +kernel
theorem dL_law_253 : decode cL_law 253 = .ok (.aload_n 0, 1) := by decide +kernel
theorem dL_law_254 : decode cL_law 254 = .ok (.iload 4, 2) := by decide +kernel
theorem dL_law_256 : decode cL_law 256 = .ok (.iconst 4, 1) := by decide +kernel
theorem dL_law_257 : decode cL_law 257 = .ok (.iadd, 1) := by decide +kernel
theorem dL_law_258 : decode cL_law 258 = .ok (.iaload, 1) := by decide +kernel
theorem dL_law_259 : decode cL_law 259 = .ok (.invokevirtual 43, 3) := by decide +kernel
theorem dL_law_262 : decode cL_law 262 = .ok (.aload_n 2, 1) := by decide +kernel
theorem dL_law_263 : decode cL_law 263 = .ok (.aload_n 0, 1) := by decide +kernel
theorem dL_law_264 : decode cL_law 264 = .ok (.iload 4, 2) := by decide +kernel
theorem dL_law_266 : decode cL_law 266 = .ok (.iconst 1, 1) := by decide +kernel
theorem dL_law_267 : decode cL_law 267 = .ok (.iadd, 1) := by decide +kernel
theorem dL_law_268 : decode cL_law 268 = .ok (.iaload, 1) := by decide +kernel
theorem dL_law_269 : decode cL_law 269 = .ok (.aload_n 0, 1) := by decide +kernel
theorem dL_law_270 : decode cL_law 270 = .ok (.iload 4, 2) := by decide +kernel
theorem dL_law_272 : decode cL_law 272 = .ok (.iconst 2, 1) := by decide +kernel
theorem dL_law_273 : decode cL_law 273 = .ok (.iadd, 1) := by decide +kernel
theorem dL_law_274 : decode cL_law 274 = .ok (.iaload, 1) := by decide +kernel
theorem dL_law_275 : decode cL_law 275 = .ok (.aload_n 0, 1) := by decide +kernel
theorem dL_law_276 : decode cL_law 276 = .ok (.iload 4, 2) := by decide +kernel
theorem dL_law_278 : decode cL_law 278 = .ok (.iconst 3, 1) := by decide +kernel
theorem dL_law_279 : decode cL_law 279 = .ok (.iadd, 1) := by decide +kernel
theorem dL_law_280 : decode cL_law 280 = .ok (.iaload, 1) := by decide +kernel
theorem dL_law_281 : decode cL_law 281 = .ok (.aload_n 0, 1) := by decide +kernel
theorem dL_law_282 : decode cL_law 282 = .ok (.iload 4, 2) := by decide +kernel
theorem dL_law_284 : decode cL_law 284 = .ok (.iconst 4, 1) := by decide +kernel
theorem dL_law_285 : decode cL_law 285 = .ok (.iadd, 1) := by decide +kernel
theorem dL_law_286 : decode cL_law 286 = .ok (.iaload, 1) := by decide +kernel
theorem dL_law_287 : decode cL_law 287 = .ok (.invokevirtual 47, 3) := by decide +kernel
theorem dL_law_290 : decode cL_law 290 = .ok (.if_icmp .eq 886, 3) := by decide +kernel
theorem dL_law_293 : decode cL_law 293 = .ok (.iconst 0, 1) := by decide +kernel
theorem dL_law_294 : decode cL_law 294 = .ok (.ireturn, 1) := by decide +kernel
theorem dL_law_295 : decode cL_law 295 = .ok (.aload_n 1, 1) := by decide +kernel
theorem dL_law_296 : decode cL_law 296 = .ok (.aload_n 0, 1) := by decide +kernel
theorem dL_law_297 : decode cL_law 297 = .ok (.iload 4, 2) := by decide +kernel
theorem dL_law_299 : decode cL_law 299 = .ok (.iconst 1, 1) := by decide +kernel
theorem dL_law_300 : decode cL_law 300 = .ok (.iadd, 1) := by decide +kernel
theorem dL_law_301 : decode cL_law 301 = .ok (.iaload, 1) := by decide +kernel
theorem dL_law_302 : decode cL_law 302 = .ok (.aload_n 0, 1) := by decide +kernel
theorem dL_law_303 : decode cL_law 303 = .ok (.iload 4, 2) := by decide +kernel
theorem dL_law_305 : decode cL_law 305 = .ok (.iconst 2, 1) := by decide +kernel
theorem dL_law_306 : decode cL_law 306 = .ok (.iadd, 1) := by decide +kernel
theorem dL_law_307 : decode cL_law 307 = .ok (.iaload, 1) := by decide +kernel
theorem dL_law_308 : decode cL_law 308 = .ok (.invokevirtual 48, 3) := by decide +kernel
theorem dL_law_311 : decode cL_law 311 = .ok (.aload_n 2, 1) := by decide +kernel
theorem dL_law_312 : decode cL_law 312 = .ok (.aload_n 0, 1) := by decide +kernel
theorem dL_law_313 : decode cL_law 313 = .ok (.iload 4, 2) := by decide +kernel
theorem dL_law_315 : decode cL_law 315 = .ok (.iconst 1, 1) := by decide +kernel
theorem dL_law_316 : decode cL_law 316 = .ok (.iadd, 1) := by decide +kernel
theorem dL_law_317 : decode cL_law 317 = .ok (.iaload, 1) := by decide +kernel
theorem dL_law_318 : decode cL_law 318 = .ok (.aload_n 0, 1) := by decide +kernel
theorem dL_law_319 : decode cL_law 319 = .ok (.iload 4, 2) := by decide +kernel
theorem dL_law_321 : decode cL_law 321 = .ok (.iconst 2, 1) := by decide +kernel
theorem dL_law_322 : decode cL_law 322 = .ok (.iadd, 1) := by decide +kernel
theorem dL_law_323 : decode cL_law 323 = .ok (.iaload, 1) := by decide +kernel
theorem dL_law_324 : decode cL_law 324 = .ok (.invokevirtual 51, 3) := by decide +kernel
theorem dL_law_327 : decode cL_law 327 = .ok (.if_icmp .eq 849, 3) := by decide +kernel
theorem dL_law_330 : decode cL_law 330 = .ok (.iconst 0, 1) := by decide +kernel
theorem dL_law_331 : decode cL_law 331 = .ok (.ireturn, 1) := by decide +kernel
theorem dL_law_332 : decode cL_law 332 = .ok (.aload_n 1, 1) := by decide +kernel
theorem dL_law_333 : decode cL_law 333 = .ok (.aload_n 0, 1) := by decide +kernel
theorem dL_law_334 : decode cL_law 334 = .ok (.iload 4, 2) := by decide +kernel
theorem dL_law_336 : decode cL_law 336 = .ok (.iconst 1, 1) := by decide +kernel
theorem dL_law_337 : decode cL_law 337 = .ok (.iadd, 1) := by decide +kernel
theorem dL_law_338 : decode cL_law 338 = .ok (.iaload, 1) := by decide +kernel
theorem dL_law_339 : decode cL_law 339 = .ok (.aload_n 0, 1) := by decide +kernel
theorem dL_law_340 : decode cL_law 340 = .ok (.iload 4, 2) := by decide +kernel
theorem dL_law_342 : decode cL_law 342 = .ok (.iconst 2, 1) := by decide +kernel
theorem dL_law_343 : decode cL_law 343 = .ok (.iadd, 1) := by decide +kernel
theorem dL_law_344 : decode cL_law 344 = .ok (.iaload, 1) := by decide +kernel
theorem dL_law_345 : decode cL_law 345 = .ok (.invokevirtual 52, 3) := by decide +kernel
theorem dL_law_348 : decode cL_law 348 = .ok (.aload_n 2, 1) := by decide +kernel
theorem dL_law_349 : decode cL_law 349 = .ok (.aload_n 0, 1) := by decide +kernel
theorem dL_law_350 : decode cL_law 350 = .ok (.iload 4, 2) := by decide +kernel
theorem dL_law_352 : decode cL_law 352 = .ok (.iconst 1, 1) := by decide +kernel
theorem dL_law_353 : decode cL_law 353 = .ok (.iadd, 1) := by decide +kernel
theorem dL_law_354 : decode cL_law 354 = .ok (.iaload, 1) := by decide +kernel
theorem dL_law_355 : decode cL_law 355 = .ok (.aload_n 0, 1) := by decide +kernel
theorem dL_law_356 : decode cL_law 356 = .ok (.iload 4, 2) := by decide +kernel
theorem dL_law_358 : decode cL_law 358 = .ok (.iconst 2, 1) := by decide +kernel
theorem dL_law_359 : decode cL_law 359 = .ok (.iadd, 1) := by decide +kernel
theorem dL_law_360 : decode cL_law 360 = .ok (.iaload, 1) := by decide +kernel
theorem dL_law_361 : decode cL_law 361 = .ok (.invokevirtual 55, 3) := by decide +kernel
theorem dL_law_364 : decode cL_law 364 = .ok (.if_icmp .eq 812, 3) := by decide +kernel
theorem dL_law_367 : decode cL_law 367 = .ok (.iconst 0, 1) := by decide +kernel
theorem dL_law_368 : decode cL_law 368 = .ok (.ireturn, 1) := by decide +kernel
theorem dL_law_369 : decode cL_law 369 = .ok (.aload_n 1, 1) := by decide +kernel
theorem dL_law_370 : decode cL_law 370 = .ok (.invokevirtual 56, 3) := by decide +kernel
theorem dL_law_373 : decode cL_law 373 = .ok (.aload_n 2, 1) := by decide +kernel
theorem dL_law_374 : decode cL_law 374 = .ok (.invokevirtual 60, 3) := by decide +kernel
theorem dL_law_377 : decode cL_law 377 = .ok (.if_icmp .eq 799, 3) := by decide +kernel
theorem dL_law_380 : decode cL_law 380 = .ok (.iconst 0, 1) := by decide +kernel
theorem dL_law_381 : decode cL_law 381 = .ok (.ireturn, 1) := by decide +kernel
theorem dL_law_382 : decode cL_law 382 = .ok (.aload_n 1, 1) := by decide +kernel
theorem dL_law_383 : decode cL_law 383 = .ok (.aload_n 0, 1) := by decide +kernel
theorem dL_law_384 : decode cL_law 384 = .ok (.iload 4, 2) := by decide +kernel
theorem dL_law_386 : decode cL_law 386 = .ok (.iconst 1, 1) := by decide +kernel
theorem dL_law_387 : decode cL_law 387 = .ok (.iadd, 1) := by decide +kernel
theorem dL_law_388 : decode cL_law 388 = .ok (.iaload, 1) := by decide +kernel
theorem dL_law_389 : decode cL_law 389 = .ok (.aload_n 0, 1) := by decide +kernel
theorem dL_law_390 : decode cL_law 390 = .ok (.iload 4, 2) := by decide +kernel
theorem dL_law_392 : decode cL_law 392 = .ok (.iconst 2, 1) := by decide +kernel
theorem dL_law_393 : decode cL_law 393 = .ok (.iadd, 1) := by decide +kernel
theorem dL_law_394 : decode cL_law 394 = .ok (.iaload, 1) := by decide +kernel
theorem dL_law_395 : decode cL_law 395 = .ok (.aload_n 0, 1) := by decide +kernel
theorem dL_law_396 : decode cL_law 396 = .ok (.iload 4, 2) := by decide +kernel
theorem dL_law_398 : decode cL_law 398 = .ok (.iconst 3, 1) := by decide +kernel
theorem dL_law_399 : decode cL_law 399 = .ok (.iadd, 1) := by decide +kernel
theorem dL_law_400 : decode cL_law 400 = .ok (.iaload, 1) := by decide +kernel
theorem dL_law_401 : decode cL_law 401 = .ok (.aload_n 0, 1) := by decide +kernel
theorem dL_law_402 : decode cL_law 402 = .ok (.iload 4, 2) := by decide +kernel
theorem dL_law_404 : decode cL_law 404 = .ok (.iconst 4, 1) := by decide +kernel
theorem dL_law_405 : decode cL_law 405 = .ok (.iadd, 1) := by decide +kernel
theorem dL_law_406 : decode cL_law 406 = .ok (.iaload, 1) := by decide +kernel
theorem dL_law_407 : decode cL_law 407 = .ok (.ifCond .eq 7, 3) := by decide +kernel
theorem dL_law_410 : decode cL_law 410 = .ok (.iconst 1, 1) := by decide +kernel
theorem dL_law_411 : decode cL_law 411 = .ok (.goto 4, 3) := by decide +kernel
theorem dL_law_414 : decode cL_law 414 = .ok (.iconst 0, 1) := by decide +kernel
theorem dL_law_415 : decode cL_law 415 = .ok (.invokevirtual 61, 3) := by decide +kernel
theorem dL_law_418 : decode cL_law 418 = .ok (.aload_n 2, 1) := by decide +kernel
theorem dL_law_419 : decode cL_law 419 = .ok (.aload_n 0, 1) := by decide +kernel
theorem dL_law_420 : decode cL_law 420 = .ok (.iload 4, 2) := by decide +kernel
theorem dL_law_422 : decode cL_law 422 = .ok (.iconst 1, 1) := by decide +kernel
theorem dL_law_423 : decode cL_law 423 = .ok (.iadd, 1) := by decide +kernel
theorem dL_law_424 : decode cL_law 424 = .ok (.iaload, 1) := by decide +kernel
theorem dL_law_425 : decode cL_law 425 = .ok (.aload_n 0, 1) := by decide +kernel
theorem dL_law_426 : decode cL_law 426 = .ok (.iload 4, 2) := by decide +kernel
theorem dL_law_428 : decode cL_law 428 = .ok (.iconst 2, 1) := by decide +kernel
theorem dL_law_429 : decode cL_law 429 = .ok (.iadd, 1) := by decide +kernel
theorem dL_law_430 : decode cL_law 430 = .ok (.iaload, 1) := by decide +kernel
theorem dL_law_431 : decode cL_law 431 = .ok (.aload_n 0, 1) := by decide +kernel
theorem dL_law_432 : decode cL_law 432 = .ok (.iload 4, 2) := by decide +kernel
theorem dL_law_434 : decode cL_law 434 = .ok (.iconst 3, 1) := by decide +kernel
theorem dL_law_435 : decode cL_law 435 = .ok (.iadd, 1) := by decide +kernel
theorem dL_law_436 : decode cL_law 436 = .ok (.iaload, 1) := by decide +kernel
theorem dL_law_437 : decode cL_law 437 = .ok (.aload_n 0, 1) := by decide +kernel
theorem dL_law_438 : decode cL_law 438 = .ok (.iload 4, 2) := by decide +kernel
theorem dL_law_440 : decode cL_law 440 = .ok (.iconst 4, 1) := by decide +kernel
theorem dL_law_441 : decode cL_law 441 = .ok (.iadd, 1) := by decide +kernel
theorem dL_law_442 : decode cL_law 442 = .ok (.iaload, 1) := by decide +kernel
theorem dL_law_443 : decode cL_law 443 = .ok (.ifCond .eq 7, 3) := by decide +kernel
theorem dL_law_446 : decode cL_law 446 = .ok (.iconst 1, 1) := by decide +kernel
theorem dL_law_447 : decode cL_law 447 = .ok (.goto 4, 3) := by decide +kernel
theorem dL_law_450 : decode cL_law 450 = .ok (.iconst 0, 1) := by decide +kernel
theorem dL_law_451 : decode cL_law 451 = .ok (.invokevirtual 65, 3) := by decide +kernel
theorem dL_law_454 : decode cL_law 454 = .ok (.if_icmp .eq 722, 3) := by decide +kernel
theorem dL_law_457 : decode cL_law 457 = .ok (.iconst 0, 1) := by decide +kernel
theorem dL_law_458 : decode cL_law 458 = .ok (.ireturn, 1) := by decide +kernel
theorem dL_law_459 : decode cL_law 459 = .ok (.aload_n 1, 1) := by decide +kernel
theorem dL_law_460 : decode cL_law 460 = .ok (.aload_n 0, 1) := by decide +kernel
theorem dL_law_461 : decode cL_law 461 = .ok (.iload 4, 2) := by decide +kernel
theorem dL_law_463 : decode cL_law 463 = .ok (.iconst 1, 1) := by decide +kernel
theorem dL_law_464 : decode cL_law 464 = .ok (.iadd, 1) := by decide +kernel
theorem dL_law_465 : decode cL_law 465 = .ok (.iaload, 1) := by decide +kernel
theorem dL_law_466 : decode cL_law 466 = .ok (.aload_n 0, 1) := by decide +kernel
theorem dL_law_467 : decode cL_law 467 = .ok (.iload 4, 2) := by decide +kernel
theorem dL_law_469 : decode cL_law 469 = .ok (.iconst 2, 1) := by decide +kernel
theorem dL_law_470 : decode cL_law 470 = .ok (.iadd, 1) := by decide +kernel
theorem dL_law_471 : decode cL_law 471 = .ok (.iaload, 1) := by decide +kernel
theorem dL_law_472 : decode cL_law 472 = .ok (.aload_n 0, 1) := by decide +kernel
theorem dL_law_473 : decode cL_law 473 = .ok (.iload 4, 2) := by decide +kernel
theorem dL_law_475 : decode cL_law 475 = .ok (.iconst 3, 1) := by decide +kernel
theorem dL_law_476 : decode cL_law 476 = .ok (.iadd, 1) := by decide +kernel
theorem dL_law_477 : decode cL_law 477 = .ok (.iaload, 1) := by decide +kernel
theorem dL_law_478 : decode cL_law 478 = .ok (.invokevirtual 66, 3) := by decide +kernel
theorem dL_law_481 : decode cL_law 481 = .ok (.aload_n 2, 1) := by decide +kernel
theorem dL_law_482 : decode cL_law 482 = .ok (.aload_n 0, 1) := by decide +kernel
theorem dL_law_483 : decode cL_law 483 = .ok (.iload 4, 2) := by decide +kernel
theorem dL_law_485 : decode cL_law 485 = .ok (.iconst 1, 1) := by decide +kernel
theorem dL_law_486 : decode cL_law 486 = .ok (.iadd, 1) := by decide +kernel
theorem dL_law_487 : decode cL_law 487 = .ok (.iaload, 1) := by decide +kernel
theorem dL_law_488 : decode cL_law 488 = .ok (.aload_n 0, 1) := by decide +kernel
theorem dL_law_489 : decode cL_law 489 = .ok (.iload 4, 2) := by decide +kernel
theorem dL_law_491 : decode cL_law 491 = .ok (.iconst 2, 1) := by decide +kernel
theorem dL_law_492 : decode cL_law 492 = .ok (.iadd, 1) := by decide +kernel
theorem dL_law_493 : decode cL_law 493 = .ok (.iaload, 1) := by decide +kernel
theorem dL_law_494 : decode cL_law 494 = .ok (.aload_n 0, 1) := by decide +kernel
theorem dL_law_495 : decode cL_law 495 = .ok (.iload 4, 2) := by decide +kernel
theorem dL_law_497 : decode cL_law 497 = .ok (.iconst 3, 1) := by decide +kernel
theorem dL_law_498 : decode cL_law 498 = .ok (.iadd, 1) := by decide +kernel
theorem dL_law_499 : decode cL_law 499 = .ok (.iaload, 1) := by decide +kernel
theorem dL_law_500 : decode cL_law 500 = .ok (.invokevirtual 69, 3) := by decide +kernel
theorem dL_law_503 : decode cL_law 503 = .ok (.if_icmp .eq 673, 3) := by decide +kernel
theorem dL_law_506 : decode cL_law 506 = .ok (.iconst 0, 1) := by decide +kernel
theorem dL_law_507 : decode cL_law 507 = .ok (.ireturn, 1) := by decide +kernel
theorem dL_law_508 : decode cL_law 508 = .ok (.aload_n 1, 1) := by decide +kernel
theorem dL_law_509 : decode cL_law 509 = .ok (.aload_n 0, 1) := by decide +kernel
theorem dL_law_510 : decode cL_law 510 = .ok (.iload 4, 2) := by decide +kernel
theorem dL_law_512 : decode cL_law 512 = .ok (.iconst 1, 1) := by decide +kernel
theorem dL_law_513 : decode cL_law 513 = .ok (.iadd, 1) := by decide +kernel
theorem dL_law_514 : decode cL_law 514 = .ok (.iaload, 1) := by decide +kernel
theorem dL_law_515 : decode cL_law 515 = .ok (.aload_n 0, 1) := by decide +kernel
theorem dL_law_516 : decode cL_law 516 = .ok (.iload 4, 2) := by decide +kernel
theorem dL_law_518 : decode cL_law 518 = .ok (.iconst 2, 1) := by decide +kernel
theorem dL_law_519 : decode cL_law 519 = .ok (.iadd, 1) := by decide +kernel
theorem dL_law_520 : decode cL_law 520 = .ok (.iaload, 1) := by decide +kernel
theorem dL_law_521 : decode cL_law 521 = .ok (.aload_n 0, 1) := by decide +kernel
theorem dL_law_522 : decode cL_law 522 = .ok (.iload 4, 2) := by decide +kernel
theorem dL_law_524 : decode cL_law 524 = .ok (.iconst 3, 1) := by decide +kernel
theorem dL_law_525 : decode cL_law 525 = .ok (.iadd, 1) := by decide +kernel
theorem dL_law_526 : decode cL_law 526 = .ok (.iaload, 1) := by decide +kernel
theorem dL_law_527 : decode cL_law 527 = .ok (.aload_n 0, 1) := by decide +kernel
theorem dL_law_528 : decode cL_law 528 = .ok (.iload 4, 2) := by decide +kernel
theorem dL_law_530 : decode cL_law 530 = .ok (.iconst 4, 1) := by decide +kernel
theorem dL_law_531 : decode cL_law 531 = .ok (.iadd, 1) := by decide +kernel
theorem dL_law_532 : decode cL_law 532 = .ok (.iaload, 1) := by decide +kernel
theorem dL_law_533 : decode cL_law 533 = .ok (.invokevirtual 70, 3) := by decide +kernel
theorem dL_law_536 : decode cL_law 536 = .ok (.aload_n 2, 1) := by decide +kernel
theorem dL_law_537 : decode cL_law 537 = .ok (.aload_n 0, 1) := by decide +kernel
theorem dL_law_538 : decode cL_law 538 = .ok (.iload 4, 2) := by decide +kernel
theorem dL_law_540 : decode cL_law 540 = .ok (.iconst 1, 1) := by decide +kernel
theorem dL_law_541 : decode cL_law 541 = .ok (.iadd, 1) := by decide +kernel
theorem dL_law_542 : decode cL_law 542 = .ok (.iaload, 1) := by decide +kernel
theorem dL_law_543 : decode cL_law 543 = .ok (.aload_n 0, 1) := by decide +kernel
theorem dL_law_544 : decode cL_law 544 = .ok (.iload 4, 2) := by decide +kernel
theorem dL_law_546 : decode cL_law 546 = .ok (.iconst 2, 1) := by decide +kernel
theorem dL_law_547 : decode cL_law 547 = .ok (.iadd, 1) := by decide +kernel
theorem dL_law_548 : decode cL_law 548 = .ok (.iaload, 1) := by decide +kernel
theorem dL_law_549 : decode cL_law 549 = .ok (.aload_n 0, 1) := by decide +kernel
theorem dL_law_550 : decode cL_law 550 = .ok (.iload 4, 2) := by decide +kernel
theorem dL_law_552 : decode cL_law 552 = .ok (.iconst 3, 1) := by decide +kernel
theorem dL_law_553 : decode cL_law 553 = .ok (.iadd, 1) := by decide +kernel
theorem dL_law_554 : decode cL_law 554 = .ok (.iaload, 1) := by decide +kernel
theorem dL_law_555 : decode cL_law 555 = .ok (.aload_n 0, 1) := by decide +kernel
theorem dL_law_556 : decode cL_law 556 = .ok (.iload 4, 2) := by decide +kernel
theorem dL_law_558 : decode cL_law 558 = .ok (.iconst 4, 1) := by decide +kernel
theorem dL_law_559 : decode cL_law 559 = .ok (.iadd, 1) := by decide +kernel
theorem dL_law_560 : decode cL_law 560 = .ok (.iaload, 1) := by decide +kernel
theorem dL_law_561 : decode cL_law 561 = .ok (.invokevirtual 74, 3) := by decide +kernel
theorem dL_law_564 : decode cL_law 564 = .ok (.if_icmp .eq 612, 3) := by decide +kernel
theorem dL_law_567 : decode cL_law 567 = .ok (.iconst 0, 1) := by decide +kernel
theorem dL_law_568 : decode cL_law 568 = .ok (.ireturn, 1) := by decide +kernel
theorem dL_law_569 : decode cL_law 569 = .ok (.aload_n 1, 1) := by decide +kernel
theorem dL_law_570 : decode cL_law 570 = .ok (.aload_n 0, 1) := by decide +kernel
theorem dL_law_571 : decode cL_law 571 = .ok (.iload 4, 2) := by decide +kernel
theorem dL_law_573 : decode cL_law 573 = .ok (.iconst 1, 1) := by decide +kernel
theorem dL_law_574 : decode cL_law 574 = .ok (.iadd, 1) := by decide +kernel
theorem dL_law_575 : decode cL_law 575 = .ok (.iaload, 1) := by decide +kernel
theorem dL_law_576 : decode cL_law 576 = .ok (.aload_n 0, 1) := by decide +kernel
theorem dL_law_577 : decode cL_law 577 = .ok (.iload 4, 2) := by decide +kernel
theorem dL_law_579 : decode cL_law 579 = .ok (.iconst 2, 1) := by decide +kernel
theorem dL_law_580 : decode cL_law 580 = .ok (.iadd, 1) := by decide +kernel
theorem dL_law_581 : decode cL_law 581 = .ok (.iaload, 1) := by decide +kernel
theorem dL_law_582 : decode cL_law 582 = .ok (.invokevirtual 75, 3) := by decide +kernel
theorem dL_law_585 : decode cL_law 585 = .ok (.aload_n 2, 1) := by decide +kernel
theorem dL_law_586 : decode cL_law 586 = .ok (.aload_n 0, 1) := by decide +kernel
theorem dL_law_587 : decode cL_law 587 = .ok (.iload 4, 2) := by decide +kernel
theorem dL_law_589 : decode cL_law 589 = .ok (.iconst 1, 1) := by decide +kernel
theorem dL_law_590 : decode cL_law 590 = .ok (.iadd, 1) := by decide +kernel
theorem dL_law_591 : decode cL_law 591 = .ok (.iaload, 1) := by decide +kernel
theorem dL_law_592 : decode cL_law 592 = .ok (.aload_n 0, 1) := by decide +kernel
theorem dL_law_593 : decode cL_law 593 = .ok (.iload 4, 2) := by decide +kernel
theorem dL_law_595 : decode cL_law 595 = .ok (.iconst 2, 1) := by decide +kernel
theorem dL_law_596 : decode cL_law 596 = .ok (.iadd, 1) := by decide +kernel
theorem dL_law_597 : decode cL_law 597 = .ok (.iaload, 1) := by decide +kernel
theorem dL_law_598 : decode cL_law 598 = .ok (.invokevirtual 78, 3) := by decide +kernel
theorem dL_law_601 : decode cL_law 601 = .ok (.if_icmp .eq 575, 3) := by decide +kernel
theorem dL_law_604 : decode cL_law 604 = .ok (.iconst 0, 1) := by decide +kernel
theorem dL_law_605 : decode cL_law 605 = .ok (.ireturn, 1) := by decide +kernel
theorem dL_law_606 : decode cL_law 606 = .ok (.aload_n 1, 1) := by decide +kernel
theorem dL_law_607 : decode cL_law 607 = .ok (.aload_n 0, 1) := by decide +kernel
theorem dL_law_608 : decode cL_law 608 = .ok (.iload 4, 2) := by decide +kernel
theorem dL_law_610 : decode cL_law 610 = .ok (.iconst 1, 1) := by decide +kernel
theorem dL_law_611 : decode cL_law 611 = .ok (.iadd, 1) := by decide +kernel
theorem dL_law_612 : decode cL_law 612 = .ok (.iaload, 1) := by decide +kernel
theorem dL_law_613 : decode cL_law 613 = .ok (.aload_n 0, 1) := by decide +kernel
theorem dL_law_614 : decode cL_law 614 = .ok (.iload 4, 2) := by decide +kernel
theorem dL_law_616 : decode cL_law 616 = .ok (.iconst 2, 1) := by decide +kernel
theorem dL_law_617 : decode cL_law 617 = .ok (.iadd, 1) := by decide +kernel
theorem dL_law_618 : decode cL_law 618 = .ok (.iaload, 1) := by decide +kernel
theorem dL_law_619 : decode cL_law 619 = .ok (.invokevirtual 79, 3) := by decide +kernel
theorem dL_law_622 : decode cL_law 622 = .ok (.aload_n 2, 1) := by decide +kernel
theorem dL_law_623 : decode cL_law 623 = .ok (.aload_n 0, 1) := by decide +kernel
theorem dL_law_624 : decode cL_law 624 = .ok (.iload 4, 2) := by decide +kernel
theorem dL_law_626 : decode cL_law 626 = .ok (.iconst 1, 1) := by decide +kernel
theorem dL_law_627 : decode cL_law 627 = .ok (.iadd, 1) := by decide +kernel
theorem dL_law_628 : decode cL_law 628 = .ok (.iaload, 1) := by decide +kernel
theorem dL_law_629 : decode cL_law 629 = .ok (.aload_n 0, 1) := by decide +kernel
theorem dL_law_630 : decode cL_law 630 = .ok (.iload 4, 2) := by decide +kernel
theorem dL_law_632 : decode cL_law 632 = .ok (.iconst 2, 1) := by decide +kernel
theorem dL_law_633 : decode cL_law 633 = .ok (.iadd, 1) := by decide +kernel
theorem dL_law_634 : decode cL_law 634 = .ok (.iaload, 1) := by decide +kernel
theorem dL_law_635 : decode cL_law 635 = .ok (.invokevirtual 82, 3) := by decide +kernel
theorem dL_law_638 : decode cL_law 638 = .ok (.if_icmp .eq 538, 3) := by decide +kernel
theorem dL_law_641 : decode cL_law 641 = .ok (.iconst 0, 1) := by decide +kernel
theorem dL_law_642 : decode cL_law 642 = .ok (.ireturn, 1) := by decide +kernel
theorem dL_law_643 : decode cL_law 643 = .ok (.aload_n 1, 1) := by decide +kernel
theorem dL_law_644 : decode cL_law 644 = .ok (.aload_n 0, 1) := by decide +kernel
theorem dL_law_645 : decode cL_law 645 = .ok (.iload 4, 2) := by decide +kernel
theorem dL_law_647 : decode cL_law 647 = .ok (.iconst 1, 1) := by decide +kernel
theorem dL_law_648 : decode cL_law 648 = .ok (.iadd, 1) := by decide +kernel
theorem dL_law_649 : decode cL_law 649 = .ok (.iaload, 1) := by decide +kernel
theorem dL_law_650 : decode cL_law 650 = .ok (.aload_n 0, 1) := by decide +kernel
theorem dL_law_651 : decode cL_law 651 = .ok (.iload 4, 2) := by decide +kernel
theorem dL_law_653 : decode cL_law 653 = .ok (.iconst 2, 1) := by decide +kernel
theorem dL_law_654 : decode cL_law 654 = .ok (.iadd, 1) := by decide +kernel
theorem dL_law_655 : decode cL_law 655 = .ok (.iaload, 1) := by decide +kernel
theorem dL_law_656 : decode cL_law 656 = .ok (.aload_n 0, 1) := by decide +kernel
theorem dL_law_657 : decode cL_law 657 = .ok (.iload 4, 2) := by decide +kernel
theorem dL_law_659 : decode cL_law 659 = .ok (.iconst 3, 1) := by decide +kernel
theorem dL_law_660 : decode cL_law 660 = .ok (.iadd, 1) := by decide +kernel
theorem dL_law_661 : decode cL_law 661 = .ok (.iaload, 1) := by decide +kernel
theorem dL_law_662 : decode cL_law 662 = .ok (.aload_n 3, 1) := by decide +kernel
theorem dL_law_663 : decode cL_law 663 = .ok (.invokestatic 83, 3) := by decide +kernel
theorem dL_law_666 : decode cL_law 666 = .ok (.istore 5, 2) := by decide +kernel
theorem dL_law_668 : decode cL_law 668 = .ok (.aload_n 2, 1) := by decide +kernel
theorem dL_law_669 : decode cL_law 669 = .ok (.aload_n 0, 1) := by decide +kernel
theorem dL_law_670 : decode cL_law 670 = .ok (.iload 4, 2) := by decide +kernel
theorem dL_law_672 : decode cL_law 672 = .ok (.iconst 1, 1) := by decide +kernel
theorem dL_law_673 : decode cL_law 673 = .ok (.iadd, 1) := by decide +kernel
theorem dL_law_674 : decode cL_law 674 = .ok (.iaload, 1) := by decide +kernel
theorem dL_law_675 : decode cL_law 675 = .ok (.aload_n 0, 1) := by decide +kernel
theorem dL_law_676 : decode cL_law 676 = .ok (.iload 4, 2) := by decide +kernel
theorem dL_law_678 : decode cL_law 678 = .ok (.iconst 2, 1) := by decide +kernel
theorem dL_law_679 : decode cL_law 679 = .ok (.iadd, 1) := by decide +kernel
theorem dL_law_680 : decode cL_law 680 = .ok (.iaload, 1) := by decide +kernel
theorem dL_law_681 : decode cL_law 681 = .ok (.aload_n 0, 1) := by decide +kernel
theorem dL_law_682 : decode cL_law 682 = .ok (.iload 4, 2) := by decide +kernel
theorem dL_law_684 : decode cL_law 684 = .ok (.iconst 3, 1) := by decide +kernel
theorem dL_law_685 : decode cL_law 685 = .ok (.iadd, 1) := by decide +kernel
theorem dL_law_686 : decode cL_law 686 = .ok (.iaload, 1) := by decide +kernel
theorem dL_law_687 : decode cL_law 687 = .ok (.invokevirtual 88, 3) := by decide +kernel
theorem dL_law_690 : decode cL_law 690 = .ok (.istore 6, 2) := by decide +kernel
theorem dL_law_692 : decode cL_law 692 = .ok (.aload_n 2, 1) := by decide +kernel
theorem dL_law_693 : decode cL_law 693 = .ok (.invokevirtual 89, 3) := by decide +kernel
theorem dL_law_696 : decode cL_law 696 = .ok (.iload 5, 2) := by decide +kernel
theorem dL_law_698 : decode cL_law 698 = .ok (.if_icmp .eq 5, 3) := by decide +kernel
theorem dL_law_701 : decode cL_law 701 = .ok (.iconst 0, 1) := by decide +kernel
theorem dL_law_702 : decode cL_law 702 = .ok (.ireturn, 1) := by decide +kernel
theorem dL_law_703 : decode cL_law 703 = .ok (.iload 5, 2) := by decide +kernel
theorem dL_law_705 : decode cL_law 705 = .ok (.ifCond .ne 15, 3) := by decide +kernel
theorem dL_law_708 : decode cL_law 708 = .ok (.aload_n 3, 1) := by decide +kernel
theorem dL_law_709 : decode cL_law 709 = .ok (.iconst 0, 1) := by decide +kernel
theorem dL_law_710 : decode cL_law 710 = .ok (.laload, 1) := by decide +kernel
theorem dL_law_711 : decode cL_law 711 = .ok (.iload 6, 2) := by decide +kernel
theorem dL_law_713 : decode cL_law 713 = .ok (.i2l, 1) := by decide +kernel
theorem dL_law_714 : decode cL_law 714 = .ok (.lcmp, 1) := by decide +kernel
theorem dL_law_715 : decode cL_law 715 = .ok (.ifCond .eq 5, 3) := by decide +kernel
theorem dL_law_718 : decode cL_law 718 = .ok (.iconst 0, 1) := by decide +kernel
theorem dL_law_719 : decode cL_law 719 = .ok (.ireturn, 1) := by decide +kernel
theorem dL_law_720 : decode cL_law 720 = .ok (.goto 456, 3) := by decide +kernel
theorem dL_law_723 : decode cL_law 723 = .ok (.aload_n 1, 1) := by decide +kernel
theorem dL_law_724 : decode cL_law 724 = .ok (.aload_n 0, 1) := by decide +kernel
theorem dL_law_725 : decode cL_law 725 = .ok (.iload 4, 2) := by decide +kernel
theorem dL_law_727 : decode cL_law 727 = .ok (.iconst 1, 1) := by decide +kernel
theorem dL_law_728 : decode cL_law 728 = .ok (.iadd, 1) := by decide +kernel
theorem dL_law_729 : decode cL_law 729 = .ok (.iaload, 1) := by decide +kernel
theorem dL_law_730 : decode cL_law 730 = .ok (.aload_n 0, 1) := by decide +kernel
theorem dL_law_731 : decode cL_law 731 = .ok (.iload 4, 2) := by decide +kernel
theorem dL_law_733 : decode cL_law 733 = .ok (.iconst 2, 1) := by decide +kernel
theorem dL_law_734 : decode cL_law 734 = .ok (.iadd, 1) := by decide +kernel
theorem dL_law_735 : decode cL_law 735 = .ok (.iaload, 1) := by decide +kernel
theorem dL_law_736 : decode cL_law 736 = .ok (.invokevirtual 92, 3) := by decide +kernel
theorem dL_law_739 : decode cL_law 739 = .ok (.aload_n 2, 1) := by decide +kernel
theorem dL_law_740 : decode cL_law 740 = .ok (.aload_n 0, 1) := by decide +kernel
theorem dL_law_741 : decode cL_law 741 = .ok (.iload 4, 2) := by decide +kernel
theorem dL_law_743 : decode cL_law 743 = .ok (.iconst 1, 1) := by decide +kernel
theorem dL_law_744 : decode cL_law 744 = .ok (.iadd, 1) := by decide +kernel
theorem dL_law_745 : decode cL_law 745 = .ok (.iaload, 1) := by decide +kernel
theorem dL_law_746 : decode cL_law 746 = .ok (.aload_n 0, 1) := by decide +kernel
theorem dL_law_747 : decode cL_law 747 = .ok (.iload 4, 2) := by decide +kernel
theorem dL_law_749 : decode cL_law 749 = .ok (.iconst 2, 1) := by decide +kernel
theorem dL_law_750 : decode cL_law 750 = .ok (.iadd, 1) := by decide +kernel
theorem dL_law_751 : decode cL_law 751 = .ok (.iaload, 1) := by decide +kernel
theorem dL_law_752 : decode cL_law 752 = .ok (.invokevirtual 95, 3) := by decide +kernel
theorem dL_law_755 : decode cL_law 755 = .ok (.if_icmp .eq 421, 3) := by decide +kernel
theorem dL_law_758 : decode cL_law 758 = .ok (.iconst 0, 1) := by decide +kernel
theorem dL_law_759 : decode cL_law 759 = .ok (.ireturn, 1) := by decide +kernel
theorem dL_law_760 : decode cL_law 760 = .ok (.aload_n 1, 1) := by decide +kernel
theorem dL_law_761 : decode cL_law 761 = .ok (.aload_n 0, 1) := by decide +kernel
theorem dL_law_762 : decode cL_law 762 = .ok (.iload 4, 2) := by decide +kernel
theorem dL_law_764 : decode cL_law 764 = .ok (.iconst 1, 1) := by decide +kernel
theorem dL_law_765 : decode cL_law 765 = .ok (.iadd, 1) := by decide +kernel
theorem dL_law_766 : decode cL_law 766 = .ok (.iaload, 1) := by decide +kernel
theorem dL_law_767 : decode cL_law 767 = .ok (.aload_n 0, 1) := by decide +kernel
theorem dL_law_768 : decode cL_law 768 = .ok (.iload 4, 2) := by decide +kernel
theorem dL_law_770 : decode cL_law 770 = .ok (.iconst 2, 1) := by decide +kernel
theorem dL_law_771 : decode cL_law 771 = .ok (.iadd, 1) := by decide +kernel
theorem dL_law_772 : decode cL_law 772 = .ok (.iaload, 1) := by decide +kernel
theorem dL_law_773 : decode cL_law 773 = .ok (.aload_n 0, 1) := by decide +kernel
theorem dL_law_774 : decode cL_law 774 = .ok (.iload 4, 2) := by decide +kernel
theorem dL_law_776 : decode cL_law 776 = .ok (.iconst 3, 1) := by decide +kernel
theorem dL_law_777 : decode cL_law 777 = .ok (.iadd, 1) := by decide +kernel
theorem dL_law_778 : decode cL_law 778 = .ok (.iaload, 1) := by decide +kernel
theorem dL_law_779 : decode cL_law 779 = .ok (.invokevirtual 96, 3) := by decide +kernel
theorem dL_law_782 : decode cL_law 782 = .ok (.aload_n 2, 1) := by decide +kernel
theorem dL_law_783 : decode cL_law 783 = .ok (.aload_n 0, 1) := by decide +kernel
theorem dL_law_784 : decode cL_law 784 = .ok (.iload 4, 2) := by decide +kernel
theorem dL_law_786 : decode cL_law 786 = .ok (.iconst 1, 1) := by decide +kernel
theorem dL_law_787 : decode cL_law 787 = .ok (.iadd, 1) := by decide +kernel
theorem dL_law_788 : decode cL_law 788 = .ok (.iaload, 1) := by decide +kernel
theorem dL_law_789 : decode cL_law 789 = .ok (.aload_n 0, 1) := by decide +kernel
theorem dL_law_790 : decode cL_law 790 = .ok (.iload 4, 2) := by decide +kernel
theorem dL_law_792 : decode cL_law 792 = .ok (.iconst 2, 1) := by decide +kernel
theorem dL_law_793 : decode cL_law 793 = .ok (.iadd, 1) := by decide +kernel
theorem dL_law_794 : decode cL_law 794 = .ok (.iaload, 1) := by decide +kernel
theorem dL_law_795 : decode cL_law 795 = .ok (.aload_n 0, 1) := by decide +kernel
theorem dL_law_796 : decode cL_law 796 = .ok (.iload 4, 2) := by decide +kernel
theorem dL_law_798 : decode cL_law 798 = .ok (.iconst 3, 1) := by decide +kernel
theorem dL_law_799 : decode cL_law 799 = .ok (.iadd, 1) := by decide +kernel
theorem dL_law_800 : decode cL_law 800 = .ok (.iaload, 1) := by decide +kernel
theorem dL_law_801 : decode cL_law 801 = .ok (.invokevirtual 99, 3) := by decide +kernel
theorem dL_law_804 : decode cL_law 804 = .ok (.if_icmp .eq 372, 3) := by decide +kernel
theorem dL_law_807 : decode cL_law 807 = .ok (.iconst 0, 1) := by decide +kernel
theorem dL_law_808 : decode cL_law 808 = .ok (.ireturn, 1) := by decide +kernel
theorem dL_law_809 : decode cL_law 809 = .ok (.aload_n 1, 1) := by decide +kernel
theorem dL_law_810 : decode cL_law 810 = .ok (.aload_n 0, 1) := by decide +kernel
theorem dL_law_811 : decode cL_law 811 = .ok (.iload 4, 2) := by decide +kernel
theorem dL_law_813 : decode cL_law 813 = .ok (.iconst 1, 1) := by decide +kernel
theorem dL_law_814 : decode cL_law 814 = .ok (.iadd, 1) := by decide +kernel
theorem dL_law_815 : decode cL_law 815 = .ok (.iaload, 1) := by decide +kernel
theorem dL_law_816 : decode cL_law 816 = .ok (.aload_n 0, 1) := by decide +kernel
theorem dL_law_817 : decode cL_law 817 = .ok (.iload 4, 2) := by decide +kernel
theorem dL_law_819 : decode cL_law 819 = .ok (.iconst 2, 1) := by decide +kernel
theorem dL_law_820 : decode cL_law 820 = .ok (.iadd, 1) := by decide +kernel
theorem dL_law_821 : decode cL_law 821 = .ok (.iaload, 1) := by decide +kernel
theorem dL_law_822 : decode cL_law 822 = .ok (.aload_n 0, 1) := by decide +kernel
theorem dL_law_823 : decode cL_law 823 = .ok (.iload 4, 2) := by decide +kernel
theorem dL_law_825 : decode cL_law 825 = .ok (.iconst 3, 1) := by decide +kernel
theorem dL_law_826 : decode cL_law 826 = .ok (.iadd, 1) := by decide +kernel
theorem dL_law_827 : decode cL_law 827 = .ok (.iaload, 1) := by decide +kernel
theorem dL_law_828 : decode cL_law 828 = .ok (.aload_n 3, 1) := by decide +kernel
theorem dL_law_829 : decode cL_law 829 = .ok (.invokestatic 100, 3) := by decide +kernel
theorem dL_law_832 : decode cL_law 832 = .ok (.istore 5, 2) := by decide +kernel
theorem dL_law_834 : decode cL_law 834 = .ok (.aload_n 2, 1) := by decide +kernel
theorem dL_law_835 : decode cL_law 835 = .ok (.aload_n 0, 1) := by decide +kernel
theorem dL_law_836 : decode cL_law 836 = .ok (.iload 4, 2) := by decide +kernel
theorem dL_law_838 : decode cL_law 838 = .ok (.iconst 1, 1) := by decide +kernel
theorem dL_law_839 : decode cL_law 839 = .ok (.iadd, 1) := by decide +kernel
theorem dL_law_840 : decode cL_law 840 = .ok (.iaload, 1) := by decide +kernel
theorem dL_law_841 : decode cL_law 841 = .ok (.aload_n 0, 1) := by decide +kernel
theorem dL_law_842 : decode cL_law 842 = .ok (.iload 4, 2) := by decide +kernel
theorem dL_law_844 : decode cL_law 844 = .ok (.iconst 2, 1) := by decide +kernel
theorem dL_law_845 : decode cL_law 845 = .ok (.iadd, 1) := by decide +kernel
theorem dL_law_846 : decode cL_law 846 = .ok (.iaload, 1) := by decide +kernel
theorem dL_law_847 : decode cL_law 847 = .ok (.aload_n 0, 1) := by decide +kernel
theorem dL_law_848 : decode cL_law 848 = .ok (.iload 4, 2) := by decide +kernel
theorem dL_law_850 : decode cL_law 850 = .ok (.iconst 3, 1) := by decide +kernel
theorem dL_law_851 : decode cL_law 851 = .ok (.iadd, 1) := by decide +kernel
theorem dL_law_852 : decode cL_law 852 = .ok (.iaload, 1) := by decide +kernel
theorem dL_law_853 : decode cL_law 853 = .ok (.invokevirtual 102, 3) := by decide +kernel
theorem dL_law_856 : decode cL_law 856 = .ok (.lstore 6, 2) := by decide +kernel
theorem dL_law_858 : decode cL_law 858 = .ok (.aload_n 2, 1) := by decide +kernel
theorem dL_law_859 : decode cL_law 859 = .ok (.invokevirtual 89, 3) := by decide +kernel
theorem dL_law_862 : decode cL_law 862 = .ok (.iload 5, 2) := by decide +kernel
theorem dL_law_864 : decode cL_law 864 = .ok (.if_icmp .eq 5, 3) := by decide +kernel
theorem dL_law_867 : decode cL_law 867 = .ok (.iconst 0, 1) := by decide +kernel
theorem dL_law_868 : decode cL_law 868 = .ok (.ireturn, 1) := by decide +kernel
theorem dL_law_869 : decode cL_law 869 = .ok (.iload 5, 2) := by decide +kernel
theorem dL_law_871 : decode cL_law 871 = .ok (.ifCond .ne 14, 3) := by decide +kernel
theorem dL_law_874 : decode cL_law 874 = .ok (.aload_n 3, 1) := by decide +kernel
theorem dL_law_875 : decode cL_law 875 = .ok (.iconst 0, 1) := by decide +kernel
theorem dL_law_876 : decode cL_law 876 = .ok (.laload, 1) := by decide +kernel
theorem dL_law_877 : decode cL_law 877 = .ok (.lload 6, 2) := by decide +kernel
theorem dL_law_879 : decode cL_law 879 = .ok (.lcmp, 1) := by decide +kernel
theorem dL_law_880 : decode cL_law 880 = .ok (.ifCond .eq 5, 3) := by decide +kernel
theorem dL_law_883 : decode cL_law 883 = .ok (.iconst 0, 1) := by decide +kernel
theorem dL_law_884 : decode cL_law 884 = .ok (.ireturn, 1) := by decide +kernel
theorem dL_law_885 : decode cL_law 885 = .ok (.goto 291, 3) := by decide +kernel
theorem dL_law_888 : decode cL_law 888 = .ok (.aload_n 1, 1) := by decide +kernel
theorem dL_law_889 : decode cL_law 889 = .ok (.aload_n 0, 1) := by decide +kernel
theorem dL_law_890 : decode cL_law 890 = .ok (.iload 4, 2) := by decide +kernel
theorem dL_law_892 : decode cL_law 892 = .ok (.iconst 1, 1) := by decide +kernel
theorem dL_law_893 : decode cL_law 893 = .ok (.iadd, 1) := by decide +kernel
theorem dL_law_894 : decode cL_law 894 = .ok (.iaload, 1) := by decide +kernel
theorem dL_law_895 : decode cL_law 895 = .ok (.aload_n 0, 1) := by decide +kernel
theorem dL_law_896 : decode cL_law 896 = .ok (.iload 4, 2) := by decide +kernel
theorem dL_law_898 : decode cL_law 898 = .ok (.iconst 2, 1) := by decide +kernel
theorem dL_law_899 : decode cL_law 899 = .ok (.iadd, 1) := by decide +kernel
theorem dL_law_900 : decode cL_law 900 = .ok (.iaload, 1) := by decide +kernel
theorem dL_law_901 : decode cL_law 901 = .ok (.aload_n 0, 1) := by decide +kernel
theorem dL_law_902 : decode cL_law 902 = .ok (.iload 4, 2) := by decide +kernel
theorem dL_law_904 : decode cL_law 904 = .ok (.iconst 3, 1) := by decide +kernel
theorem dL_law_905 : decode cL_law 905 = .ok (.iadd, 1) := by decide +kernel
theorem dL_law_906 : decode cL_law 906 = .ok (.iaload, 1) := by decide +kernel
theorem dL_law_907 : decode cL_law 907 = .ok (.aload_n 3, 1) := by decide +kernel
theorem dL_law_908 : decode cL_law 908 = .ok (.invokestatic 103, 3) := by decide +kernel
theorem dL_law_911 : decode cL_law 911 = .ok (.istore 5, 2) := by decide +kernel
theorem dL_law_913 : decode cL_law 913 = .ok (.aload_n 2, 1) := by decide +kernel
theorem dL_law_914 : decode cL_law 914 = .ok (.aload_n 0, 1) := by decide +kernel
theorem dL_law_915 : decode cL_law 915 = .ok (.iload 4, 2) := by decide +kernel
theorem dL_law_917 : decode cL_law 917 = .ok (.iconst 1, 1) := by decide +kernel
theorem dL_law_918 : decode cL_law 918 = .ok (.iadd, 1) := by decide +kernel
theorem dL_law_919 : decode cL_law 919 = .ok (.iaload, 1) := by decide +kernel
theorem dL_law_920 : decode cL_law 920 = .ok (.aload_n 0, 1) := by decide +kernel
theorem dL_law_921 : decode cL_law 921 = .ok (.iload 4, 2) := by decide +kernel
theorem dL_law_923 : decode cL_law 923 = .ok (.iconst 2, 1) := by decide +kernel
theorem dL_law_924 : decode cL_law 924 = .ok (.iadd, 1) := by decide +kernel
theorem dL_law_925 : decode cL_law 925 = .ok (.iaload, 1) := by decide +kernel
theorem dL_law_926 : decode cL_law 926 = .ok (.aload_n 0, 1) := by decide +kernel
theorem dL_law_927 : decode cL_law 927 = .ok (.iload 4, 2) := by decide +kernel
theorem dL_law_929 : decode cL_law 929 = .ok (.iconst 3, 1) := by decide +kernel
theorem dL_law_930 : decode cL_law 930 = .ok (.iadd, 1) := by decide +kernel
theorem dL_law_931 : decode cL_law 931 = .ok (.iaload, 1) := by decide +kernel
theorem dL_law_932 : decode cL_law 932 = .ok (.invokevirtual 105, 3) := by decide +kernel
theorem dL_law_935 : decode cL_law 935 = .ok (.lstore 6, 2) := by decide +kernel
theorem dL_law_937 : decode cL_law 937 = .ok (.aload_n 2, 1) := by decide +kernel
theorem dL_law_938 : decode cL_law 938 = .ok (.invokevirtual 89, 3) := by decide +kernel
theorem dL_law_941 : decode cL_law 941 = .ok (.iload 5, 2) := by decide +kernel
theorem dL_law_943 : decode cL_law 943 = .ok (.if_icmp .eq 5, 3) := by decide +kernel
theorem dL_law_946 : decode cL_law 946 = .ok (.iconst 0, 1) := by decide +kernel
theorem dL_law_947 : decode cL_law 947 = .ok (.ireturn, 1) := by decide +kernel
theorem dL_law_948 : decode cL_law 948 = .ok (.iload 5, 2) := by decide +kernel
theorem dL_law_950 : decode cL_law 950 = .ok (.ifCond .ne 14, 3) := by decide +kernel
theorem dL_law_953 : decode cL_law 953 = .ok (.aload_n 3, 1) := by decide +kernel
theorem dL_law_954 : decode cL_law 954 = .ok (.iconst 0, 1) := by decide +kernel
theorem dL_law_955 : decode cL_law 955 = .ok (.laload, 1) := by decide +kernel
theorem dL_law_956 : decode cL_law 956 = .ok (.lload 6, 2) := by decide +kernel
theorem dL_law_958 : decode cL_law 958 = .ok (.lcmp, 1) := by decide +kernel
theorem dL_law_959 : decode cL_law 959 = .ok (.ifCond .eq 5, 3) := by decide +kernel
theorem dL_law_962 : decode cL_law 962 = .ok (.iconst 0, 1) := by decide +kernel
theorem dL_law_963 : decode cL_law 963 = .ok (.ireturn, 1) := by decide +kernel
theorem dL_law_964 : decode cL_law 964 = .ok (.goto 212, 3) := by decide +kernel
theorem dL_law_967 : decode cL_law 967 = .ok (.aload_n 1, 1) := by decide +kernel
theorem dL_law_968 : decode cL_law 968 = .ok (.aload_n 0, 1) := by decide +kernel
theorem dL_law_969 : decode cL_law 969 = .ok (.iload 4, 2) := by decide +kernel
theorem dL_law_971 : decode cL_law 971 = .ok (.iconst 1, 1) := by decide +kernel
theorem dL_law_972 : decode cL_law 972 = .ok (.iadd, 1) := by decide +kernel
theorem dL_law_973 : decode cL_law 973 = .ok (.iaload, 1) := by decide +kernel
theorem dL_law_974 : decode cL_law 974 = .ok (.aload_n 0, 1) := by decide +kernel
theorem dL_law_975 : decode cL_law 975 = .ok (.iload 4, 2) := by decide +kernel
theorem dL_law_977 : decode cL_law 977 = .ok (.iconst 2, 1) := by decide +kernel
theorem dL_law_978 : decode cL_law 978 = .ok (.iadd, 1) := by decide +kernel
theorem dL_law_979 : decode cL_law 979 = .ok (.iaload, 1) := by decide +kernel
theorem dL_law_980 : decode cL_law 980 = .ok (.invokevirtual 106, 3) := by decide +kernel
theorem dL_law_983 : decode cL_law 983 = .ok (.aload_n 2, 1) := by decide +kernel
theorem dL_law_984 : decode cL_law 984 = .ok (.aload_n 0, 1) := by decide +kernel
theorem dL_law_985 : decode cL_law 985 = .ok (.iload 4, 2) := by decide +kernel
theorem dL_law_987 : decode cL_law 987 = .ok (.iconst 1, 1) := by decide +kernel
theorem dL_law_988 : decode cL_law 988 = .ok (.iadd, 1) := by decide +kernel
theorem dL_law_989 : decode cL_law 989 = .ok (.iaload, 1) := by decide +kernel
theorem dL_law_990 : decode cL_law 990 = .ok (.aload_n 0, 1) := by decide +kernel
theorem dL_law_991 : decode cL_law 991 = .ok (.iload 4, 2) := by decide +kernel
theorem dL_law_993 : decode cL_law 993 = .ok (.iconst 2, 1) := by decide +kernel
theorem dL_law_994 : decode cL_law 994 = .ok (.iadd, 1) := by decide +kernel
theorem dL_law_995 : decode cL_law 995 = .ok (.iaload, 1) := by decide +kernel
theorem dL_law_996 : decode cL_law 996 = .ok (.invokevirtual 109, 3) := by decide +kernel
theorem dL_law_999 : decode cL_law 999 = .ok (.if_icmp .eq 177, 3) := by decide +kernel
theorem dL_law_1002 : decode cL_law 1002 = .ok (.iconst 0, 1) := by decide +kernel
theorem dL_law_1003 : decode cL_law 1003 = .ok (.ireturn, 1) := by decide +kernel
theorem dL_law_1004 : decode cL_law 1004 = .ok (.aload_n 1, 1) := by decide +kernel
theorem dL_law_1005 : decode cL_law 1005 = .ok (.aload_n 0, 1) := by decide +kernel
theorem dL_law_1006 : decode cL_law 1006 = .ok (.iload 4, 2) := by decide +kernel
theorem dL_law_1008 : decode cL_law 1008 = .ok (.iconst 1, 1) := by decide +kernel
theorem dL_law_1009 : decode cL_law 1009 = .ok (.iadd, 1) := by decide +kernel
theorem dL_law_1010 : decode cL_law 1010 = .ok (.iaload, 1) := by decide +kernel
theorem dL_law_1011 : decode cL_law 1011 = .ok (.aload_n 0, 1) := by decide +kernel
theorem dL_law_1012 : decode cL_law 1012 = .ok (.iload 4, 2) := by decide +kernel
theorem dL_law_1014 : decode cL_law 1014 = .ok (.iconst 2, 1) := by decide +kernel
theorem dL_law_1015 : decode cL_law 1015 = .ok (.iadd, 1) := by decide +kernel
theorem dL_law_1016 : decode cL_law 1016 = .ok (.iaload, 1) := by decide +kernel
theorem dL_law_1017 : decode cL_law 1017 = .ok (.aload_n 3, 1) := by decide +kernel
theorem dL_law_1018 : decode cL_law 1018 = .ok (.invokestatic 110, 3) := by decide +kernel
theorem dL_law_1021 : decode cL_law 1021 = .ok (.istore 5, 2) := by decide +kernel
theorem dL_law_1023 : decode cL_law 1023 = .ok (.aload_n 2, 1) := by decide +kernel
theorem dL_law_1024 : decode cL_law 1024 = .ok (.aload_n 0, 1) := by decide +kernel
theorem dL_law_1025 : decode cL_law 1025 = .ok (.iload 4, 2) := by decide +kernel
theorem dL_law_1027 : decode cL_law 1027 = .ok (.iconst 1, 1) := by decide +kernel
theorem dL_law_1028 : decode cL_law 1028 = .ok (.iadd, 1) := by decide +kernel
theorem dL_law_1029 : decode cL_law 1029 = .ok (.iaload, 1) := by decide +kernel
theorem dL_law_1030 : decode cL_law 1030 = .ok (.aload_n 0, 1) := by decide +kernel
theorem dL_law_1031 : decode cL_law 1031 = .ok (.iload 4, 2) := by decide +kernel
theorem dL_law_1033 : decode cL_law 1033 = .ok (.iconst 2, 1) := by decide +kernel
theorem dL_law_1034 : decode cL_law 1034 = .ok (.iadd, 1) := by decide +kernel
theorem dL_law_1035 : decode cL_law 1035 = .ok (.iaload, 1) := by decide +kernel
theorem dL_law_1036 : decode cL_law 1036 = .ok (.invokevirtual 113, 3) := by decide +kernel
theorem dL_law_1039 : decode cL_law 1039 = .ok (.istore 6, 2) := by decide +kernel
theorem dL_law_1041 : decode cL_law 1041 = .ok (.aload_n 2, 1) := by decide +kernel
theorem dL_law_1042 : decode cL_law 1042 = .ok (.invokevirtual 89, 3) := by decide +kernel
theorem dL_law_1045 : decode cL_law 1045 = .ok (.iload 5, 2) := by decide +kernel
theorem dL_law_1047 : decode cL_law 1047 = .ok (.if_icmp .eq 5, 3) := by decide +kernel
theorem dL_law_1050 : decode cL_law 1050 = .ok (.iconst 0, 1) := by decide +kernel
theorem dL_law_1051 : decode cL_law 1051 = .ok (.ireturn, 1) := by decide +kernel
theorem dL_law_1052 : decode cL_law 1052 = .ok (.iload 5, 2) := by decide +kernel
theorem dL_law_1054 : decode cL_law 1054 = .ok (.ifCond .ne 15, 3) := by decide +kernel
theorem dL_law_1057 : decode cL_law 1057 = .ok (.aload_n 3, 1) := by decide +kernel
theorem dL_law_1058 : decode cL_law 1058 = .ok (.iconst 0, 1) := by decide +kernel
theorem dL_law_1059 : decode cL_law 1059 = .ok (.laload, 1) := by decide +kernel
theorem dL_law_1060 : decode cL_law 1060 = .ok (.iload 6, 2) := by decide +kernel
theorem dL_law_1062 : decode cL_law 1062 = .ok (.i2l, 1) := by decide +kernel
theorem dL_law_1063 : decode cL_law 1063 = .ok (.lcmp, 1) := by decide +kernel
theorem dL_law_1064 : decode cL_law 1064 = .ok (.ifCond .eq 5, 3) := by decide +kernel
theorem dL_law_1067 : decode cL_law 1067 = .ok (.iconst 0, 1) := by decide +kernel
theorem dL_law_1068 : decode cL_law 1068 = .ok (.ireturn, 1) := by decide +kernel
theorem dL_law_1069 : decode cL_law 1069 = .ok (.goto 107, 3) := by decide +kernel
theorem dL_law_1072 : decode cL_law 1072 = .ok (.aload_n 1, 1) := by decide +kernel
theorem dL_law_1073 : decode cL_law 1073 = .ok (.aload_n 0, 1) := by decide +kernel
theorem dL_law_1074 : decode cL_law 1074 = .ok (.iload 4, 2) := by decide +kernel
theorem dL_law_1076 : decode cL_law 1076 = .ok (.iconst 1, 1) := by decide +kernel
theorem dL_law_1077 : decode cL_law 1077 = .ok (.iadd, 1) := by decide +kernel
theorem dL_law_1078 : decode cL_law 1078 = .ok (.iaload, 1) := by decide +kernel
theorem dL_law_1079 : decode cL_law 1079 = .ok (.aload_n 0, 1) := by decide +kernel
theorem dL_law_1080 : decode cL_law 1080 = .ok (.iload 4, 2) := by decide +kernel
theorem dL_law_1082 : decode cL_law 1082 = .ok (.iconst 2, 1) := by decide +kernel
theorem dL_law_1083 : decode cL_law 1083 = .ok (.iadd, 1) := by decide +kernel
theorem dL_law_1084 : decode cL_law 1084 = .ok (.iaload, 1) := by decide +kernel
theorem dL_law_1085 : decode cL_law 1085 = .ok (.aload_n 0, 1) := by decide +kernel
theorem dL_law_1086 : decode cL_law 1086 = .ok (.iload 4, 2) := by decide +kernel
theorem dL_law_1088 : decode cL_law 1088 = .ok (.iconst 3, 1) := by decide +kernel
theorem dL_law_1089 : decode cL_law 1089 = .ok (.iadd, 1) := by decide +kernel
theorem dL_law_1090 : decode cL_law 1090 = .ok (.iaload, 1) := by decide +kernel
theorem dL_law_1091 : decode cL_law 1091 = .ok (.aload_n 3, 1) := by decide +kernel
theorem dL_law_1092 : decode cL_law 1092 = .ok (.invokestatic 114, 3) := by decide +kernel
theorem dL_law_1095 : decode cL_law 1095 = .ok (.istore 5, 2) := by decide +kernel
theorem dL_law_1097 : decode cL_law 1097 = .ok (.aload_n 2, 1) := by decide +kernel
theorem dL_law_1098 : decode cL_law 1098 = .ok (.aload_n 0, 1) := by decide +kernel
theorem dL_law_1099 : decode cL_law 1099 = .ok (.iload 4, 2) := by decide +kernel
theorem dL_law_1101 : decode cL_law 1101 = .ok (.iconst 1, 1) := by decide +kernel
theorem dL_law_1102 : decode cL_law 1102 = .ok (.iadd, 1) := by decide +kernel
theorem dL_law_1103 : decode cL_law 1103 = .ok (.iaload, 1) := by decide +kernel
theorem dL_law_1104 : decode cL_law 1104 = .ok (.aload_n 0, 1) := by decide +kernel
theorem dL_law_1105 : decode cL_law 1105 = .ok (.iload 4, 2) := by decide +kernel
theorem dL_law_1107 : decode cL_law 1107 = .ok (.iconst 2, 1) := by decide +kernel
theorem dL_law_1108 : decode cL_law 1108 = .ok (.iadd, 1) := by decide +kernel
theorem dL_law_1109 : decode cL_law 1109 = .ok (.iaload, 1) := by decide +kernel
theorem dL_law_1110 : decode cL_law 1110 = .ok (.aload_n 0, 1) := by decide +kernel
theorem dL_law_1111 : decode cL_law 1111 = .ok (.iload 4, 2) := by decide +kernel
theorem dL_law_1113 : decode cL_law 1113 = .ok (.iconst 3, 1) := by decide +kernel
theorem dL_law_1114 : decode cL_law 1114 = .ok (.iadd, 1) := by decide +kernel
theorem dL_law_1115 : decode cL_law 1115 = .ok (.iaload, 1) := by decide +kernel
theorem dL_law_1116 : decode cL_law 1116 = .ok (.invokevirtual 116, 3) := by decide +kernel
theorem dL_law_1119 : decode cL_law 1119 = .ok (.lstore 6, 2) := by decide +kernel
theorem dL_law_1121 : decode cL_law 1121 = .ok (.aload_n 2, 1) := by decide +kernel
theorem dL_law_1122 : decode cL_law 1122 = .ok (.invokevirtual 89, 3) := by decide +kernel
theorem dL_law_1125 : decode cL_law 1125 = .ok (.iload 5, 2) := by decide +kernel
theorem dL_law_1127 : decode cL_law 1127 = .ok (.if_icmp .eq 5, 3) := by decide +kernel
theorem dL_law_1130 : decode cL_law 1130 = .ok (.iconst 0, 1) := by decide +kernel
theorem dL_law_1131 : decode cL_law 1131 = .ok (.ireturn, 1) := by decide +kernel
theorem dL_law_1132 : decode cL_law 1132 = .ok (.iload 5, 2) := by decide +kernel
theorem dL_law_1134 : decode cL_law 1134 = .ok (.ifCond .ne 14, 3) := by decide +kernel
theorem dL_law_1137 : decode cL_law 1137 = .ok (.aload_n 3, 1) := by decide +kernel
theorem dL_law_1138 : decode cL_law 1138 = .ok (.iconst 0, 1) := by decide +kernel
theorem dL_law_1139 : decode cL_law 1139 = .ok (.laload, 1) := by decide +kernel
theorem dL_law_1140 : decode cL_law 1140 = .ok (.lload 6, 2) := by decide +kernel
theorem dL_law_1142 : decode cL_law 1142 = .ok (.lcmp, 1) := by decide +kernel
theorem dL_law_1143 : decode cL_law 1143 = .ok (.ifCond .eq 5, 3) := by decide +kernel
theorem dL_law_1146 : decode cL_law 1146 = .ok (.iconst 0, 1) := by decide +kernel
theorem dL_law_1147 : decode cL_law 1147 = .ok (.ireturn, 1) := by decide +kernel
theorem dL_law_1148 : decode cL_law 1148 = .ok (.goto 28, 3) := by decide +kernel
theorem dL_law_1151 : decode cL_law 1151 = .ok (.aload_n 1, 1) := by decide +kernel
theorem dL_law_1152 : decode cL_law 1152 = .ok (.aload_n 0, 1) := by decide +kernel
theorem dL_law_1153 : decode cL_law 1153 = .ok (.iload 4, 2) := by decide +kernel
theorem dL_law_1155 : decode cL_law 1155 = .ok (.iconst 1, 1) := by decide +kernel
theorem dL_law_1156 : decode cL_law 1156 = .ok (.iadd, 1) := by decide +kernel
theorem dL_law_1157 : decode cL_law 1157 = .ok (.iaload, 1) := by decide +kernel
theorem dL_law_1158 : decode cL_law 1158 = .ok (.invokevirtual 117, 3) := by decide +kernel
theorem dL_law_1161 : decode cL_law 1161 = .ok (.aload_n 2, 1) := by decide +kernel
theorem dL_law_1162 : decode cL_law 1162 = .ok (.aload_n 0, 1) := by decide +kernel
theorem dL_law_1163 : decode cL_law 1163 = .ok (.iload 4, 2) := by decide +kernel
theorem dL_law_1165 : decode cL_law 1165 = .ok (.iconst 1, 1) := by decide +kernel
theorem dL_law_1166 : decode cL_law 1166 = .ok (.iadd, 1) := by decide +kernel
theorem dL_law_1167 : decode cL_law 1167 = .ok (.iaload, 1) := by decide +kernel
theorem dL_law_1168 : decode cL_law 1168 = .ok (.invokevirtual 121, 3) := by decide +kernel
theorem dL_law_1171 : decode cL_law 1171 = .ok (.if_icmp .eq 5, 3) := by decide +kernel
theorem dL_law_1174 : decode cL_law 1174 = .ok (.iconst 0, 1) := by decide +kernel
theorem dL_law_1175 : decode cL_law 1175 = .ok (.ireturn, 1) := by decide +kernel
theorem dL_law_1176 : decode cL_law 1176 = .ok (.iinc 4 6, 3) := by decide +kernel
theorem dL_law_1179 : decode cL_law 1179 = .ok (.goto (-1156), 3) := by decide +kernel
theorem dL_law_1182 : decode cL_law 1182 = .ok (.iconst 1, 1) := by decide +kernel
theorem dL_law_1183 : decode cL_law 1183 = .ok (.ireturn, 1) := by decide +kernel
end
section
/-! ===== BEGIN words of one list among another's, by their places ===== -/
theorem goodIn_r {big : List Cond} (ws : List Cond) (ps : List Nat) (hp : ws = ps.filterMap (fun i => big[i]?)) (h : ws.all goodWord = true) : GoodIn big ws := by
  intro w hw
  have h1 := List.all_eq_true.mp h w hw
  rw [hp] at hw
  obtain ⟨i, -, hi⟩ := List.mem_filterMap.mp hw
  have hm : w ∈ big := by first | exact List.mem_of_getElem? hi | exact List.getElem?_mem hi
  exact ⟨hm, good_of_word h1⟩
theorem goodIn_app {big a b : List Cond} (ha : GoodIn big a) (hb : GoodIn big b) : GoodIn big (a ++ b) := fun w h => (List.mem_append.mp h).elim (ha w) (hb w)
theorem goodIn_ca {big a b : List Cond} {c : Cond} (ha : GoodIn big (c :: a)) (hb : GoodIn big b) : GoodIn big (c :: (a ++ b)) := fun w h => (List.mem_cons.mp h).elim (fun e => ha w (List.mem_cons.mpr (Or.inl e))) (fun h => (List.mem_append.mp h).elim (fun h => ha w (List.mem_cons.mpr (Or.inr h))) (hb w))
theorem goodIn_sub {big ws : List Cond} (hm : ∀ w ∈ ws, w ∈ big) (h : ws.all goodWord = true) : GoodIn big ws := fun w hw => ⟨hm w hw, good_of_word (List.all_eq_true.mp h w hw)⟩
/-! ===== END ===== -/

theorem vr_outer (c : ClassId) (N h0 : Nat) : ∀ i : Nat, Jvm.Free.Multi.outerC c N h0 i = arrV c N (fun j => va_rf (if j < i then some (h0 + 1 + j) else none))
  | 0 => by
    show ({ cls := c, slots := Array.replicate N .null, vm := .none } : Cell) = _
    rw [arrV_new]
    refine congrArg (arrV c N) (funext fun j => ?_)
    simp [va_rf]
  | i + 1 => by
    show (Jvm.Free.Multi.outerC c N h0 i).setSlot i (.ref (h0 + 1 + i)) = _
    rw [vr_outer c N h0 i, arrV_store]
    refine congrArg (arrV c N) (funext fun j => ?_)
    by_cases e : j = i
    · subst e
      simp [updV, va_rf]
    · by_cases h : j < i
      · simp [updV, e, h, Nat.lt_succ_of_lt h]
      · simp [updV, e, h, show ¬ j < i + 1 by omega]
/-! ===== BEGIN exceptions that leave a method, and their catching by the caller (launches without stack traces) ===== -/
section VXA
/-! The laws vx_back, vx_callV, vx_callS, vx_callSW, vx_throw0, vx_throwS follow proofs of the library, with one case more: JvmDerived/Free/Laws.lean (Back.of_free), Shelf42/LK1.lean (callV, callS), Shelf/KitTraced.lean (throwNew0V, throwNewS). -/
/-- where a method has thrown q: the class by its name, the cell, what was written, the world -/
def vx_T (XC : String → State → State → Prop) (st : State) (q : Addr) (t : State) (mc ms : Nat) (free : Addr → Prop) : Prop :=
  ∃ (E : String) (ce : Cell) (L : List Loc), XC E st t ∧ t.heap[q]? = some ce ∧ ce.vm = .none ∧ st.vm.findClass E = some ce.cls ∧ st.WarmedH t.vm ∧ st.sameButNew ({ t with vm := st.vm } : State) L mc ms ∧ ∀ z ∈ L, free z.base
def vx_Q (Qc : Array Value → State → Outcome → State → Prop) (XC : String → State → State → Prop) (mc ms : Nat) (free : Addr → Prop) : Array Value → State → Outcome → State → Prop := fun a st o t =>
  (Qc a st o t ∧ ∃ L, FrameEnd st o t L mc ms ∧ ∀ q ∈ L, free q.base) ∨ ∃ q, o = .threw q ∧ vx_T XC st q t mc ms free
/-- a callee that returns or throws -/
def vx_Met (l : Launch) (y : MethodName) (ws : List Cond) (rm : Room) (Pc : Array Value → State → Prop) (Qc : Array Value → State → Outcome → State → Prop) (XC : String → State → State → Prop) (mc ms : Nat) (free : Addr → Prop) : Prop :=
  MetFree l y (headSpec ws rm) Pc (fun _ _ _ _ _ => True) (vx_Q Qc XC mc ms free)
def vx_Post (XC : String → State → State → Prop) (mc ms : Nat) (free : Addr → Prop) : Pt → Array Value → Addr → Pt → Prop := fun A a q B =>
  ∃ (g : JFrame) (mk : MethodId) (t : State) (L : List Loc) (E : String) (ce : Cell), B.U.heap = t.heap ∧ B.U.vm = t.vm ∧ XC E (A.U.calling g mk a) t ∧ t.heap[q]? = some ce ∧ ce.vm = .none ∧ A.U.vm.findClass E = some ce.cls ∧ B.locs = A.locs ++ L ∧ (∀ z ∈ L, free z.base) ∧ B.cells = A.cells + mc ∧ B.slots = A.slots + ms
def vx_Back (l : Launch) (R : Room) (p : Program) (e : Env) (below : List Frame) (s : State) (sargs : Array Value) (y : MethodName) (len W9 : Nat)
    (Pre : Pt → Array Value → Prop) (Post : Pt → Array Value → Option Value → Pt → Prop) (PostX : Pt → Array Value → Addr → Pt → Prop) : Prop :=
  ∀ (m : MethodId) (meth : Method) (c : Code) (A : Pt) (g : JFrame) (ig : Instr) (mk : MethodId) (a : Array Value),
    Stand p l e R s m sargs below meth c A.U A.locs A.cells A.slots → g.method = m → g.locals.size = c.maxLocals → decode c.code g.pc = .ok (ig, len) →
    2 * g.monitorRoom + (g.stack.map fun v => v.category).sum ≤ W9 → A.U.methodNamed? y = some mk → Pre A a →
    (∃ (v : Option Value) (B : Pt), Stand p l e R s m sargs below meth c B.U B.locs B.cells B.slots ∧ Post A a v B ∧
      Steps p.tables e below (doInvoke e (A.U.setTop g) [] mk a).1 (B.U.setTop { g with pc := g.pc + len, stack := v.toList ++ g.stack })) ∨
    (∃ (q : Addr) (B : Pt), Stand p l e R s m sargs below meth c B.U B.locs B.cells B.slots ∧ PostX A a q B ∧
      Steps p.tables e below (doInvoke e (A.U.setTop g) [] mk a).1 ((B.U.setTop g).pushFrame (.throwing q)))
section Payer
variable {l : Launch} {R : Room} {p : Program} {e : Env} {below : List Frame} {s : State} {sargs : Array Value} {y : MethodName} {len W9 : Nat}
theorem vx_back {ws : List Cond} {rm : Room} {Pc : Array Value → State → Prop} {Qc : Array Value → State → Outcome → State → Prop} {XC : String → State → State → Prop} {mc ms : Nat} {free : Addr → Prop} {bytes : ByteArray} {maxL : Nat} {ret : Option FieldType}
    (hM : vx_Met l y ws rm Pc Qc XC mc ms free) (hblind : FrameBlind Pc) (hrc : rm.cells = mc) (hrs : rm.slots = ms)
    (hframes : rm.frames + 1 ≤ R.frames) (hlocals : W9 + (maxL + 11) + rm.locals ≤ R.locals)
    (hws : ∀ w ∈ ws, ∀ a' U, s.WarmedH U.vm → w.before a' U = true) (hcode : Cond.code y bytes maxL ret ∈ ws) (hinit : ∀ a' U, s.WarmedH U.vm → (Cond.initialized y.cls).before a' U = true) :
    vx_Back l R p e below s sargs y len W9 (PreOf R mc ms Pc) (PostOf Qc mc ms free) (vx_Post XC mc ms free) := by
  intro m meth c A g ig mk a X hg hsize hdg hW hn hp
  have h1 : (headSpec ws rm).pre.before a A.U = true := atoms_intro fun w hw => hws w hw _ _ X.warmed
  have h2 : (Cond.code y bytes maxL ret).before a A.U = true := hws _ hcode _ _ X.warmed
  have h3 : (Cond.initialized y.cls).before a A.U = true := hinit _ _ X.warmed
  have h4 : A.cells + (headSpec ws rm).room.cells ≤ R.cells := by rw [show (headSpec ws rm).room.cells = mc from hrc]; exact hp.1
  have h5 : A.slots + (headSpec ws rm).room.slots ≤ R.slots := by rw [show (headSpec ws rm).room.slots = ms from hrs]; exact hp.2.1
  have hPc : Pc a (A.U.calling g mk a) := hblind _ _ _ _ hp.2.2
  obtain ⟨U, Ls, c0, s0⟩ := A
  dsimp only [Pt.U, Pt.locs, Pt.cells, Pt.slots] at h1 h2 h3 h4 h5 X hn hPc ⊢
  obtain ⟨methY, cY, hmY, hcY, -, hlY, -, -, -, -⟩ := Cond.code_spec hn h2
  obtain ⟨kY, hkY, -⟩ := className_of_methodNamed hn
  have hinitY : kY.init = .initialized := Cond.initialized_spec (findClass_of_methodNamed hn) hkY h3
  have h : At U g.method c below := by rw [hg]; exact X.here
  have hlocals9 : W9 + (maxL + 11) + (headSpec ws rm).room.locals ≤ R.locals := hlocals
  have happ : (headSpec ws rm).appliesLoose y e.platform (U.calling g mk a) = true :=
    Spec.appliesLoose_calling (g := g) h hdg hn hkY hinitY
      (X.room_calling (g := g) (R' := (headSpec ws rm).room) hsize hmY hcY hframes (by rw [hlY]; omega) h4 h5) h1
  obtain ⟨mid, hmid⟩ := h.above
  have hfr : (U.setTop g).frames = (.java g :: mid) ++ below := by rw [State.frames_setTop' g h.top, hmid]; rfl
  obtain ⟨o, s₂, hsteps, -, hend, hq⟩ := Steps.callFree hM p X.admits X.cas X.clock (acts := []) hfr happ hPc trivial
  have hq' : vx_Q Qc XC mc ms free a (U.calling g mk a) o s₂ := hq
  rw [State.frames_setTop' g h.top] at hend
  obtain ⟨g₀, hg0⟩ := Option.isSome_iff_exists.mp h.top
  obtain ⟨r, hr⟩ := State.topJava?_eq_some.mp hg0
  have hr' : (({ U with heap := s₂.heap, slotsUsed := s₂.slotsUsed } : State).setVm s₂.vm).frames = .java g₀ :: r := hr
  rcases hq' with ⟨hqc, L, hfe, hL⟩ | ⟨q, rfl, E, ce, L, hx, hce, hcv, hcl, hW₂, hsm, hL⟩
  · obtain ⟨⟨v, rfl⟩, hW₂, e2, q2, q3, q4, q5, q6⟩ := id hfe
    have e3 : s₂ = ({ (U.calling g mk a).setFrames s₂.frames with heap := s₂.heap, slotsUsed := s₂.slotsUsed } : State).setVm s₂.vm := by
      have : s₂ = ({ s₂ with vm := (U.calling g mk a).vm } : State).setVm s₂.vm := rfl
      rw [e2] at this
      exact this
    obtain ⟨c₂, i₂, len₂, hc₂, hd₂, hf₂⟩ := hend
    have hW' : U.WarmedH s₂.vm := hW₂
    have hcc : c₂ = c := by
      have h1 : s₂.code? g.method = U.code? g.method := by
        rw [State.code?_eq, State.code?_eq, hW'.alike.method?]
      exact Option.some.inj (hc₂.symm.trans (h1.trans h.code))
    subst hcc
    have hlen : len₂ = len := by rw [hdg] at hd₂; cases hd₂; rfl
    subst hlen
    have hs₂ : s₂ = (({ U with heap := s₂.heap, slotsUsed := s₂.slotsUsed } : State).setVm s₂.vm).setTop { g with pc := g.pc + len₂, stack := v.toList ++ g.stack } := by
      refine e3.trans ?_
      rw [hf₂, State.calling_eq h.top, State.setFrames_setFrames, State.setTop_of_frames _ hr', hr]
      rfl
    have hsame : U.sameButNew ({ U with heap := s₂.heap, slotsUsed := s₂.slotsUsed } : State) L mc ms := by
      refine ⟨?_, q2, q3, q4, q5, q6⟩
      obtain ⟨t, ht, -⟩ := State.frames_cons hr
      show ({ U with heap := s₂.heap, slotsUsed := s₂.slotsUsed } : State) = { U.setFrames U.frames with heap := s₂.heap, slotsUsed := s₂.slotsUsed }
      rw [State.setFrames_self ht]
    subst hg
    refine Or.inl ⟨v, ⟨(({ U with heap := s₂.heap, slotsUsed := s₂.slotsUsed } : State).setVm s₂.vm), Ls ++ L, c0 + mc, s0 + ms⟩,
      ⟨X.admits, X.cas, X.clock, X.frames, X.room, X.hears, X.method, X.code, (X.here.setHeapUsed s₂.heap s₂.slotsUsed).setVm hW'.alike, X.tail, State.WarmedH.trans X.warmed hW', X.limits, X.bytes, X.same.trans (hsame.setVm s.vm)⟩,
      ⟨g, mk, s₂, L, rfl, rfl, hqc, rfl, hL, rfl, rfl⟩, ?_⟩
    show Steps p.tables e below _ ((({ U with heap := s₂.heap, slotsUsed := s₂.slotsUsed } : State).setVm s₂.vm).setTop { g with pc := g.pc + len₂, stack := v.toList ++ g.stack })
    rw [← hs₂]
    exact hsteps
  · obtain ⟨e2, q2, q3, q4, q5, q6⟩ := id hsm
    have e3 : s₂ = ({ (U.calling g mk a).setFrames s₂.frames with heap := s₂.heap, slotsUsed := s₂.slotsUsed } : State).setVm s₂.vm := by
      have : s₂ = ({ s₂ with vm := (U.calling g mk a).vm } : State).setVm s₂.vm := rfl
      rw [e2] at this
      exact this
    have hf₂ : s₂.frames = .throwing q :: .java g :: U.frames.tail := hend
    have hW' : U.WarmedH s₂.vm := hW₂
    have hs₂ : s₂ = ((({ U with heap := s₂.heap, slotsUsed := s₂.slotsUsed } : State).setVm s₂.vm).setTop g).pushFrame (.throwing q) := by
      refine e3.trans ?_
      rw [hf₂, State.calling_eq h.top, State.setFrames_setFrames, State.pushFrame, State.frames_setTop _ hr', State.setTop_of_frames _ hr', State.setFrames_setFrames, hr]
      rfl
    have hsame : U.sameButNew ({ U with heap := s₂.heap, slotsUsed := s₂.slotsUsed } : State) L mc ms := by
      refine ⟨?_, q2, q3, q4, q5, q6⟩
      obtain ⟨t, ht, -⟩ := State.frames_cons hr
      show ({ U with heap := s₂.heap, slotsUsed := s₂.slotsUsed } : State) = { U.setFrames U.frames with heap := s₂.heap, slotsUsed := s₂.slotsUsed }
      rw [State.setFrames_self ht]
    subst hg
    refine Or.inr ⟨q, ⟨(({ U with heap := s₂.heap, slotsUsed := s₂.slotsUsed } : State).setVm s₂.vm), Ls ++ L, c0 + mc, s0 + ms⟩,
      ⟨X.admits, X.cas, X.clock, X.frames, X.room, X.hears, X.method, X.code, (X.here.setHeapUsed s₂.heap s₂.slotsUsed).setVm hW'.alike, X.tail, State.WarmedH.trans X.warmed hW', X.limits, X.bytes, X.same.trans (hsame.setVm s.vm)⟩,
      ⟨g, mk, s₂, L, E, ce, rfl, rfl, hx, hce, hcv, hcl, rfl, hL, rfl, rfl⟩, ?_⟩
    show Steps p.tables e below _ (((({ U with heap := s₂.heap, slotsUsed := s₂.slotsUsed } : State).setVm s₂.vm).setTop g).pushFrame (.throwing q))
    rw [← hs₂]
    exact hsteps
end Payer
section Calls
variable {p : Program} {l : Launch} {e : Env} {R : Room} {s : State} {m : MethodId} {args : Array Value} {below : List Frame} {meth : Method} {c : Code} {T : State} {locs : List Loc} {cells slots : Nat}
theorem vx_callV (X : Stand p l e R s m args below meth c T locs cells slots) (hexec : p.tables.exec = Jvm.exec) {own C : String} {index : Nat} {y : MethodName} {bytes : ByteArray} {maxL : Nat} {ret : Option FieldType}
    (hown : s.vm.findClass own = some m.cls) (hlink : (Cond.methodLink own index y).before args s = true) (hinst : (Cond.instanceMethod y).before args s = true) (hsel : (Cond.selects C y y).before args s = true)
    (hcode : (Cond.code y bytes maxL ret).before args s = true) (hy : y.cls ≠ "java/lang/invoke/MethodHandle" ∧ y.cls ≠ "java/lang/invoke/VarHandle")
    {W9 : Nat} {Pre : Pt → Array Value → Prop} {Post : Pt → Array Value → Option Value → Pt → Prop} {PostX : Pt → Array Value → Addr → Pt → Prop} (hK : vx_Back l R p e below s args y 3 W9 Pre Post PostX)
    {b : Addr} {cellB : Cell} (hcell : T.heap[b]? = some cellB) (hobj : cellB.vm.isStatics = false) (hcls : s.vm.findClass C = some cellB.cls)
    {g : JFrame} (hg : g.method = m) (hsize : g.locals.size = c.maxLocals) {argsL rest : List Value} (hlen : ∀ sig, parseMethodDescriptor y.desc = some sig → argsL.length = sig.parameters.length)
    (hstack : g.stack = argsL.reverse ++ .ref b :: rest) (hW : 2 * g.monitorRoom + (rest.map fun v => v.category).sum ≤ W9) (hdg : decode c.code g.pc = .ok (.invokevirtual index, 3))
    (hpre : ∀ vm₁, s.WarmedH vm₁ → Pre ⟨T.setVm vm₁, locs, cells, slots⟩ (Value.ref b :: argsL).toArray) :
    (∃ (v : Option Value) (vm₁ : Vm) (B : Pt), s.WarmedH vm₁ ∧ Stand p l e R s m args below meth c B.U B.locs B.cells B.slots ∧ Post ⟨T.setVm vm₁, locs, cells, slots⟩ (Value.ref b :: argsL).toArray v B ∧
      ∀ target, Steps p.tables e below (B.U.setTop { g with pc := g.pc + 3, stack := v.toList ++ rest }) target → Steps p.tables e below (T.setTop g) target) ∨
    (∃ (q : Addr) (vm₁ : Vm) (B : Pt), s.WarmedH vm₁ ∧ Stand p l e R s m args below meth c B.U B.locs B.cells B.slots ∧ PostX ⟨T.setVm vm₁, locs, cells, slots⟩ (Value.ref b :: argsL).toArray q B ∧
      Steps p.tables e below (T.setTop g) ((B.U.setTop { g with stack := rest }).pushFrame (.throwing q))) := by
  obtain ⟨mk, methM, hnamed, hmethM, hstM, habM⟩ := Cond.instanceMethod_spec hinst
  obtain ⟨methM', cM, hmethM', -, -, -, -, -, -, hsigM⟩ := Cond.code_spec hnamed hcode
  cases hmethM.symm.trans hmethM'
  obtain ⟨c2, r2, m2, q1, q2, q3, q4, kP, hkP, hkPi⟩ := Cond.selects_spec hsel
  cases hcls.symm.trans q1
  cases (State.methodFound?_of_named hnamed hy).symm.trans q2
  cases hnamed.symm.trans q3
  have hselP : selectMethod e.platform s.vm cellB.cls mk = .method mk := by rw [Launch.admits_selectMethod X.admits]; exact q4
  obtain ⟨vm₁, X₁, hstep₁⟩ := X.invokevirtual hexec hown hlink hnamed hmethM hstM hkP hkPi hy (a := b) (cell := cellB) hcell
    (fun z h => by rw [h] at hobj; cases hobj) hselP hmethM habM hkP hkPi (g := g) hg (argsL := argsL) (rest := rest) (hlen _ hsigM) hstack hdg
  rcases hK m meth c ⟨T.setVm vm₁, locs, cells, slots⟩ { g with stack := rest } (.invokevirtual index) mk (Value.ref b :: argsL).toArray X₁ hg hsize hdg hW (X₁.named hnamed) (hpre vm₁ X₁.warmed) with ⟨v, B, X', hpost, hsteps⟩ | ⟨q, B, X', hpost, hsteps⟩
  · exact Or.inl ⟨v, vm₁, B, X₁.warmed, X', hpost, fun target h => hstep₁ _ fun acts => by rw [doInvoke_state]; exact hsteps.trans h⟩
  · exact Or.inr ⟨q, vm₁, B, X₁.warmed, X', hpost, hstep₁ _ fun acts => by rw [doInvoke_state]; exact hsteps⟩
theorem vx_callS (X : Stand p l e R s m args below meth c T locs cells slots) (hexec : p.tables.exec = Jvm.exec) {own : String} {index : Nat} {y : MethodName} {bytes : ByteArray} {maxL : Nat} {ret : Option FieldType}
    (hown : s.vm.findClass own = some m.cls) (hlink : (Cond.methodLink own index y).before args s = true) (hstat : (Cond.static y).before args s = true) (hinit : (Cond.initialized y.cls).before args s = true)
    (hcode : (Cond.code y bytes maxL ret).before args s = true) (hy : y.cls ≠ "java/lang/invoke/MethodHandle" ∧ y.cls ≠ "java/lang/invoke/VarHandle")
    {W9 : Nat} {Pre : Pt → Array Value → Prop} {Post : Pt → Array Value → Option Value → Pt → Prop} {PostX : Pt → Array Value → Addr → Pt → Prop} (hK : vx_Back l R p e below s args y 3 W9 Pre Post PostX)
    {g : JFrame} (hg : g.method = m) (hsize : g.locals.size = c.maxLocals) {argsL rest : List Value} (hlen : ∀ sig, parseMethodDescriptor y.desc = some sig → argsL.length = sig.parameters.length)
    (hstack : g.stack = argsL.reverse ++ rest) (hW : 2 * g.monitorRoom + (rest.map fun v => v.category).sum ≤ W9) (hdg : decode c.code g.pc = .ok (.invokestatic index, 3))
    (hpre : ∀ vm₁, s.WarmedH vm₁ → Pre ⟨T.setVm vm₁, locs, cells, slots⟩ argsL.toArray) :
    (∃ (v : Option Value) (vm₁ : Vm) (B : Pt), s.WarmedH vm₁ ∧ Stand p l e R s m args below meth c B.U B.locs B.cells B.slots ∧ Post ⟨T.setVm vm₁, locs, cells, slots⟩ argsL.toArray v B ∧
      ∀ target, Steps p.tables e below (B.U.setTop { g with pc := g.pc + 3, stack := v.toList ++ rest }) target → Steps p.tables e below (T.setTop g) target) ∨
    (∃ (q : Addr) (vm₁ : Vm) (B : Pt), s.WarmedH vm₁ ∧ Stand p l e R s m args below meth c B.U B.locs B.cells B.slots ∧ PostX ⟨T.setVm vm₁, locs, cells, slots⟩ argsL.toArray q B ∧
      Steps p.tables e below (T.setTop g) ((B.U.setTop { g with stack := rest }).pushFrame (.throwing q))) := by
  obtain ⟨mk, hnamed⟩ := Cond.code_named hcode
  obtain ⟨methM, cM, hmethM, -, -, -, -, -, -, hsigM⟩ := Cond.code_spec hnamed hcode
  have hstatic : methM.isStatic = true := Cond.static_spec hnamed hmethM hstat
  obtain ⟨kP, hkP, -⟩ := className_of_methodNamed hnamed
  have hinitP : kP.init = .initialized := Cond.initialized_spec (findClass_of_methodNamed hnamed) hkP hinit
  obtain ⟨vm₁, X₁, hstep₁⟩ := X.invokestatic hexec hown hlink hnamed hmethM hstatic hkP hinitP hy (g := g) hg (argsL := argsL) (rest := rest) (hlen _ hsigM) hstack hdg
  rcases hK m meth c ⟨T.setVm vm₁, locs, cells, slots⟩ { g with stack := rest } (.invokestatic index) mk argsL.toArray X₁ hg hsize hdg hW (X₁.named hnamed) (hpre vm₁ X₁.warmed) with ⟨v, B, X', hpost, hsteps⟩ | ⟨q, B, X', hpost, hsteps⟩
  · exact Or.inl ⟨v, vm₁, B, X₁.warmed, X', hpost, fun target h => hstep₁ _ fun acts => by rw [doInvoke_state]; exact hsteps.trans h⟩
  · exact Or.inr ⟨q, vm₁, B, X₁.warmed, X', hpost, hstep₁ _ fun acts => by rw [doInvoke_state]; exact hsteps⟩
end Calls
theorem vx_cls {s : State} {T : State} {vm₁ : Vm} {E : String} {k : ClassId} (hW : s.WarmedH vm₁) (h : (T.setVm vm₁).vm.findClass E = some k) : s.vm.findClass E = some k := by
  have h1 : vm₁.findClass E = some k := h
  rw [hW.alike.findClass] at h1
  exact h1
/-- the method's frame g, with q thrown over it -/
def vx_W (p : Program) (l : Launch) (e : Env) (R : Room) (s : State) (m : MethodId) (args : Array Value) (below : List Frame) (meth : Method) (c : Code) (H : Heap) (locs : List Loc) (cells slots : Nat) (Q : State → Prop) (g : JFrame) (q : Addr) : Prop :=
  ∀ T : State, T.heap = H → Stand p l e R s m args below meth c T locs cells slots → ∃ t, Steps p.tables e below ((T.setTop g).pushFrame (.throwing q)) t ∧ Q t
def vx_Run (p : Program) (l : Launch) (e : Env) (R : Room) (s : State) (m : MethodId) (args : Array Value) (below : List Frame) (meth : Method) (c : Code) (H : Heap) (locs : List Loc) (cells slots mc ms : Nat) (g : JFrame) (rest : List Value) (Qa : State → Outcome → State → Prop) (XC : String → State → State → Prop) (free : Addr → Prop) : Prop :=
  ∀ T : State, T.heap = H → Stand p l e R s m args below meth c T locs cells slots →
    (∃ (v : Option Value) (st₀ t T' : State) (L : List Loc), st₀.heap = H ∧ Stand p l e R s m args below meth c T' (locs ++ L) (cells + mc) (slots + ms) ∧ (∀ q ∈ L, free q.base) ∧ T'.heap = t.heap ∧ T'.vm = t.vm ∧ Qa st₀ (.returned v) t ∧
      Goes p e below T g T' { g with pc := g.pc + 3, stack := v.toList ++ rest }) ∨
    (∃ (q : Addr) (st₀ t T' : State) (L : List Loc) (E : String) (ce : Cell), st₀.heap = H ∧ Stand p l e R s m args below meth c T' (locs ++ L) (cells + mc) (slots + ms) ∧ (∀ z ∈ L, free z.base) ∧ T'.heap = t.heap ∧ T'.vm = t.vm ∧ XC E st₀ t ∧ t.heap[q]? = some ce ∧ ce.vm = .none ∧ s.vm.findClass E = some ce.cls ∧
      Steps p.tables e below (T.setTop g) ((T'.setTop { g with stack := rest }).pushFrame (.throwing q)))
def vx_X {S : Type} (px : S → Prop) (B : String → S → State → Prop) (A : Nat → Prop) : String → State → State → Prop := fun E st t => ∃ u : S, px u ∧ B E u t ∧ va_F A st t
section Runs
variable {p : Program} {l : Launch} {e : Env} {R : Room} {s : State} {m : MethodId} {args : Array Value} {below : List Frame} {meth : Method} {c : Code} {H : Heap} {locs : List Loc} {cells slots : Nat}
variable {y : MethodName} {bytes cc : ByteArray} {maxL nL mc ms n index : Nat} {ret : Option FieldType} {ws : List Cond} {rm : Room} {Pc : Array Value → State → Prop} {Qc : Array Value → State → Outcome → State → Prop} {XC : String → State → State → Prop} {free : Addr → Prop} {Ts : List Cond} {own C : String} {b : Addr} {As rest : List Value} {g : JFrame}
theorem vx_callBack (cb : CallB R s args own index y bytes maxL ret ws rm mc ms n) (hM : vx_Met l y ws rm Pc Qc XC mc ms free) (hbl : FrameBlind Pc) : vx_Back l R p e below s args y 3 8 (PreOf R mc ms Pc) (PostOf Qc mc ms free) (vx_Post XC mc ms free) := by
  obtain ⟨hrc, hrs, hfr, hlo, hws, hcw, -, hini, -⟩ := cb
  exact vx_back (bytes := bytes) (maxL := maxL) (ret := ret) hM hbl hrc hrs hfr hlo hws hcw (fun a' U hW => word_at hW (Or.inl (by first | rfl | simp [Cond.onTables, Cond.keeps, Cond.steady])) hini)
theorem vx_runV (S : CallFix p m c cc nL s args Ts own) (hM : vx_Met l y ws rm Pc Qc XC mc ms free) (cw : CallW R s args own C index y bytes maxL ret ws rm mc ms n) (hp : PreV s H C b Pc As)
    (hg : g.method = m) (hn : As.length = n) (hsize : g.locals.size = nL) (hstack : g.stack = As.reverse ++ .ref b :: rest) (hW : 2 * g.monitorRoom + (rest.map fun v => v.category).sum ≤ 8) (hdg : decode cc g.pc = .ok (.invokevirtual index, 3)) (hf : cells + mc ≤ R.cells ∧ slots + ms ≤ R.slots) :
    vx_Run p l e R s m args below meth c H locs cells slots mc ms g rest (Qc (Value.ref b :: As).toArray) XC free := by
  have hK : vx_Back l R p e below s args y 3 8 (PreOf R mc ms Pc) (PostOf Qc mc ms free) (vx_Post XC mc ms free) := vx_callBack cw.1 hM hp.1
  obtain ⟨⟨-, -, -, -, -, -, hcode, -, hy, hlen, hl⟩, hin, hse⟩ := cw
  obtain ⟨hx, hb, hml, ho, -⟩ := S
  obtain ⟨-, ⟨cellB, hcB, hoB, hclB⟩, hPc⟩ := hp
  intro T hT X
  rcases vx_callV X hx (C := C) (bytes := bytes) (maxL := maxL) (ret := ret) ho hl hin hse hcode hy hK (by rw [hT]; exact hcB) hoB hclB hg (hsize.trans hml.symm) (argsL := As) (rest := rest) (fun sig h => hn.trans (hlen sig h)) hstack hW (by rw [hb]; exact hdg)
    (fun vm₁ hW₁ => ⟨hf.1, hf.2, hPc (T.setVm vm₁) hT hW₁⟩) with ⟨v, vm₁, ⟨U', l2, c2, s2⟩, hW₁, X', ⟨g', mk, t, L, e1, e2, hq, h1, hL, h2, h3⟩, st⟩ | ⟨q, vm₁, ⟨U', l2, c2, s2⟩, hW₁, X', ⟨g', mk, t, L, E, ce, e1, e2, hq, hce, hcv, hcl, h1, hL, h2, h3⟩, st⟩
  · dsimp only [Pt.U, Pt.locs, Pt.cells, Pt.slots] at X' e1 e2 h1 h2 h3 st
    subst h1; subst h2; subst h3
    exact Or.inl ⟨v, (T.setVm vm₁).calling g' mk (Value.ref b :: As).toArray, t, U', L, hT, X', hL, e1, e2, hq, st⟩
  · dsimp only [Pt.U, Pt.locs, Pt.cells, Pt.slots] at X' e1 e2 h1 h2 h3 st hcl
    subst h1; subst h2; subst h3
    exact Or.inr ⟨q, (T.setVm vm₁).calling g' mk (Value.ref b :: As).toArray, t, U', L, E, ce, hT, X', hL, e1, e2, hq, hce, hcv, vx_cls hW₁ hcl, st⟩
theorem vx_runS (S : CallFix p m c cc nL s args Ts own) (hM : vx_Met l y ws rm Pc Qc XC mc ms free) (cw : CallB R s args own index y bytes maxL ret ws rm mc ms n ∧ (Cond.static y).before args s = true) (hp : PreS s H Pc As)
    (hg : g.method = m) (hn : As.length = n) (hsize : g.locals.size = nL) (hstack : g.stack = As.reverse ++ rest) (hW : 2 * g.monitorRoom + (rest.map fun v => v.category).sum ≤ 8) (hdg : decode cc g.pc = .ok (.invokestatic index, 3)) (hf : cells + mc ≤ R.cells ∧ slots + ms ≤ R.slots) :
    vx_Run p l e R s m args below meth c H locs cells slots mc ms g rest (Qc As.toArray) XC free := by
  have hK : vx_Back l R p e below s args y 3 8 (PreOf R mc ms Pc) (PostOf Qc mc ms free) (vx_Post XC mc ms free) := vx_callBack cw.1 hM hp.1
  obtain ⟨⟨-, -, -, -, -, -, hcode, hini, hy, hlen, hl⟩, hstt⟩ := cw
  obtain ⟨hx, hb, hml, ho, -⟩ := S
  intro T hT X
  rcases vx_callS X hx (bytes := bytes) (maxL := maxL) (ret := ret) ho hl hstt hini hcode hy hK hg (hsize.trans hml.symm) (argsL := As) (rest := rest) (fun sig h => hn.trans (hlen sig h)) hstack hW (by rw [hb]; exact hdg)
    (fun vm₁ hW₁ => ⟨hf.1, hf.2, hp.2 (T.setVm vm₁) hT hW₁⟩) with ⟨v, vm₁, ⟨U', l2, c2, s2⟩, hW₁, X', ⟨g', mk, t, L, e1, e2, hq, h1, hL, h2, h3⟩, st⟩ | ⟨q, vm₁, ⟨U', l2, c2, s2⟩, hW₁, X', ⟨g', mk, t, L, E, ce, e1, e2, hq, hce, hcv, hcl, h1, hL, h2, h3⟩, st⟩
  · dsimp only [Pt.U, Pt.locs, Pt.cells, Pt.slots] at X' e1 e2 h1 h2 h3 st
    subst h1; subst h2; subst h3
    exact Or.inl ⟨v, (T.setVm vm₁).calling g' mk As.toArray, t, U', L, hT, X', hL, e1, e2, hq, st⟩
  · dsimp only [Pt.U, Pt.locs, Pt.cells, Pt.slots] at X' e1 e2 h1 h2 h3 st hcl
    subst h1; subst h2; subst h3
    exact Or.inr ⟨q, (T.setVm vm₁).calling g' mk As.toArray, t, U', L, E, ce, hT, X', hL, e1, e2, hq, hce, hcv, vx_cls hW₁ hcl, st⟩
end Runs
section Rows
variable {p : Program} {l : Launch} {e : Env} {R : Room} {s : State} {m : MethodId} {args : Array Value} {below : List Frame} {meth : Method} {c : Code} {H : Heap} {locs : List Loc} {cells slots : Nat} {Q : State → Prop}
variable {mc ms : Nat} {free : Addr → Prop} {A0 A1 : Nat → Prop} {H0 : Heap} {a : Array Value} {pc : Nat} {ls : Array Slot} {st0 rest : List Value}
theorem vx_keep {st₀ t T' : State} {L : List Loc} (h0 : st₀.heap = H) (e1 : T'.heap = t.heap) (hS : va_S A0 H0 H locs) (hA : ∀ q, q < H.size → A1 q → A0 q) (hf : ∀ q, free q → A0 q) (hL : ∀ q ∈ L, free q.base) (hF : va_F A1 st₀ t) :
    H.size ≤ T'.heap.size ∧ (∀ q : Nat, q < H.size → ¬ A1 q → T'.heap[q]? = H[q]?) ∧ va_S A0 H0 T'.heap (locs ++ L) := by
  obtain ⟨hz, hk⟩ := hF
  rw [h0] at hz hk
  exact ⟨by rw [e1]; exact hz, fun q h1 h2 => by rw [e1]; exact hk q h1 h2,
    ⟨Nat.le_trans hS.1 (by rw [e1]; exact hz), fun q h1 h2 => by rw [e1, hk q (Nat.lt_of_lt_of_le h1 hS.1) (fun z => h2 (hA q (Nat.lt_of_lt_of_le h1 hS.1) z))]; exact hS.2.1 q h1 h2, fun q hq => by
      rcases List.mem_append.mp hq with h | h
      · exact hS.2.2 q h
      · exact hf _ (hL q h)⟩⟩
theorem vx_calli {S SX : Type} {post : Int32 → S → Prop} {px : SX → Prop} {B : S → State → Prop} {BX : String → SX → State → Prop} {AX : Nat → Prop} (hr : vx_Run p l e R s m args below meth c H locs cells slots mc ms (F0 m pc ls st0) rest (va_Qi post B A1 a) (vx_X px BX AX) free) (hS : va_S A0 H0 H locs) (hA : ∀ q, q < H.size → A1 q → A0 q) (hf : ∀ q, free q → A0 q) (hAX : ∀ q, q < H.size → AX q → A0 q)
    (kx : ∀ (E : String) (ce : Cell) (q9 : Addr) (u : SX) (t : State) (H1 : Heap) (locs1 : List Loc), t.heap = H1 → s.vm.Alike t.vm → px u → BX E u t → H.size ≤ H1.size → (∀ q : Nat, q < H.size → ¬ AX q → H1[q]? = H[q]?) → va_S A0 H0 H1 locs1 → H1[q9]? = some ce → ce.vm = .none → s.vm.findClass E = some ce.cls → vx_W p l e R s m args below meth c H1 locs1 (cells + mc) (slots + ms) Q (F0 m pc ls rest) q9)
    (kk : ∀ (r : Int32) (u : S) (t : State) (H1 : Heap) (locs1 : List Loc), t.heap = H1 → s.vm.Alike t.vm → post r u → B u t → H.size ≤ H1.size → (∀ q : Nat, q < H.size → ¬ A1 q → H1[q]? = H[q]?) → va_S A0 H0 H1 locs1 → W p l e R s m args below meth c H1 locs1 (cells + mc) (slots + ms) Q (F0 m (pc + 3) ls (.int r :: rest))) : W p l e R s m args below meth c H locs cells slots Q (F0 m pc ls st0) := by
  intro T hT X
  rcases hr T hT X with ⟨v, st₀, t, T', L, h0, X', hL, e1, e2, ⟨⟨r, u, hv, hp, hb⟩, hF⟩, st⟩ | ⟨q, st₀, t, T', L, E, ce, h0, X', hL, e1, e2, ⟨u, hp, hb, hF⟩, hce, hcv, hcl, st⟩
  · cases hv
    obtain ⟨k1, k2, k3⟩ := vx_keep h0 e1 hS hA hf hL hF
    obtain ⟨t2, a1, b1⟩ := kk r u t T'.heap (locs ++ L) e1.symm (by rw [← e2]; exact X'.warmed.alike) hp hb k1 k2 k3 T' rfl X'
    exact ⟨t2, st t2 a1, b1⟩
  · obtain ⟨k1, k2, k3⟩ := vx_keep h0 e1 hS hAX hf hL hF
    obtain ⟨t2, a1, b1⟩ := kx E ce q u t T'.heap (locs ++ L) e1.symm (by rw [← e2]; exact X'.warmed.alike) hp hb k1 k2 k3 (by rw [e1]; exact hce) hcv hcl T' rfl X'
    exact ⟨t2, st.trans a1, b1⟩
theorem vx_calll {S SX : Type} {post : Int64 → S → Prop} {px : SX → Prop} {B : S → State → Prop} {BX : String → SX → State → Prop} {AX : Nat → Prop} (hr : vx_Run p l e R s m args below meth c H locs cells slots mc ms (F0 m pc ls st0) rest (va_Ql post B A1 a) (vx_X px BX AX) free) (hS : va_S A0 H0 H locs) (hA : ∀ q, q < H.size → A1 q → A0 q) (hf : ∀ q, free q → A0 q) (hAX : ∀ q, q < H.size → AX q → A0 q)
    (kx : ∀ (E : String) (ce : Cell) (q9 : Addr) (u : SX) (t : State) (H1 : Heap) (locs1 : List Loc), t.heap = H1 → s.vm.Alike t.vm → px u → BX E u t → H.size ≤ H1.size → (∀ q : Nat, q < H.size → ¬ AX q → H1[q]? = H[q]?) → va_S A0 H0 H1 locs1 → H1[q9]? = some ce → ce.vm = .none → s.vm.findClass E = some ce.cls → vx_W p l e R s m args below meth c H1 locs1 (cells + mc) (slots + ms) Q (F0 m pc ls rest) q9)
    (kk : ∀ (r : Int64) (u : S) (t : State) (H1 : Heap) (locs1 : List Loc), t.heap = H1 → s.vm.Alike t.vm → post r u → B u t → H.size ≤ H1.size → (∀ q : Nat, q < H.size → ¬ A1 q → H1[q]? = H[q]?) → va_S A0 H0 H1 locs1 → W p l e R s m args below meth c H1 locs1 (cells + mc) (slots + ms) Q (F0 m (pc + 3) ls (.long r :: rest))) : W p l e R s m args below meth c H locs cells slots Q (F0 m pc ls st0) := by
  intro T hT X
  rcases hr T hT X with ⟨v, st₀, t, T', L, h0, X', hL, e1, e2, ⟨⟨r, u, hv, hp, hb⟩, hF⟩, st⟩ | ⟨q, st₀, t, T', L, E, ce, h0, X', hL, e1, e2, ⟨u, hp, hb, hF⟩, hce, hcv, hcl, st⟩
  · cases hv
    obtain ⟨k1, k2, k3⟩ := vx_keep h0 e1 hS hA hf hL hF
    obtain ⟨t2, a1, b1⟩ := kk r u t T'.heap (locs ++ L) e1.symm (by rw [← e2]; exact X'.warmed.alike) hp hb k1 k2 k3 T' rfl X'
    exact ⟨t2, st t2 a1, b1⟩
  · obtain ⟨k1, k2, k3⟩ := vx_keep h0 e1 hS hAX hf hL hF
    obtain ⟨t2, a1, b1⟩ := kx E ce q u t T'.heap (locs ++ L) e1.symm (by rw [← e2]; exact X'.warmed.alike) hp hb k1 k2 k3 (by rw [e1]; exact hce) hcv hcl T' rfl X'
    exact ⟨t2, st.trans a1, b1⟩
theorem vx_callf {S SX : Type} {post : UInt32 → S → Prop} {px : SX → Prop} {B : S → State → Prop} {BX : String → SX → State → Prop} {AX : Nat → Prop} (hr : vx_Run p l e R s m args below meth c H locs cells slots mc ms (F0 m pc ls st0) rest (va_Qf post B A1 a) (vx_X px BX AX) free) (hS : va_S A0 H0 H locs) (hA : ∀ q, q < H.size → A1 q → A0 q) (hf : ∀ q, free q → A0 q) (hAX : ∀ q, q < H.size → AX q → A0 q)
    (kx : ∀ (E : String) (ce : Cell) (q9 : Addr) (u : SX) (t : State) (H1 : Heap) (locs1 : List Loc), t.heap = H1 → s.vm.Alike t.vm → px u → BX E u t → H.size ≤ H1.size → (∀ q : Nat, q < H.size → ¬ AX q → H1[q]? = H[q]?) → va_S A0 H0 H1 locs1 → H1[q9]? = some ce → ce.vm = .none → s.vm.findClass E = some ce.cls → vx_W p l e R s m args below meth c H1 locs1 (cells + mc) (slots + ms) Q (F0 m pc ls rest) q9)
    (kk : ∀ (r : UInt32) (u : S) (t : State) (H1 : Heap) (locs1 : List Loc), t.heap = H1 → s.vm.Alike t.vm → post r u → B u t → H.size ≤ H1.size → (∀ q : Nat, q < H.size → ¬ A1 q → H1[q]? = H[q]?) → va_S A0 H0 H1 locs1 → W p l e R s m args below meth c H1 locs1 (cells + mc) (slots + ms) Q (F0 m (pc + 3) ls (.float r :: rest))) : W p l e R s m args below meth c H locs cells slots Q (F0 m pc ls st0) := by
  intro T hT X
  rcases hr T hT X with ⟨v, st₀, t, T', L, h0, X', hL, e1, e2, ⟨⟨r, u, hv, hp, hb⟩, hF⟩, st⟩ | ⟨q, st₀, t, T', L, E, ce, h0, X', hL, e1, e2, ⟨u, hp, hb, hF⟩, hce, hcv, hcl, st⟩
  · cases hv
    obtain ⟨k1, k2, k3⟩ := vx_keep h0 e1 hS hA hf hL hF
    obtain ⟨t2, a1, b1⟩ := kk r u t T'.heap (locs ++ L) e1.symm (by rw [← e2]; exact X'.warmed.alike) hp hb k1 k2 k3 T' rfl X'
    exact ⟨t2, st t2 a1, b1⟩
  · obtain ⟨k1, k2, k3⟩ := vx_keep h0 e1 hS hAX hf hL hF
    obtain ⟨t2, a1, b1⟩ := kx E ce q u t T'.heap (locs ++ L) e1.symm (by rw [← e2]; exact X'.warmed.alike) hp hb k1 k2 k3 (by rw [e1]; exact hce) hcv hcl T' rfl X'
    exact ⟨t2, st.trans a1, b1⟩
theorem vx_calld {S SX : Type} {post : UInt64 → S → Prop} {px : SX → Prop} {B : S → State → Prop} {BX : String → SX → State → Prop} {AX : Nat → Prop} (hr : vx_Run p l e R s m args below meth c H locs cells slots mc ms (F0 m pc ls st0) rest (va_Qd post B A1 a) (vx_X px BX AX) free) (hS : va_S A0 H0 H locs) (hA : ∀ q, q < H.size → A1 q → A0 q) (hf : ∀ q, free q → A0 q) (hAX : ∀ q, q < H.size → AX q → A0 q)
    (kx : ∀ (E : String) (ce : Cell) (q9 : Addr) (u : SX) (t : State) (H1 : Heap) (locs1 : List Loc), t.heap = H1 → s.vm.Alike t.vm → px u → BX E u t → H.size ≤ H1.size → (∀ q : Nat, q < H.size → ¬ AX q → H1[q]? = H[q]?) → va_S A0 H0 H1 locs1 → H1[q9]? = some ce → ce.vm = .none → s.vm.findClass E = some ce.cls → vx_W p l e R s m args below meth c H1 locs1 (cells + mc) (slots + ms) Q (F0 m pc ls rest) q9)
    (kk : ∀ (r : UInt64) (u : S) (t : State) (H1 : Heap) (locs1 : List Loc), t.heap = H1 → s.vm.Alike t.vm → post r u → B u t → H.size ≤ H1.size → (∀ q : Nat, q < H.size → ¬ A1 q → H1[q]? = H[q]?) → va_S A0 H0 H1 locs1 → W p l e R s m args below meth c H1 locs1 (cells + mc) (slots + ms) Q (F0 m (pc + 3) ls (.double r :: rest))) : W p l e R s m args below meth c H locs cells slots Q (F0 m pc ls st0) := by
  intro T hT X
  rcases hr T hT X with ⟨v, st₀, t, T', L, h0, X', hL, e1, e2, ⟨⟨r, u, hv, hp, hb⟩, hF⟩, st⟩ | ⟨q, st₀, t, T', L, E, ce, h0, X', hL, e1, e2, ⟨u, hp, hb, hF⟩, hce, hcv, hcl, st⟩
  · cases hv
    obtain ⟨k1, k2, k3⟩ := vx_keep h0 e1 hS hA hf hL hF
    obtain ⟨t2, a1, b1⟩ := kk r u t T'.heap (locs ++ L) e1.symm (by rw [← e2]; exact X'.warmed.alike) hp hb k1 k2 k3 T' rfl X'
    exact ⟨t2, st t2 a1, b1⟩
  · obtain ⟨k1, k2, k3⟩ := vx_keep h0 e1 hS hAX hf hL hF
    obtain ⟨t2, a1, b1⟩ := kx E ce q u t T'.heap (locs ++ L) e1.symm (by rw [← e2]; exact X'.warmed.alike) hp hb k1 k2 k3 (by rw [e1]; exact hce) hcv hcl T' rfl X'
    exact ⟨t2, st.trans a1, b1⟩
theorem vx_callv {S SX : Type} {post : S → Prop} {px : SX → Prop} {B : S → State → Prop} {BX : String → SX → State → Prop} {AX : Nat → Prop} (hr : vx_Run p l e R s m args below meth c H locs cells slots mc ms (F0 m pc ls st0) rest (va_Qv post B A1 a) (vx_X px BX AX) free) (hS : va_S A0 H0 H locs) (hA : ∀ q, q < H.size → A1 q → A0 q) (hf : ∀ q, free q → A0 q) (hAX : ∀ q, q < H.size → AX q → A0 q)
    (kx : ∀ (E : String) (ce : Cell) (q9 : Addr) (u : SX) (t : State) (H1 : Heap) (locs1 : List Loc), t.heap = H1 → s.vm.Alike t.vm → px u → BX E u t → H.size ≤ H1.size → (∀ q : Nat, q < H.size → ¬ AX q → H1[q]? = H[q]?) → va_S A0 H0 H1 locs1 → H1[q9]? = some ce → ce.vm = .none → s.vm.findClass E = some ce.cls → vx_W p l e R s m args below meth c H1 locs1 (cells + mc) (slots + ms) Q (F0 m pc ls rest) q9)
    (kk : ∀ (u : S) (t : State) (H1 : Heap) (locs1 : List Loc), t.heap = H1 → s.vm.Alike t.vm → post u → B u t → H.size ≤ H1.size → (∀ q : Nat, q < H.size → ¬ A1 q → H1[q]? = H[q]?) → va_S A0 H0 H1 locs1 → W p l e R s m args below meth c H1 locs1 (cells + mc) (slots + ms) Q (F0 m (pc + 3) ls (rest))) : W p l e R s m args below meth c H locs cells slots Q (F0 m pc ls st0) := by
  intro T hT X
  rcases hr T hT X with ⟨v, st₀, t, T', L, h0, X', hL, e1, e2, ⟨⟨u, hv, hp, hb⟩, hF⟩, st⟩ | ⟨q, st₀, t, T', L, E, ce, h0, X', hL, e1, e2, ⟨u, hp, hb, hF⟩, hce, hcv, hcl, st⟩
  · cases hv
    obtain ⟨k1, k2, k3⟩ := vx_keep h0 e1 hS hA hf hL hF
    obtain ⟨t2, a1, b1⟩ := kk u t T'.heap (locs ++ L) e1.symm (by rw [← e2]; exact X'.warmed.alike) hp hb k1 k2 k3 T' rfl X'
    exact ⟨t2, st t2 a1, b1⟩
  · obtain ⟨k1, k2, k3⟩ := vx_keep h0 e1 hS hAX hf hL hF
    obtain ⟨t2, a1, b1⟩ := kx E ce q u t T'.heap (locs ++ L) e1.symm (by rw [← e2]; exact X'.warmed.alike) hp hb k1 k2 k3 (by rw [e1]; exact hce) hcv hcl T' rfl X'
    exact ⟨t2, st.trans a1, b1⟩
/-- caught by the row x of this method's table; the rows ahead don't take it -/
theorem vx_catch {own name : String} {E : String} {ce : Cell} {q : Addr} (hown : s.vm.findClass own = some m.cls) (pre : List ExceptionTableEntry) (x : ExceptionTableEntry) (suf : List ExceptionTableEntry) (hsplit : c.exceptionTable.toList = pre ++ x :: suf)
    (hpass : ∀ z ∈ pre, covers z pc = false ∨ (z.catchType ≠ 0 ∧ ∃ nm : String, (Cond.classLink own z.catchType nm).before args s = true ∧ va_Nc E nm s)) (hx : covers x pc = true) (h0 : x.catchType ≠ 0)
    (hlink : (Cond.classLink own x.catchType name).before args s = true) (hcast : (Cond.castable E name).before args s = true) (hcell : H[q]? = some ce) (hv : ce.vm = .none) (hcl : s.vm.findClass E = some ce.cls)
    (kk : W p l e R s m args below meth c H locs cells slots Q (F0 m x.handlerPc ls [.ref q])) : vx_W p l e R s m args below meth c H locs cells slots Q (F0 m pc ls rest) q := by
  intro T hT X
  have hpl : e.platform.magicAccessors = ({} : Platform).magicAccessors := by rw [X.admits.platform]
  obtain ⟨c3, c4, hc3, hc4, hasg⟩ := Cond.castable_spec hcast
  cases Option.some.inj (hc3.symm.trans hcl)
  obtain ⟨c5, hc5, hcl5⟩ := Cond.classLink_spec hown hlink e.platform hpl
  cases Option.some.inj (hc4.symm.trans hc5)
  obtain ⟨vm', X', st⟩ := X.thenCaughtThrough q (g := F0 m pc ls rest) rfl (Steps.refl _) (by rw [hT]; exact hcell) (by rw [hv]; rfl) (by obtain ⟨k9, h9, -⟩ := Vm.findClass_spec hcl; exact ⟨k9, h9⟩) pre x suf hsplit
    (fun z hz => by
      rcases hpass z hz with h | ⟨hz0, nm, hl1, hn1⟩
      · exact Or.inl h
      · obtain ⟨c6, hc6, hcl6⟩ := Cond.classLink_spec hown hl1 e.platform hpl
        obtain ⟨a8, b8, h1, h2, h3⟩ := hn1
        cases Option.some.inj (h1.symm.trans hcl)
        cases Option.some.inj (h2.symm.trans hc6)
        exact Or.inr ⟨hz0, _, hcl6, h3⟩) hx (Or.inr ⟨h0, c4, hcl5, hasg⟩)
  obtain ⟨t, a1, b1⟩ := kk (T.setVm vm') hT X'
  exact ⟨t, st.trans a1, b1⟩
end Rows
section Ends
variable {p : Program} {l : Launch} {e : Env} {R : Room} {s : State} {m : MethodId} {args : Array Value} {below : List Frame} {meth : Method} {c : Code} {H : Heap} {locs : List Loc} {cells slots : Nat} {Q : State → Prop}
variable {mc ms : Nat} {free : Addr → Prop} {A0 A1 : Nat → Prop} {H0 : Heap} {a : Array Value} {ls : Array Slot} {st0 rest : List Value}
variable {Qc : Array Value → State → Outcome → State → Prop} {XC : String → State → State → Prop}
/-- what a body that may throw owes at its end -/
def vx_MQ (below : List Frame) (Qc : Array Value → State → Outcome → State → Prop) (XC : String → State → State → Prop) (a : Array Value) (s : State) (mc ms : Nat) (free : Addr → Prop) : State → Prop := fun t =>
  ∃ o, t.status = .running ∧ Ended t below o ∧ vx_Q Qc XC mc ms free a s o t
theorem vx_ret {g : JFrame} {mc ms : Nat} (k : W p l e R s m args below meth c H locs cells slots (MQ below Qc args s mc ms free) g) : W p l e R s m args below meth c H locs cells slots (vx_MQ below Qc XC args s mc ms free) g := by
  intro T hT X
  obtain ⟨t, a1, o, b1, b2, b3, b4⟩ := k T hT X
  exact ⟨t, a1, o, b1, b2, Or.inl ⟨b3, b4⟩⟩
/-- not caught here: it goes on to the caller -/
theorem vx_widen {g : JFrame} {q : Addr} {k n : Nat} (h1 : cells ≤ k) (h2 : slots ≤ n) (kk : vx_W p l e R s m args below meth c H locs k n Q g q) : vx_W p l e R s m args below meth c H locs cells slots Q g q := fun T hT X => kk T hT (stand_widen X h1 h2)
theorem vx_out {pc : Nat} {E : String} {ce : Cell} {q : Addr} {mc ms : Nat} (hout : ∀ x ∈ c.exceptionTable.toList, covers x pc = false) (hlocks : meth.locks = false) (hcell : H[q]? = some ce) (hv : ce.vm = .none) (hcl : s.vm.findClass E = some ce.cls)
    (hx : ∀ t : State, t.heap = H → s.vm.Alike t.vm → XC E s t) (hf : ∀ z ∈ locs, free z.base) (hc : cells ≤ mc) (hs : slots ≤ ms) :
    vx_W p l e R s m args below meth c H locs cells slots (vx_MQ below Qc XC args s mc ms free) (F0 m pc ls rest) q := by
  intro T hT X
  obtain ⟨st1, hrun, hend, hW, hsm⟩ := X.leaveThrown q (g := F0 m pc ls rest) rfl rfl rfl hout hlocks
  have hcell9 : (T.setFrames (.throwing q :: below)).heap[q]? = some ce := by
    show T.heap[q]? = some ce
    rw [hT]; exact hcell
  exact ⟨_, st1, .threw q, hrun, hend, Or.inr ⟨q, rfl, E, ce, locs, hx _ hT hW.alike, hcell9, hv, hcl, hW, hsm.mono hc hs, hf⟩⟩
theorem vx_frame {U : State} {k n : Nat} (h : s.sameButNew ({ U with vm := s.vm } : State) locs k n) : s.heap.size ≤ U.heap.size ∧ ∀ q : Nat, q < s.heap.size → (∀ z ∈ locs, z.base ≠ q) → U.heap[q]? = s.heap[q]? := by
  obtain ⟨-, h2, -, -, -, h6⟩ := h
  refine ⟨h2, fun q hq hz => ?_⟩
  obtain ⟨c9, e1, e2, e3, e4⟩ := h6 q _ (Array.getElem?_eq_getElem hq)
  have hs : c9.slots = (s.heap[q]).slots := Array.ext_getElem? fun i => e4 i fun hm => hz _ hm rfl
  have h9 : c9 = s.heap[q] := by
    rw [hs] at e2
    exact e2
  have e5 : U.heap[q]? = some c9 := e1
  rw [e5, h9, Array.getElem?_eq_getElem hq]
/-- the words of a throw but the four that speak of the heap -/
def vx_no (w : Cond) : Bool := decide (w ≠ .isRef (.static Bundle.tN "UNASSIGNED_STACK" Bundle.steD)) && decide (w ≠ .isRef (.static Bundle.tN "SUPPRESSED_SENTINEL" Bundle.listD)) && decide (w ≠ .laysStatic Bundle.tN "UNASSIGNED_STACK" Bundle.steD) && decide (w ≠ .laysStatic Bundle.tN "SUPPRESSED_SENTINEL" Bundle.listD)
def vx_at0 (own : String) (ic : Nat) (X : String) (names : List String) : List Cond := (Bundle.ownAtoms0 own ic X names).filter vx_no
def vx_atS (own : String) (ic : Nat) (X : String) (names : List String) : List Cond := (Bundle.ownAtoms own ic X names).filter vx_no
/-- a word that the tables alone decide, or a good one -/
def vx_ot (w : Cond) : Bool := w.onTables || goodWord w
theorem vx_ot_at {args a' : Array Value} {s U : State} {w : Cond} (hW : s.WarmedH U.vm) (hvm : s.vm = U.vm) (hg : vx_ot w = true) (h : w.before args s = true) : w.before a' U = true := by
  simp only [vx_ot, Bool.or_eq_true] at hg
  rcases hg with hg | hg
  · exact va_tabs hg hvm h
  · exact word_at hW (good_of_word hg) h
/-- a list's words: the good ones out of the method's own list, the others by premises of their own -/
theorem vx_hat {args : Array Value} {s : State} {L B : List Cond} (h1 : ∀ w ∈ L.filter goodWord, w.before args s = true) (h2 : ∀ w ∈ L.filter (fun w => !goodWord w), w ∈ B) (h3 : ∀ w ∈ B, w.before args s = true) : ∀ w ∈ L, w.before args s = true := by
  intro w hw
  by_cases g : goodWord w = true
  · exact h1 w (List.mem_filter.mpr ⟨hw, g⟩)
  · refine h3 w (h2 w (List.mem_filter.mpr ⟨hw, ?_⟩))
    show (!goodWord w) = true
    cases hgw : goodWord w
    · rfl
    · exact absurd hgw g
theorem vx_c {args : Array Value} {s : State} {w : Cond} {B : List Cond} (h : w.before args s = true) (t : ∀ w ∈ B, w.before args s = true) : ∀ w' ∈ w :: B, w'.before args s = true := fun w' h' => (List.mem_cons.mp h').elim (fun e => by rw [e]; exact h) (t w')
theorem vx_n {args : Array Value} {s : State} : ∀ w ∈ ([] : List Cond), w.before args s = true := fun _ h => nomatch h
theorem vx_own {args : Array Value} {s : State} {L : List Cond} (h1 : ∀ w ∈ L.filter vx_no, w.before args s = true)
    (hU : (Cond.isRef (.static Bundle.tN "UNASSIGNED_STACK" Bundle.steD)).before args s = true) (hN : (Cond.isRef (.static Bundle.tN "SUPPRESSED_SENTINEL" Bundle.listD)).before args s = true)
    (lU : (Cond.laysStatic Bundle.tN "UNASSIGNED_STACK" Bundle.steD).before args s = true) (lN : (Cond.laysStatic Bundle.tN "SUPPRESSED_SENTINEL" Bundle.listD).before args s = true) : ∀ w ∈ L, w.before args s = true := by
  intro w hw
  by_cases e1 : w = .isRef (.static Bundle.tN "UNASSIGNED_STACK" Bundle.steD)
  · rw [e1]; exact hU
  · by_cases e2 : w = .isRef (.static Bundle.tN "SUPPRESSED_SENTINEL" Bundle.listD)
    · rw [e2]; exact hN
    · by_cases e3 : w = .laysStatic Bundle.tN "UNASSIGNED_STACK" Bundle.steD
      · rw [e3]; exact lU
      · by_cases e4 : w = .laysStatic Bundle.tN "SUPPRESSED_SENTINEL" Bundle.listD
        · rw [e4]; exact lN
        · exact h1 w (List.mem_filter.mpr ⟨hw, by unfold vx_no; rw [decide_eq_true e1, decide_eq_true e2, decide_eq_true e3, decide_eq_true e4]; rfl⟩)
/-- where a static field lies, its class's statics cell in H -/
def vx_L (C n d : String) (A : Nat → Prop) (U : State) (H : Heap) : Prop := ∃ (c : ClassId) (k : Class) (i : Nat) (f : Field) (a : Nat) (cell : Cell), U.vm.findClass C = some c ∧ U.fieldFound? C n d = some (c, k, i, f) ∧ f.isStatic = true ∧ k.statics = some a ∧ H[a]? = some cell ∧ cell.vm.isStatics = true ∧ cell.cls = c ∧ f.slot < cell.slots.size ∧ k.staticTypes[f.slot]? = some f.type ∧ ¬ A a
theorem vx_L.moved {C n d : String} {A : Nat → Prop} {u U : State} {H : Heap} (hvm : u.vm.Alike U.vm) (h : vx_L C n d A u H) : vx_L C n d A U H := by
  obtain ⟨c, k, i, f, a, cell, h1, h2, h3, h4, h5, h6, h7, h8, h9, h10⟩ := h
  obtain ⟨k', hi', he⟩ := State.fieldFound?_setVm hvm h2
  exact ⟨c, k', i, f, a, cell, by rw [hvm.findClass]; exact h1, hi', h3, by rw [he]; exact h4, h5, h6, h7, h8, by rw [he]; exact h9, h10⟩
theorem vx_L.kept {C n d : String} {A : Nat → Prop} {U : State} {H H1 : Heap} (h : vx_L C n d A U H) (hq : ∀ a : Nat, a < H.size → ¬ A a → H1[a]? = H[a]?) : vx_L C n d A U H1 := by
  obtain ⟨c, k, i, f, a, cell, h1, h2, h3, h4, h5, h6, h7, h8, h9, h10⟩ := h
  exact ⟨c, k, i, f, a, cell, h1, h2, h3, h4, by rw [hq a (Array.getElem?_eq_some_iff.mp h5).1 h10]; exact h5, h6, h7, h8, h9, h10⟩
theorem vx_L.narrow {C n d : String} {A B : Nat → Prop} {U : State} {H : Heap} (h : vx_L C n d A U H) (hAB : ∀ q, B q → A q) : vx_L C n d B U H := by
  obtain ⟨c, k, i, f, a, cell, h1, h2, h3, h4, h5, h6, h7, h8, h9, h10⟩ := h
  exact ⟨c, k, i, f, a, cell, h1, h2, h3, h4, h5, h6, h7, h8, h9, fun z => h10 (hAB _ z)⟩
theorem vx_L.word {C n d : String} {A : Nat → Prop} {s : State} {args : Array Value} (h : vx_L C n d A s s.heap) : (Cond.laysStatic C n d).before args s = true := by
  obtain ⟨c, k, i, f, a, cell, h1, h2, h3, h4, h5, h6, h7, h8, h9, -⟩ := h
  show (Cond.laysStatic C n d).holds args s none s [] = true
  exact Cond.laysStatic_of h1 h2 h3 h4 h5 h6 h7 h8 h9
/-- .. and what it holds: null or some reference -/
def vx_Zq (C n d : String) (A : Nat → Prop) (U : State) (H : Heap) : Prop := va_Zq C n d A U H ∧ vx_L C n d A U H
theorem vx_Zq.moved {C n d : String} {A : Nat → Prop} {u U : State} {H : Heap} (hvm : u.vm.Alike U.vm) (h : vx_Zq C n d A u H) : vx_Zq C n d A U H := ⟨va_Zq.moved hvm h.1, vx_L.moved hvm h.2⟩
theorem vx_Zq.kept {C n d : String} {A : Nat → Prop} {U : State} {H H1 : Heap} (h : vx_Zq C n d A U H) (hq : ∀ a : Nat, a < H.size → ¬ A a → H1[a]? = H[a]?) : vx_Zq C n d A U H1 := ⟨va_Zq.kept h.1 hq, vx_L.kept h.2 hq⟩
theorem vx_Zq.narrow {C n d : String} {A B : Nat → Prop} {U : State} {H : Heap} (h : vx_Zq C n d A U H) (hAB : ∀ q, B q → A q) : vx_Zq C n d B U H := ⟨va_Zq.narrow h.1 hAB, vx_L.narrow h.2 hAB⟩
theorem vx_Zqof {args : Array Value} {s : State} {C n d : String} {A : Nat → Prop} (hl : (Cond.laysStatic C n d).before args s = true) (hini : (Cond.initialized C).before args s = true) (h : (Cond.isRef (.static C n d)).before args s = true) (hA : ∀ a : Nat, a < s.heap.size → ¬ A a) : vx_Zq C n d A s s.heap := by
  refine ⟨va_Zqof hl hini h hA, ?_⟩
  obtain ⟨c, k, i, f, a, cell, h1, h2, h3, h4, h5, h6, h7, h8, h9⟩ := Cond.laysStatic_spec hl
  exact ⟨c, k, i, f, a, cell, h1, h2, h3, h4, h5, h6, h7, h8, h9, hA a (Array.getElem?_eq_some_iff.mp h5).1⟩
theorem vx_isRef {C n d : String} {v : Value} {A : Nat → Prop} {s : State} {args : Array Value} (h : va_Z C n d v A s s.heap) (hv : v.isRef = true) : (Cond.isRef (.static C n d)).before args s = true := by
  obtain ⟨cf, kf, fi, f, a, cell, h1, h2, h3, h4, h5, h6, h7, -⟩ := h
  have he : (Term.static C n d).eval args s none [] s = some v := by
    simp [Term.eval, State.fieldNamed?, h1, h2, h4, h5, h6, h7]
  simp only [Cond.before, Cond.holds, Cond.value, he]
  cases v <;> simp_all [Value.isRef]
theorem vx_isRefq {C n d : String} {A : Nat → Prop} {s : State} {args : Array Value} (h : va_Zq C n d A s s.heap) : (Cond.isRef (.static C n d)).before args s = true := by
  rcases h with h | ⟨t, h⟩
  · exact vx_isRef h rfl
  · exact vx_isRef h rfl
/-- the same frame, seen from here: as if the method were called anew in this heap -/
theorem vx_rebase {T : State} (X : Stand p l e R s m args below meth c T locs cells slots) {R' : Room} (hf : R'.frames ≤ R.frames) (hl : R'.locals ≤ R.locals) (hc : cells + R'.cells ≤ R.cells) (hs : slots + R'.slots ≤ R.slots) :
    Stand p l e R' ((T.setVm s.vm).setFrames (.invoking m args :: below)) m args below meth c T [] 0 0 := by
  have htop : (T.setVm s.vm).topJava?.isSome := X.here.top
  have hF : ((T.setVm s.vm).setFrames (.invoking m args :: below)).frames = .invoking m args :: below := State.frames_setFrames _ (State.cur_lt_of_top htop)
  obtain ⟨g₀, hg0⟩ := Option.isSome_iff_exists.mp htop
  obtain ⟨r, hr⟩ := State.topJava?_eq_some.mp hg0
  have hl9 : e.platform.stackLimits (T.setVm s.vm).me = e.platform.stackLimits s.me := X.limits
  have hb9 : (T.setVm s.vm).me.stackBytes = s.me.stackBytes := X.bytes
  refine ⟨X.admits, X.cas, X.clock, hF, ?_, X.hears, X.method, X.code, X.here, X.tail, X.warmed, ?_, ?_, ?_⟩
  · have h := X.room
    have hU : ((T.setVm s.vm).setFrames (.invoking m args :: below)).localsInUse = s.localsInUse := by
      rw [State.localsInUse_invoking hF (meth := meth) (c := c) X.method X.code, State.localsInUse_invoking X.frames X.method X.code]
    simp only [State.hasRoom, Bool.and_eq_true, decide_eq_true_eq] at h ⊢
    obtain ⟨⟨⟨⟨h1, h2, h3, h4, h5, h6⟩, h7⟩, h8⟩, h9⟩ := h
    rw [X.frames, List.length_cons] at h2 h3
    have q1 := X.heapSize
    have q2 := X.used
    simp only [hF, hU, List.length_cons, State.stackLimits_setFrames, State.stackBytes_setFrames, hl9, hb9]
    refine ⟨⟨⟨⟨by omega, by omega, by omega, by omega, by omega, h6⟩, ?_⟩, ?_⟩, X.book⟩
    · show T.heap.size + R'.cells ≤ e.platform.maxCells
      omega
    · show T.slotsUsed + R'.slots ≤ e.platform.maxSlots
      omega
  · rw [State.stackLimits_setFrames]; rfl
  · rw [State.stackBytes_setFrames]; rfl
  · refine ⟨?_, Nat.le_refl _, Nat.le_refl _, ?_, ?_, fun a c9 h9 => ⟨c9, h9, rfl, rfl, fun _ _ => rfl⟩⟩
    · obtain ⟨t, ht, -⟩ := State.frames_cons hr
      show T.setVm s.vm = { ((T.setVm s.vm).setFrames (.invoking m args :: below)).setFrames (T.setVm s.vm).frames with heap := T.heap, slotsUsed := T.slotsUsed }
      rw [State.setFrames_setFrames, State.setFrames_self ht]
      rfl
    · show T.slotsUsed = T.slotsUsed + ((T.heap.toList.drop T.heap.size).map (·.slots.size)).sum
      rw [List.drop_eq_nil_of_le (Nat.le_of_eq Array.length_toList)]
      rfl
    · show ((T.heap.toList.drop T.heap.size).map (·.slots.size)).sum ≤ 0
      rw [List.drop_eq_nil_of_le (Nat.le_of_eq Array.length_toList)]
      exact Nat.le_refl _
/-- 'throw new E()': new; dup; invokespecial; athrow -/
theorem vx_throw0 {cc : ByteArray} {pc : Nat} (hexec : p.tables.exec = Jvm.exec) (hb : c.code = cc) (hl : l.stackTraces = false) {own cls : String} {names : List String} {ik ic mc ms : Nat} {A : Nat → Prop}
    (hown : s.vm.findClass own = some m.cls) (hcls : Bundle.fit cls = true) (hnames : ∀ n ∈ names, Bundle.fit n = true)
    (hk : (Cond.classLink own ik cls).before args s = true) (hini : (Cond.initialized cls).before args s = true) (hat : ∀ w ∈ vx_at0 own ic cls names, w.before args s = true)
    (hgood : ∀ w ∈ Cond.classLink own ik cls :: Cond.initialized cls :: vx_at0 own ic cls names, vx_ot w = true)
    (hU : vx_Zq Bundle.tN "UNASSIGNED_STACK" Bundle.steD A s s.heap) (hN : vx_Zq Bundle.tN "SUPPRESSED_SENTINEL" Bundle.listD A s s.heap) (hS : va_S A s.heap H locs) (hsize : ls.size = c.maxLocals)
    (d0 : decode cc pc = .ok (.new ik, 3)) (d3 : decode cc (pc + 3) = .ok (.dup, 1)) (d4 : decode cc (pc + 4) = .ok (.invokespecial ic, 3)) (d7 : decode cc (pc + 7) = .ok (.athrow, 1))
    (hout : ∀ x ∈ c.exceptionTable.toList, covers x (pc + 7) = false)
    (hRframes : names.length + 3 < R.frames) (hRlocals : (rest.map fun v => v.category).sum + (13 * (names.length + 1) + 42) ≤ R.locals) (hRcells : cells + 1 ≤ R.cells) (hRslots : slots + 6 ≤ R.slots) (hlocks : meth.locks = false)
    (hx : ∀ t : State, s.vm.Alike t.vm → H.size ≤ t.heap.size → (∀ q : Nat, q < H.size → t.heap[q]? = H[q]?) → XC cls s t)
    (hf : ∀ z ∈ locs, free z.base) (hc : cells + 1 ≤ mc) (hs : slots + 6 ≤ ms) :
    W p l e R s m args below meth c H locs cells slots (vx_MQ below Qc XC args s mc ms free) (F0 m pc ls rest) := by
  intro T hT X
  have htr : e.platform.stackTraces = false := (show e.platform.stackTraces = l.stackTraces by rw [X.admits.platform]).trans hl
  have Y := vx_rebase X (R' := { frames := R.frames, locals := R.locals, cells := 1, slots := 6 }) (Nat.le_refl _) (Nat.le_refl _) hRcells hRslots
  obtain ⟨s', hA⟩ : ∃ z, z = (T.setVm s.vm).setFrames (.invoking m args :: below) := ⟨_, rfl⟩
  rw [← hA] at Y
  have hvm : s'.vm = s.vm := by rw [hA]; rfl
  have hhp : s'.heap = H := by rw [hA]; exact hT
  have hW0 : s.WarmedH s'.vm := by rw [hvm]; exact State.WarmedH.refl s
  have hat' : ∀ w ∈ vx_at0 own ic cls names, w.before args s' = true := fun w hw => vx_ot_at hW0 hvm.symm (hgood w (List.mem_cons_of_mem _ (List.mem_cons_of_mem _ hw))) (hat w hw)
  have hk' : (Cond.classLink own ik cls).before args s' = true := vx_ot_at hW0 hvm.symm (hgood _ List.mem_cons_self) hk
  have hini' : (Cond.initialized cls).before args s' = true := vx_ot_at hW0 hvm.symm (hgood _ (List.mem_cons_of_mem _ List.mem_cons_self)) hini
  have hU' : vx_Zq Bundle.tN "UNASSIGNED_STACK" Bundle.steD A s' s'.heap := by rw [hhp]; exact vx_Zq.moved hW0.alike (hU.kept hS.2.1)
  have hN' : vx_Zq Bundle.tN "SUPPRESSED_SENTINEL" Bundle.listD A s' s'.heap := by rw [hhp]; exact vx_Zq.moved hW0.alike (hN.kept hS.2.1)
  have h : ∀ w ∈ Bundle.ownAtoms0 own ic cls names, w.before args s' = true := vx_own hat' (vx_isRefq hU'.1) (vx_isRefq hN'.1) hU'.2.word hN'.2.word
  have hown' : s'.vm.findClass own = some m.cls := by rw [hvm]; exact hown
  have hins : (Cond.instantiable cls 6).before args s' = true := h _ (by simp [Bundle.ownAtoms0])
  obtain ⟨vm₁, cX, kX, hfX, hkX, -, -, X₁, st1⟩ := Y.newCold hexec (own := own) (C := cls) (index := ik) (n := 6) hown' hk' hins hini'
    (g := F0 m pc ls rest) rfl (by rw [hb]; exact d0) (Nat.le_refl _) (Nat.le_refl _)
  generalize hT1 : (T.setVm vm₁).pushCell { cls := cX, slots := kX.instanceTypes.map defaultValue, vm := .none } = T1 at X₁ st1
  have hcat : (Value.ref T.heap.size).category = 1 := rfl
  have hcellA : T1.heap[T.heap.size]? = some (freshCell cX kX) := by rw [← hT1]; exact State.heap_pushCell_size _ _
  have d3' : decode c.code (pc + 3) = .ok (.dup, 1) := by rw [hb]; exact d3
  obtain ⟨U, hsteps, hrun, hend, hW, hsame, ce, hce, hO⟩ := X₁.ctorThrow0 hexec htr (own := own) (cls := cls) (names := names) (ic := ic) hown' hcls hnames h (fun x hx => nomatch hx) hfX hkX hcellA (by rw [hhp, hT]; exact Nat.le_refl _)
    (g := { method := m, pc := pc + 4, locals := ls, stack := .ref T.heap.size :: .ref T.heap.size :: rest, locked := none }) rfl hsize rfl rfl (rest := rest) rfl
    (by rw [hb]; exact d4) (by rw [hb]; exact d7) hout hRframes (by simp only [List.map_cons, List.sum_cons, hcat]; omega) hlocks
  obtain ⟨f1, f2⟩ := vx_frame hsame
  rw [hhp] at f1 f2
  have hWs : s.WarmedH U.vm := State.WarmedH.trans hW0 hW
  have hcl : s.vm.findClass cls = some ce.cls := by
    have h9 := hO.cls
    rw [hvm] at h9
    exact h9
  have hall : s.sameButNew ({ U with vm := s.vm } : State) locs mc ms := by
    subst hA
    obtain ⟨e1, e2⟩ := hsame
    rw [State.setFrames_setFrames] at e1
    have h2 : (T.setVm s.vm).sameButNew ({ U with vm := s.vm } : State) [] (0 + 1) (0 + 6) := ⟨e1, e2⟩
    have h3 := X.same.trans h2
    rw [List.append_nil] at h3
    exact h3.mono hc hs
  refine ⟨U, ?_, .threw T.heap.size, hrun, hend, Or.inr ⟨T.heap.size, rfl, cls, ce, locs, hx U hWs.alike f1 (fun q hq => f2 q hq (fun z hz => nomatch hz)), hce, hO.vm, hcl, hWs, hall, hf⟩⟩
  refine st1 _ ?_
  show Steps p.tables e below (T1.setTop { method := m, pc := pc + 3, locals := ls, stack := .ref T.heap.size :: rest, locked := none }) _
  jvm_step X₁.here [X₁.here.top, hexec, d3', Value.category]
  exact hsteps
/-- 'throw new E("text")': new; dup; ldc; invokespecial; athrow -/
theorem vx_throwS {cc : ByteArray} {pc : Nat} (hexec : p.tables.exec = Jvm.exec) (hb : c.code = cc) (hl : l.stackTraces = false) {own cls text : String} {names : List String} {ik is ic mc ms sa : Nat} {A : Nat → Prop}
    (hown : s.vm.findClass own = some m.cls) (hcls : Bundle.fit cls = true) (hnames : ∀ n ∈ names, Bundle.fit n = true)
    (hk : (Cond.classLink own ik cls).before args s = true) (hini : (Cond.initialized cls).before args s = true) (hstr : vk_R own is text sa s) (hat : ∀ w ∈ vx_atS own ic cls names, w.before args s = true)
    (hgood : ∀ w ∈ Cond.classLink own ik cls :: Cond.initialized cls :: vx_atS own ic cls names, vx_ot w = true)
    (hU : vx_Zq Bundle.tN "UNASSIGNED_STACK" Bundle.steD A s s.heap) (hN : vx_Zq Bundle.tN "SUPPRESSED_SENTINEL" Bundle.listD A s s.heap) (hS : va_S A s.heap H locs) (hsize : ls.size = c.maxLocals)
    (d0 : decode cc pc = .ok (.new ik, 3)) (d3 : decode cc (pc + 3) = .ok (.dup, 1)) (d4 : decode cc (pc + 4) = .ok (.ldc is, 2)) (d6 : decode cc (pc + 6) = .ok (.invokespecial ic, 3)) (d9 : decode cc (pc + 9) = .ok (.athrow, 1))
    (hout : ∀ x ∈ c.exceptionTable.toList, covers x (pc + 9) = false)
    (hRframes : names.length + 3 < R.frames) (hRlocals : (rest.map fun v => v.category).sum + (13 * (names.length + 1) + 43) ≤ R.locals) (hRcells : cells + 1 ≤ R.cells) (hRslots : slots + 6 ≤ R.slots) (hlocks : meth.locks = false)
    (hx : ∀ t : State, s.vm.Alike t.vm → H.size ≤ t.heap.size → (∀ q : Nat, q < H.size → t.heap[q]? = H[q]?) → XC cls s t)
    (hf : ∀ z ∈ locs, free z.base) (hc : cells + 1 ≤ mc) (hs : slots + 6 ≤ ms) :
    W p l e R s m args below meth c H locs cells slots (vx_MQ below Qc XC args s mc ms free) (F0 m pc ls rest) := by
  intro T hT X
  have htr : e.platform.stackTraces = false := (show e.platform.stackTraces = l.stackTraces by rw [X.admits.platform]).trans hl
  have Y := vx_rebase X (R' := { frames := R.frames, locals := R.locals, cells := 1, slots := 6 }) (Nat.le_refl _) (Nat.le_refl _) hRcells hRslots
  obtain ⟨s', hA⟩ : ∃ z, z = (T.setVm s.vm).setFrames (.invoking m args :: below) := ⟨_, rfl⟩
  rw [← hA] at Y
  have hvm : s'.vm = s.vm := by rw [hA]; rfl
  have hhp : s'.heap = H := by rw [hA]; exact hT
  have hW0 : s.WarmedH s'.vm := by rw [hvm]; exact State.WarmedH.refl s
  have hat' : ∀ w ∈ vx_atS own ic cls names, w.before args s' = true := fun w hw => vx_ot_at hW0 hvm.symm (hgood w (List.mem_cons_of_mem _ (List.mem_cons_of_mem _ hw))) (hat w hw)
  have hk' : (Cond.classLink own ik cls).before args s' = true := vx_ot_at hW0 hvm.symm (hgood _ List.mem_cons_self) hk
  have hini' : (Cond.initialized cls).before args s' = true := vx_ot_at hW0 hvm.symm (hgood _ (List.mem_cons_of_mem _ List.mem_cons_self)) hini
  have hU' : vx_Zq Bundle.tN "UNASSIGNED_STACK" Bundle.steD A s' s'.heap := by rw [hhp]; exact vx_Zq.moved hW0.alike (hU.kept hS.2.1)
  have hN' : vx_Zq Bundle.tN "SUPPRESSED_SENTINEL" Bundle.listD A s' s'.heap := by rw [hhp]; exact vx_Zq.moved hW0.alike (hN.kept hS.2.1)
  have h : ∀ w ∈ Bundle.ownAtoms own ic cls names, w.before args s' = true := vx_own hat' (vx_isRefq hU'.1) (vx_isRefq hN'.1) hU'.2.word hN'.2.word
  have hown' : s'.vm.findClass own = some m.cls := by rw [hvm]; exact hown
  have hins : (Cond.instantiable cls 6).before args s' = true := h _ (by simp [Bundle.ownAtoms])
  obtain ⟨vm₁, cX, kX, hfX, hkX, -, -, X₁, st1⟩ := Y.newCold hexec (own := own) (C := cls) (index := ik) (n := 6) hown' hk' hins hini'
    (g := F0 m pc ls rest) rfl (by rw [hb]; exact d0) (Nat.le_refl _) (Nat.le_refl _)
  generalize hT1 : (T.setVm vm₁).pushCell { cls := cX, slots := kX.instanceTypes.map defaultValue, vm := .none } = T1 at X₁ st1
  have hcat : (Value.ref T.heap.size).category = 1 := rfl
  have hcellA : T1.heap[T.heap.size]? = some (freshCell cX kX) := by rw [← hT1]; exact State.heap_pushCell_size _ _
  have d3' : decode c.code (pc + 3) = .ok (.dup, 1) := by rw [hb]; exact d3
  have d4' : decode c.code (pc + 4) = .ok (.ldc is, 2) := by rw [hb]; exact d4
  have hstr' : vk_R own is text sa s' := vk_R.warm hW0 hstr
  obtain ⟨U, hsteps, hrun, hend, hW, hsame, ce, hce, hO⟩ := X₁.ctorThrowS hexec htr (own := own) (cls := cls) (names := names) (ic := ic) hown' hcls hnames h (fun x hx => nomatch hx) hfX hkX hcellA (by rw [hhp, hT]; exact Nat.le_refl _) (msg := .ref sa) rfl
    (g := { method := m, pc := pc + 6, locals := ls, stack := .ref sa :: .ref T.heap.size :: .ref T.heap.size :: rest, locked := none }) rfl hsize rfl rfl (rest := rest) rfl
    (by rw [hb]; exact d6) (by rw [hb]; exact d9) hout hRframes (by simp only [List.map_cons, List.sum_cons, hcat]; omega) hlocks
  obtain ⟨f1, f2⟩ := vx_frame hsame
  rw [hhp] at f1 f2
  have hWs : s.WarmedH U.vm := State.WarmedH.trans hW0 hW
  have hcl : s.vm.findClass cls = some ce.cls := by
    have h9 := hO.cls
    rw [hvm] at h9
    exact h9
  have hall : s.sameButNew ({ U with vm := s.vm } : State) locs mc ms := by
    subst hA
    obtain ⟨e1, e2⟩ := hsame
    rw [State.setFrames_setFrames] at e1
    have h2 : (T.setVm s.vm).sameButNew ({ U with vm := s.vm } : State) [] (0 + 1) (0 + 6) := ⟨e1, e2⟩
    have h3 := X.same.trans h2
    rw [List.append_nil] at h3
    exact h3.mono hc hs
  refine ⟨U, ?_, .threw T.heap.size, hrun, hend, Or.inr ⟨T.heap.size, rfl, cls, ce, locs, hx U hWs.alike f1 (fun q hq => f2 q hq (fun z hz => nomatch hz)), hce, hO.vm, hcl, hWs, hall, hf⟩⟩
  refine st1 _ ?_
  show Steps p.tables e below (T1.setTop { method := m, pc := pc + 3, locals := ls, stack := .ref T.heap.size :: rest, locked := none }) _
  jvm_step X₁.here [X₁.here.top, hexec, d3', Value.category]
  exact X₁.ldcString hexec (own := own) (text := text) (index := is) (a := sa) hown' hstr'.1 hstr'.2
    (g := { method := m, pc := pc + 4, locals := ls, stack := .ref T.heap.size :: .ref T.heap.size :: rest, locked := none }) rfl d4' _ hsteps
/-- 'throw new E("text")', the text by a wide index -/
theorem vx_throwSW {cc : ByteArray} {pc : Nat} (hexec : p.tables.exec = Jvm.exec) (hb : c.code = cc) (hl : l.stackTraces = false) {own cls text : String} {names : List String} {ik is ic mc ms sa : Nat} {A : Nat → Prop}
    (hown : s.vm.findClass own = some m.cls) (hcls : Bundle.fit cls = true) (hnames : ∀ n ∈ names, Bundle.fit n = true)
    (hk : (Cond.classLink own ik cls).before args s = true) (hini : (Cond.initialized cls).before args s = true) (hstr : vk_R own is text sa s) (hat : ∀ w ∈ vx_atS own ic cls names, w.before args s = true)
    (hgood : ∀ w ∈ Cond.classLink own ik cls :: Cond.initialized cls :: vx_atS own ic cls names, vx_ot w = true)
    (hU : vx_Zq Bundle.tN "UNASSIGNED_STACK" Bundle.steD A s s.heap) (hN : vx_Zq Bundle.tN "SUPPRESSED_SENTINEL" Bundle.listD A s s.heap) (hS : va_S A s.heap H locs) (hsize : ls.size = c.maxLocals)
    (d0 : decode cc pc = .ok (.new ik, 3)) (d3 : decode cc (pc + 3) = .ok (.dup, 1)) (d4 : decode cc (pc + 4) = .ok (.ldc_w is, 3)) (d7 : decode cc (pc + 7) = .ok (.invokespecial ic, 3)) (d10 : decode cc (pc + 10) = .ok (.athrow, 1))
    (hout : ∀ x ∈ c.exceptionTable.toList, covers x (pc + 10) = false)
    (hRframes : names.length + 3 < R.frames) (hRlocals : (rest.map fun v => v.category).sum + (13 * (names.length + 1) + 43) ≤ R.locals) (hRcells : cells + 1 ≤ R.cells) (hRslots : slots + 6 ≤ R.slots) (hlocks : meth.locks = false)
    (hx : ∀ t : State, s.vm.Alike t.vm → H.size ≤ t.heap.size → (∀ q : Nat, q < H.size → t.heap[q]? = H[q]?) → XC cls s t)
    (hf : ∀ z ∈ locs, free z.base) (hc : cells + 1 ≤ mc) (hs : slots + 6 ≤ ms) :
    W p l e R s m args below meth c H locs cells slots (vx_MQ below Qc XC args s mc ms free) (F0 m pc ls rest) := by
  intro T hT X
  have htr : e.platform.stackTraces = false := (show e.platform.stackTraces = l.stackTraces by rw [X.admits.platform]).trans hl
  have Y := vx_rebase X (R' := { frames := R.frames, locals := R.locals, cells := 1, slots := 6 }) (Nat.le_refl _) (Nat.le_refl _) hRcells hRslots
  obtain ⟨s', hA⟩ : ∃ z, z = (T.setVm s.vm).setFrames (.invoking m args :: below) := ⟨_, rfl⟩
  rw [← hA] at Y
  have hvm : s'.vm = s.vm := by rw [hA]; rfl
  have hhp : s'.heap = H := by rw [hA]; exact hT
  have hW0 : s.WarmedH s'.vm := by rw [hvm]; exact State.WarmedH.refl s
  have hat' : ∀ w ∈ vx_atS own ic cls names, w.before args s' = true := fun w hw => vx_ot_at hW0 hvm.symm (hgood w (List.mem_cons_of_mem _ (List.mem_cons_of_mem _ hw))) (hat w hw)
  have hk' : (Cond.classLink own ik cls).before args s' = true := vx_ot_at hW0 hvm.symm (hgood _ List.mem_cons_self) hk
  have hini' : (Cond.initialized cls).before args s' = true := vx_ot_at hW0 hvm.symm (hgood _ (List.mem_cons_of_mem _ List.mem_cons_self)) hini
  have hU' : vx_Zq Bundle.tN "UNASSIGNED_STACK" Bundle.steD A s' s'.heap := by rw [hhp]; exact vx_Zq.moved hW0.alike (hU.kept hS.2.1)
  have hN' : vx_Zq Bundle.tN "SUPPRESSED_SENTINEL" Bundle.listD A s' s'.heap := by rw [hhp]; exact vx_Zq.moved hW0.alike (hN.kept hS.2.1)
  have h : ∀ w ∈ Bundle.ownAtoms own ic cls names, w.before args s' = true := vx_own hat' (vx_isRefq hU'.1) (vx_isRefq hN'.1) hU'.2.word hN'.2.word
  have hown' : s'.vm.findClass own = some m.cls := by rw [hvm]; exact hown
  have hins : (Cond.instantiable cls 6).before args s' = true := h _ (by simp [Bundle.ownAtoms])
  obtain ⟨vm₁, cX, kX, hfX, hkX, -, -, X₁, st1⟩ := Y.newCold hexec (own := own) (C := cls) (index := ik) (n := 6) hown' hk' hins hini'
    (g := F0 m pc ls rest) rfl (by rw [hb]; exact d0) (Nat.le_refl _) (Nat.le_refl _)
  generalize hT1 : (T.setVm vm₁).pushCell { cls := cX, slots := kX.instanceTypes.map defaultValue, vm := .none } = T1 at X₁ st1
  have hcat : (Value.ref T.heap.size).category = 1 := rfl
  have hcellA : T1.heap[T.heap.size]? = some (freshCell cX kX) := by rw [← hT1]; exact State.heap_pushCell_size _ _
  have d3' : decode c.code (pc + 3) = .ok (.dup, 1) := by rw [hb]; exact d3
  have d4' : decode c.code (pc + 4) = .ok (.ldc_w is, 3) := by rw [hb]; exact d4
  have hstr' : vk_R own is text sa s' := vk_R.warm hW0 hstr
  obtain ⟨U, hsteps, hrun, hend, hW, hsame, ce, hce, hO⟩ := X₁.ctorThrowS hexec htr (own := own) (cls := cls) (names := names) (ic := ic) hown' hcls hnames h (fun x hx => nomatch hx) hfX hkX hcellA (by rw [hhp, hT]; exact Nat.le_refl _) (msg := .ref sa) rfl
    (g := { method := m, pc := pc + 7, locals := ls, stack := .ref sa :: .ref T.heap.size :: .ref T.heap.size :: rest, locked := none }) rfl hsize rfl rfl (rest := rest) rfl
    (by rw [hb]; exact d7) (by rw [hb]; exact d10) hout hRframes (by simp only [List.map_cons, List.sum_cons, hcat]; omega) hlocks
  obtain ⟨f1, f2⟩ := vx_frame hsame
  rw [hhp] at f1 f2
  have hWs : s.WarmedH U.vm := State.WarmedH.trans hW0 hW
  have hcl : s.vm.findClass cls = some ce.cls := by
    have h9 := hO.cls
    rw [hvm] at h9
    exact h9
  have hall : s.sameButNew ({ U with vm := s.vm } : State) locs mc ms := by
    subst hA
    obtain ⟨e1, e2⟩ := hsame
    rw [State.setFrames_setFrames] at e1
    have h2 : (T.setVm s.vm).sameButNew ({ U with vm := s.vm } : State) [] (0 + 1) (0 + 6) := ⟨e1, e2⟩
    have h3 := X.same.trans h2
    rw [List.append_nil] at h3
    exact h3.mono hc hs
  refine ⟨U, ?_, .threw T.heap.size, hrun, hend, Or.inr ⟨T.heap.size, rfl, cls, ce, locs, hx U hWs.alike f1 (fun q hq => f2 q hq (fun z hz => nomatch hz)), hce, hO.vm, hcl, hWs, hall, hf⟩⟩
  refine st1 _ ?_
  show Steps p.tables e below (T1.setTop { method := m, pc := pc + 3, locals := ls, stack := .ref T.heap.size :: rest, locked := none }) _
  jvm_step X₁.here [X₁.here.top, hexec, d3', Value.category]
  exact X₁.ldcStringW hexec (own := own) (text := text) (index := is) (a := sa) hown' hstr'.1 hstr'.2
    (g := { method := m, pc := pc + 4, locals := ls, stack := .ref T.heap.size :: .ref T.heap.size :: rest, locked := none }) rfl d4' _ hsteps
end Ends
section Bodies
variable {l : Launch}
theorem vx_ofW {y : MethodName} {ws ws' : List Cond} {rm : Room} {Pc : Array Value → State → Prop} {Qc : Array Value → State → Outcome → State → Prop} {XC : String → State → State → Prop} {mc ms : Nat} {free : Addr → Prop} {cc : ByteArray} {maxL : Nat} {ret : Option FieldType}
    (hy : plainName y.cls = true) (hw : ws = Cond.code y cc maxL ret :: ws')
    (body : ∀ p e s m args below meth c s₁, BodyLoose p l y (headSpec ws rm) cc maxL ret e s m args below meth c s₁ → c.maxLocals = maxL → (∀ x ∈ c.exceptionTable.toList, False) → Pc args s →
      W p l e (headSpec ws rm).room s m args below meth c s.heap [] 0 0 (vx_MQ below Qc XC args s mc ms free) (entryFrame m args maxL)) : vx_Met l y ws rm Pc Qc XC mc ms free := by
  refine MetFree.of_bodyS (code := cc) (maxLocals := maxL) (ret := ret) hy ?_ ?_
  · intro args s m h hn
    obtain ⟨meth, c, h1, h2, h3, h4, h5, h6, -, -⟩ := Cond.code_spec hn (atoms_spec (ws := ws) h _ (by rw [hw]; exact List.mem_cons_self))
    exact ⟨meth, c, h1, h2, h3, h4, h5, h6⟩
  · intro p e s m args below meth c s₁ B hml hP _
    have hh0 : s₁.heap = s.heap := by rw [B.state]; rfl
    have ht : ∀ x ∈ c.exceptionTable.toList, False := by
      obtain ⟨meth9, c9, h1, h2, -, -, -, -, h7, -⟩ := Cond.code_spec B.named (atoms_spec (ws := ws) B.pre _ (by rw [hw]; exact List.mem_cons_self))
      cases Option.some.inj (h1.symm.trans B.method)
      cases Option.some.inj (h2.symm.trans (Stand.of_body B).code)
      intro x hx
      rw [Array.isEmpty_iff.mp h7] at hx
      cases hx
    obtain ⟨t, a1, o, b1, b2, b3⟩ := body p e s m args below meth c s₁ B hml ht hP s₁ hh0 (Stand.of_body B)
    exact ⟨t, o, a1, b1, b2, b3⟩
/-- the table of a body with handlers -/
theorem vx_table {p : Program} {x y : MethodName} {S : Spec} {cc bytes : ByteArray} {maxL maxL' : Nat} {ret ret' : Option FieldType} {e : Env} {s s₁ : State} {m : MethodId} {args : Array Value} {below : List Frame} {meth : Method} {c : Code} {hh : List (Nat × Nat × Nat × Nat)}
    (B : BodyLoose p l y S cc maxL ret e s m args below meth c s₁) (h : (Cond.codeWith y bytes maxL' ret' hh).before args s = true) : c.exceptionTable.toList = tableOf hh := by
  obtain ⟨m9, meth9, c9, hn9, h1, h2, -, -, h6, -⟩ := Cond.codeWith_spec h
  cases Option.some.inj (hn9.symm.trans B.named)
  cases Option.some.inj (h1.symm.trans B.method)
  cases Option.some.inj (h2.symm.trans (Stand.of_body B).code)
  rw [← h6, table_eq]
end Bodies
end VXA
/-! ===== END ===== -/
/-! ===== BEGIN a static call of a method with an exception table ===== -/
section VXS
variable {p : Program} {l : Launch} {e : Env} {R : Room} {s : State} {m : MethodId} {args : Array Value} {below : List Frame} {meth : Method} {c : Code} {T : State} {H : Heap} {locs : List Loc} {cells slots : Nat}
abbrev vx_CSW (R : Room) (s : State) (args : Array Value) (own : String) (index : Nat) (y : MethodName) (bytes : ByteArray) (maxL : Nat) (ret : Option FieldType) (hh : List (Nat × Nat × Nat × Nat)) (ws : List Cond) (rm : Room) (mc ms n : Nat) : Prop :=
  (rm.cells = mc ∧ rm.slots = ms ∧ rm.frames + 1 ≤ R.frames ∧ 8 + (maxL + 11) + rm.locals ≤ R.locals ∧ (∀ w ∈ ws, ∀ (a' : Array Value) (U : State), s.WarmedH U.vm → w.before a' U = true) ∧ Cond.codeWith y bytes maxL ret hh ∈ ws) ∧
  (Cond.codeWith y bytes maxL ret hh).before args s = true ∧ (Cond.initialized y.cls).before args s = true ∧ (y.cls ≠ "java/lang/invoke/MethodHandle" ∧ y.cls ≠ "java/lang/invoke/VarHandle") ∧
  (∀ sig, parseMethodDescriptor y.desc = some sig → n = sig.parameters.length) ∧ (Cond.methodLink own index y).before args s = true ∧ (Cond.static y).before args s = true
theorem vx_cwSW {own : String} {index maxL mc ms : Nat} {y : MethodName} {bytes : ByteArray} {ret : Option FieldType} {hh : List (Nat × Nat × Nat × Nat)} {Ts ws ws' : List Cond} {rm : Room} (n : Nat) (ht : ∀ w ∈ Ts, w.before args s = true) (hT : GoodIn Ts (va_wsS own index y ws)) (hw : ws = Cond.codeWith y bytes maxL ret hh :: ws') (hrc : rm.cells = mc) (hrs : rm.slots = ms)
    (hd : y.cls ≠ "java/lang/invoke/MethodHandle" ∧ y.cls ≠ "java/lang/invoke/VarHandle" ∧ (parseMethodDescriptor y.desc).map (fun d => d.parameters.length) = some n) (hR : rm.frames + 1 ≤ R.frames ∧ 8 + (maxL + 11) + rm.locals ≤ R.locals) :
    vx_CSW R s args own index y bytes maxL ret hh ws rm mc ms n := by
  have ok : ∀ w ∈ va_wsS own index y ws, w.before args s = true := fun w h => ht w (hT w h).1
  have hG : GoodIn Ts ws := fun w h => hT w (by unfold va_wsS; exact List.mem_append_right _ h)
  have hc : Cond.codeWith y bytes maxL ret hh ∈ ws := by rw [hw]; exact List.mem_cons_self
  refine ⟨⟨hrc, hrs, hR.1, hR.2, pay_in ht hG, hc⟩, ht _ (hG _ hc).1, ok _ (by simp [va_wsS]), ⟨hd.1, hd.2.1⟩, fun sig h => ?_, ok _ (by simp [va_wsS]), ok _ (by simp [va_wsS])⟩
  have h2 := hd.2.2
  rw [h] at h2
  exact (Option.some.inj h2).symm
theorem vx_callSW (X : Stand p l e R s m args below meth c T locs cells slots) (hexec : p.tables.exec = Jvm.exec) {own : String} {index : Nat} {y : MethodName} {bytes : ByteArray} {maxL : Nat} {ret : Option FieldType} {hh : List (Nat × Nat × Nat × Nat)}
    (hown : s.vm.findClass own = some m.cls) (hlink : (Cond.methodLink own index y).before args s = true) (hstat : (Cond.static y).before args s = true) (hinit : (Cond.initialized y.cls).before args s = true)
    (hcode : (Cond.codeWith y bytes maxL ret hh).before args s = true) (hy : y.cls ≠ "java/lang/invoke/MethodHandle" ∧ y.cls ≠ "java/lang/invoke/VarHandle")
    {W9 : Nat} {Pre : Pt → Array Value → Prop} {Post : Pt → Array Value → Option Value → Pt → Prop} (hK : Back l R p e below s args y 3 W9 Pre Post)
    {g : JFrame} (hg : g.method = m) (hsize : g.locals.size = c.maxLocals) {argsL rest : List Value} (hlen : ∀ sig, parseMethodDescriptor y.desc = some sig → argsL.length = sig.parameters.length)
    (hstack : g.stack = argsL.reverse ++ rest) (hW : 2 * g.monitorRoom + (rest.map fun v => v.category).sum ≤ W9) (hdg : decode c.code g.pc = .ok (.invokestatic index, 3))
    (hpre : ∀ vm₁, s.WarmedH vm₁ → Pre ⟨T.setVm vm₁, locs, cells, slots⟩ argsL.toArray) :
    ∃ (v : Option Value) (vm₁ : Vm) (B : Pt), s.WarmedH vm₁ ∧ Stand p l e R s m args below meth c B.U B.locs B.cells B.slots ∧ Post ⟨T.setVm vm₁, locs, cells, slots⟩ argsL.toArray v B ∧
      ∀ target, Steps p.tables e below (B.U.setTop { g with pc := g.pc + 3, stack := v.toList ++ rest }) target → Steps p.tables e below (T.setTop g) target := by
  obtain ⟨mk, methM, cM, hnamed, hmethM, -, -, -, -, -, -, hsigM⟩ := Cond.codeWith_spec hcode
  have hstatic : methM.isStatic = true := Cond.static_spec hnamed hmethM hstat
  obtain ⟨kP, hkP, -⟩ := className_of_methodNamed hnamed
  have hinitP : kP.init = .initialized := Cond.initialized_spec (findClass_of_methodNamed hnamed) hkP hinit
  obtain ⟨vm₁, X₁, hstep₁⟩ := X.invokestatic hexec hown hlink hnamed hmethM hstatic hkP hinitP hy (g := g) hg (argsL := argsL) (rest := rest) (hlen _ hsigM) hstack hdg
  obtain ⟨v, B, X', hpost, hsteps⟩ := hK m meth c ⟨T.setVm vm₁, locs, cells, slots⟩ { g with stack := rest } (.invokestatic index) mk argsL.toArray X₁ hg hsize hdg hW (X₁.named hnamed) (hpre vm₁ X₁.warmed)
  exact ⟨v, vm₁, B, X₁.warmed, X', hpost, fun target h => hstep₁ _ fun acts => by rw [doInvoke_state]; exact hsteps.trans h⟩
theorem vx_runSW {y : MethodName} {bytes cc : ByteArray} {maxL nL mc ms n index : Nat} {ret : Option FieldType} {hh : List (Nat × Nat × Nat × Nat)} {ws : List Cond} {rm : Room} {Pc : Array Value → State → Prop} {Qc : Array Value → State → Outcome → State → Prop} {free : Addr → Prop} {Ts : List Cond} {own : String} {As rest : List Value} {g : JFrame}
    (S : CallFix p m c cc nL s args Ts own) (hM : Met l y ws rm Pc Qc mc ms free) (cw : vx_CSW R s args own index y bytes maxL ret hh ws rm mc ms n) (hp : PreS s H Pc As)
    (hg : g.method = m) (hn : As.length = n) (hsize : g.locals.size = nL) (hstack : g.stack = As.reverse ++ rest) (hW : 2 * g.monitorRoom + (rest.map fun v => v.category).sum ≤ 8) (hdg : decode cc g.pc = .ok (.invokestatic index, 3)) (hf : cells + mc ≤ R.cells ∧ slots + ms ≤ R.slots) :
    va_Run p l e R s m args below meth c H locs cells slots mc ms g rest (Qc As.toArray) (free) := by
  obtain ⟨⟨hrc, hrs, hfr, hlo, hws, hcw⟩, hcode, hini, hy, hlen, hl, hstt⟩ := cw
  have hK : Back l R p e below s args y 3 8 (PreOf R mc ms Pc) (PostOf Qc mc ms free) := va_backW (hh := hh) (bytes := bytes) (maxL := maxL) (ret := ret) hM hp.1 hrc hrs hfr hlo hws hcw (fun a' U hW => word_at hW (Or.inl (by first | rfl | simp [Cond.onTables, Cond.keeps, Cond.steady])) hini)
  obtain ⟨hx, hb, hml, ho, -⟩ := S
  intro T hT X
  obtain ⟨v, vm₁, ⟨U', l2, c2, s2⟩, hW₁, X', ⟨g', mk, t, L, e1, e2, hq, h1, hL, h2, h3⟩, st⟩ := vx_callSW X hx (hh := hh) (bytes := bytes) (maxL := maxL) (ret := ret) ho hl hstt hini hcode hy hK hg (hsize.trans hml.symm) (argsL := As) (rest := rest) (fun sig h => hn.trans (hlen sig h)) hstack hW (by rw [hb]; exact hdg)
    (fun vm₁ hW₁ => ⟨hf.1, hf.2, hp.2 (T.setVm vm₁) hT hW₁⟩)
  dsimp only [Pt.U, Pt.locs, Pt.cells, Pt.slots] at X' e1 e2 h1 h2 h3 st
  subst h1; subst h2; subst h3
  exact ⟨v, (T.setVm vm₁).calling g' mk As.toArray, t, U', L, hT, X', hL, e1, e2, hq, st⟩
/-- not caught here, past rows that name other classes: it goes on to the caller -/
theorem vx_outP {p : Program} {l : Launch} {e : Env} {R : Room} {s : State} {m : MethodId} {args : Array Value} {below : List Frame} {meth : Method} {c : Code} {H : Heap} {locs : List Loc} {cells slots : Nat} {free : Addr → Prop} {ls : Array Slot} {rest : List Value} {Qc : Array Value → State → Outcome → State → Prop} {XC : String → State → State → Prop}
    {pc : Nat} {own E : String} {ce : Cell} {q : Addr} {mc ms : Nat} (hown : s.vm.findClass own = some m.cls) (hlocks : meth.locks = false)
    (hpass : ∀ z ∈ c.exceptionTable.toList, covers z pc = false ∨ (z.catchType ≠ 0 ∧ ∃ nm : String, (Cond.classLink own z.catchType nm).before args s = true ∧ va_Nc E nm s)) (hcell : H[q]? = some ce) (hv : ce.vm = .none) (hcl : s.vm.findClass E = some ce.cls)
    (hx : ∀ t : State, t.heap = H → s.vm.Alike t.vm → XC E s t) (hf : ∀ z ∈ locs, free z.base) (hc : cells ≤ mc) (hs : slots ≤ ms) :
    vx_W p l e R s m args below meth c H locs cells slots (vx_MQ below Qc XC args s mc ms free) (F0 m pc ls rest) q := by
  intro T hT X
  have hpl : e.platform.magicAccessors = ({} : Platform).magicAccessors := by rw [X.admits.platform]
  obtain ⟨vm', hW', X', st⟩ := X.outThrough hlocks q (g := F0 m pc ls rest) rfl rfl rfl (cell := ce) (by rw [hT]; exact hcell) (by rw [hv]; rfl)
    (by obtain ⟨k9, h9, -⟩ := Vm.findClass_spec hcl; exact ⟨k9, h9⟩) (fun z hz => by
      rcases hpass z hz with h | ⟨hz0, nm, hl1, hn1⟩
      · exact Or.inl h
      · obtain ⟨c6, hc6, hcl6⟩ := Cond.classLink_spec hown hl1 e.platform hpl
        obtain ⟨a8, b8, h1, h2, h3⟩ := hn1
        cases Option.some.inj (h1.symm.trans hcl)
        cases Option.some.inj (h2.symm.trans hc6)
        exact Or.inr ⟨hz0, _, hcl6, h3⟩)
  obtain ⟨g₀, hfr⟩ := X'.frames_eq
  have hcell9 : ((T.setVm vm').setFrames (.throwing q :: below)).heap[q]? = some ce := by
    show T.heap[q]? = some ce
    rw [hT]; exact hcell
  have hend : Ended ((T.setVm vm').setFrames (.throwing q :: below)) below (.threw q) := State.frames_setFrames _ (State.cur_lt_of_frames hfr)
  refine ⟨(T.setVm vm').setFrames (.throwing q :: below), ?_, .threw q, X'.here.running, hend, Or.inr ⟨q, rfl, E, ce, locs, hx _ hT (X'.ends _).1.alike, hcell9, hv, hcl, (X'.ends _).1, (X'.ends _).2.mono hc hs, hf⟩⟩
  rw [X.pushThrowing_eq]
  exact st
/-- a thing of a world lies in the heap -/
theorem vx_lt {D : va_G} {cl : List vw_C} {ws : va_W} {H1 : Heap} (h : va_P D cl ws H1) {k : Nat} {q : Nat × va_E} (hk : ws[k]? = some q) : q.1 < H1.size := (h k q hk).lt
end VXS
/-! ===== END ===== -/
/-! ===== BEGIN methods with a table of their own: called by a name, returning or throwing ===== -/
section VXH
/-! vx_backW, vx_callVX, vx_callSX, vx_callVW, vx_runVW, vx_runVX, vx_runSX, vx_ofWH follow the same proofs as their sisters above (Free/Laws.lean, Shelf42/LK1.lean); vx_outP calls Shelf42/NT130.lean (outThrough). -/
section
variable {l : Launch} {R : Room} {p : Program} {e : Env} {below : List Frame} {s : State} {sargs : Array Value} {y : MethodName} {len W9 : Nat}
theorem vx_backW {ws : List Cond} {rm : Room} {Pc : Array Value → State → Prop} {Qc : Array Value → State → Outcome → State → Prop} {XC : String → State → State → Prop} {mc ms : Nat} {free : Addr → Prop} {bytes : ByteArray} {maxL : Nat} {ret : Option FieldType} {hh : List (Nat × Nat × Nat × Nat)}
    (hM : vx_Met l y ws rm Pc Qc XC mc ms free) (hblind : FrameBlind Pc) (hrc : rm.cells = mc) (hrs : rm.slots = ms)
    (hframes : rm.frames + 1 ≤ R.frames) (hlocals : W9 + (maxL + 11) + rm.locals ≤ R.locals)
    (hws : ∀ w ∈ ws, ∀ a' U, s.WarmedH U.vm → w.before a' U = true) (hcode : Cond.codeWith y bytes maxL ret hh ∈ ws) (hinit : ∀ a' U, s.WarmedH U.vm → (Cond.initialized y.cls).before a' U = true) :
    vx_Back l R p e below s sargs y len W9 (PreOf R mc ms Pc) (PostOf Qc mc ms free) (vx_Post XC mc ms free) := by
  intro m meth c A g ig mk a X hg hsize hdg hW hn hp
  have h1 : (headSpec ws rm).pre.before a A.U = true := atoms_intro fun w hw => hws w hw _ _ X.warmed
  have h2 : (Cond.codeWith y bytes maxL ret hh).before a A.U = true := hws _ hcode _ _ X.warmed
  have h3 : (Cond.initialized y.cls).before a A.U = true := hinit _ _ X.warmed
  have h4 : A.cells + (headSpec ws rm).room.cells ≤ R.cells := by rw [show (headSpec ws rm).room.cells = mc from hrc]; exact hp.1
  have h5 : A.slots + (headSpec ws rm).room.slots ≤ R.slots := by rw [show (headSpec ws rm).room.slots = ms from hrs]; exact hp.2.1
  have hPc : Pc a (A.U.calling g mk a) := hblind _ _ _ _ hp.2.2
  obtain ⟨U, Ls, c0, s0⟩ := A
  dsimp only [Pt.U, Pt.locs, Pt.cells, Pt.slots] at h1 h2 h3 h4 h5 X hn hPc ⊢
  obtain ⟨m9, methY, cY, hn9, hmY, hcY, -, hlY, -⟩ := Cond.codeWith_spec h2
  cases Option.some.inj (hn9.symm.trans hn)
  obtain ⟨kY, hkY, -⟩ := className_of_methodNamed hn
  have hinitY : kY.init = .initialized := Cond.initialized_spec (findClass_of_methodNamed hn) hkY h3
  have h : At U g.method c below := by rw [hg]; exact X.here
  have hlocals9 : W9 + (maxL + 11) + (headSpec ws rm).room.locals ≤ R.locals := hlocals
  have happ : (headSpec ws rm).appliesLoose y e.platform (U.calling g mk a) = true :=
    Spec.appliesLoose_calling (g := g) h hdg hn hkY hinitY
      (X.room_calling (g := g) (R' := (headSpec ws rm).room) hsize hmY hcY hframes (by rw [hlY]; omega) h4 h5) h1
  obtain ⟨mid, hmid⟩ := h.above
  have hfr : (U.setTop g).frames = (.java g :: mid) ++ below := by rw [State.frames_setTop' g h.top, hmid]; rfl
  obtain ⟨o, s₂, hsteps, -, hend, hq⟩ := Steps.callFree hM p X.admits X.cas X.clock (acts := []) hfr happ hPc trivial
  have hq' : vx_Q Qc XC mc ms free a (U.calling g mk a) o s₂ := hq
  rw [State.frames_setTop' g h.top] at hend
  obtain ⟨g₀, hg0⟩ := Option.isSome_iff_exists.mp h.top
  obtain ⟨r, hr⟩ := State.topJava?_eq_some.mp hg0
  have hr' : (({ U with heap := s₂.heap, slotsUsed := s₂.slotsUsed } : State).setVm s₂.vm).frames = .java g₀ :: r := hr
  rcases hq' with ⟨hqc, L, hfe, hL⟩ | ⟨q, rfl, E, ce, L, hx, hce, hcv, hcl, hW₂, hsm, hL⟩
  · obtain ⟨⟨v, rfl⟩, hW₂, e2, q2, q3, q4, q5, q6⟩ := id hfe
    have e3 : s₂ = ({ (U.calling g mk a).setFrames s₂.frames with heap := s₂.heap, slotsUsed := s₂.slotsUsed } : State).setVm s₂.vm := by
      have : s₂ = ({ s₂ with vm := (U.calling g mk a).vm } : State).setVm s₂.vm := rfl
      rw [e2] at this
      exact this
    obtain ⟨c₂, i₂, len₂, hc₂, hd₂, hf₂⟩ := hend
    have hW' : U.WarmedH s₂.vm := hW₂
    have hcc : c₂ = c := by
      have h1 : s₂.code? g.method = U.code? g.method := by
        rw [State.code?_eq, State.code?_eq, hW'.alike.method?]
      exact Option.some.inj (hc₂.symm.trans (h1.trans h.code))
    subst hcc
    have hlen : len₂ = len := by rw [hdg] at hd₂; cases hd₂; rfl
    subst hlen
    have hs₂ : s₂ = (({ U with heap := s₂.heap, slotsUsed := s₂.slotsUsed } : State).setVm s₂.vm).setTop { g with pc := g.pc + len₂, stack := v.toList ++ g.stack } := by
      refine e3.trans ?_
      rw [hf₂, State.calling_eq h.top, State.setFrames_setFrames, State.setTop_of_frames _ hr', hr]
      rfl
    have hsame : U.sameButNew ({ U with heap := s₂.heap, slotsUsed := s₂.slotsUsed } : State) L mc ms := by
      refine ⟨?_, q2, q3, q4, q5, q6⟩
      obtain ⟨t, ht, -⟩ := State.frames_cons hr
      show ({ U with heap := s₂.heap, slotsUsed := s₂.slotsUsed } : State) = { U.setFrames U.frames with heap := s₂.heap, slotsUsed := s₂.slotsUsed }
      rw [State.setFrames_self ht]
    subst hg
    refine Or.inl ⟨v, ⟨(({ U with heap := s₂.heap, slotsUsed := s₂.slotsUsed } : State).setVm s₂.vm), Ls ++ L, c0 + mc, s0 + ms⟩,
      ⟨X.admits, X.cas, X.clock, X.frames, X.room, X.hears, X.method, X.code, (X.here.setHeapUsed s₂.heap s₂.slotsUsed).setVm hW'.alike, X.tail, State.WarmedH.trans X.warmed hW', X.limits, X.bytes, X.same.trans (hsame.setVm s.vm)⟩,
      ⟨g, mk, s₂, L, rfl, rfl, hqc, rfl, hL, rfl, rfl⟩, ?_⟩
    show Steps p.tables e below _ ((({ U with heap := s₂.heap, slotsUsed := s₂.slotsUsed } : State).setVm s₂.vm).setTop { g with pc := g.pc + len₂, stack := v.toList ++ g.stack })
    rw [← hs₂]
    exact hsteps
  · obtain ⟨e2, q2, q3, q4, q5, q6⟩ := id hsm
    have e3 : s₂ = ({ (U.calling g mk a).setFrames s₂.frames with heap := s₂.heap, slotsUsed := s₂.slotsUsed } : State).setVm s₂.vm := by
      have : s₂ = ({ s₂ with vm := (U.calling g mk a).vm } : State).setVm s₂.vm := rfl
      rw [e2] at this
      exact this
    have hf₂ : s₂.frames = .throwing q :: .java g :: U.frames.tail := hend
    have hW' : U.WarmedH s₂.vm := hW₂
    have hs₂ : s₂ = ((({ U with heap := s₂.heap, slotsUsed := s₂.slotsUsed } : State).setVm s₂.vm).setTop g).pushFrame (.throwing q) := by
      refine e3.trans ?_
      rw [hf₂, State.calling_eq h.top, State.setFrames_setFrames, State.pushFrame, State.frames_setTop _ hr', State.setTop_of_frames _ hr', State.setFrames_setFrames, hr]
      rfl
    have hsame : U.sameButNew ({ U with heap := s₂.heap, slotsUsed := s₂.slotsUsed } : State) L mc ms := by
      refine ⟨?_, q2, q3, q4, q5, q6⟩
      obtain ⟨t, ht, -⟩ := State.frames_cons hr
      show ({ U with heap := s₂.heap, slotsUsed := s₂.slotsUsed } : State) = { U.setFrames U.frames with heap := s₂.heap, slotsUsed := s₂.slotsUsed }
      rw [State.setFrames_self ht]
    subst hg
    refine Or.inr ⟨q, ⟨(({ U with heap := s₂.heap, slotsUsed := s₂.slotsUsed } : State).setVm s₂.vm), Ls ++ L, c0 + mc, s0 + ms⟩,
      ⟨X.admits, X.cas, X.clock, X.frames, X.room, X.hears, X.method, X.code, (X.here.setHeapUsed s₂.heap s₂.slotsUsed).setVm hW'.alike, X.tail, State.WarmedH.trans X.warmed hW', X.limits, X.bytes, X.same.trans (hsame.setVm s.vm)⟩,
      ⟨g, mk, s₂, L, E, ce, rfl, rfl, hx, hce, hcv, hcl, rfl, hL, rfl, rfl⟩, ?_⟩
    show Steps p.tables e below _ (((({ U with heap := s₂.heap, slotsUsed := s₂.slotsUsed } : State).setVm s₂.vm).setTop g).pushFrame (.throwing q))
    rw [← hs₂]
    exact hsteps
end
variable {p : Program} {l : Launch} {e : Env} {R : Room} {s : State} {m : MethodId} {args : Array Value} {below : List Frame} {meth : Method} {c : Code} {T : State} {H : Heap} {locs : List Loc} {cells slots : Nat}
theorem vx_callVX (X : Stand p l e R s m args below meth c T locs cells slots) (hexec : p.tables.exec = Jvm.exec) {own C : String} {index : Nat} {y : MethodName} {bytes : ByteArray} {maxL : Nat} {ret : Option FieldType} {hh : List (Nat × Nat × Nat × Nat)}
    (hown : s.vm.findClass own = some m.cls) (hlink : (Cond.methodLink own index y).before args s = true) (hinst : (Cond.instanceMethod y).before args s = true) (hsel : (Cond.selects C y y).before args s = true)
    (hcode : (Cond.codeWith y bytes maxL ret hh).before args s = true) (hy : y.cls ≠ "java/lang/invoke/MethodHandle" ∧ y.cls ≠ "java/lang/invoke/VarHandle")
    {W9 : Nat} {Pre : Pt → Array Value → Prop} {Post : Pt → Array Value → Option Value → Pt → Prop} {PostX : Pt → Array Value → Addr → Pt → Prop} (hK : vx_Back l R p e below s args y 3 W9 Pre Post PostX)
    {b : Addr} {cellB : Cell} (hcell : T.heap[b]? = some cellB) (hobj : cellB.vm.isStatics = false) (hcls : s.vm.findClass C = some cellB.cls)
    {g : JFrame} (hg : g.method = m) (hsize : g.locals.size = c.maxLocals) {argsL rest : List Value} (hlen : ∀ sig, parseMethodDescriptor y.desc = some sig → argsL.length = sig.parameters.length)
    (hstack : g.stack = argsL.reverse ++ .ref b :: rest) (hW : 2 * g.monitorRoom + (rest.map fun v => v.category).sum ≤ W9) (hdg : decode c.code g.pc = .ok (.invokevirtual index, 3))
    (hpre : ∀ vm₁, s.WarmedH vm₁ → Pre ⟨T.setVm vm₁, locs, cells, slots⟩ (Value.ref b :: argsL).toArray) :
    (∃ (v : Option Value) (vm₁ : Vm) (B : Pt), s.WarmedH vm₁ ∧ Stand p l e R s m args below meth c B.U B.locs B.cells B.slots ∧ Post ⟨T.setVm vm₁, locs, cells, slots⟩ (Value.ref b :: argsL).toArray v B ∧
      ∀ target, Steps p.tables e below (B.U.setTop { g with pc := g.pc + 3, stack := v.toList ++ rest }) target → Steps p.tables e below (T.setTop g) target) ∨
    (∃ (q : Addr) (vm₁ : Vm) (B : Pt), s.WarmedH vm₁ ∧ Stand p l e R s m args below meth c B.U B.locs B.cells B.slots ∧ PostX ⟨T.setVm vm₁, locs, cells, slots⟩ (Value.ref b :: argsL).toArray q B ∧
      Steps p.tables e below (T.setTop g) ((B.U.setTop { g with stack := rest }).pushFrame (.throwing q))) := by
  obtain ⟨mk, methM, hnamed, hmethM, hstM, habM⟩ := Cond.instanceMethod_spec hinst
  obtain ⟨m8, methM', cM, hn8, hmethM', -, -, -, -, -, -, hsigM⟩ := Cond.codeWith_spec hcode
  cases Option.some.inj (hn8.symm.trans hnamed)
  cases hmethM.symm.trans hmethM'
  obtain ⟨c2, r2, m2, q1, q2, q3, q4, kP, hkP, hkPi⟩ := Cond.selects_spec hsel
  cases hcls.symm.trans q1
  cases (State.methodFound?_of_named hnamed hy).symm.trans q2
  cases hnamed.symm.trans q3
  have hselP : selectMethod e.platform s.vm cellB.cls mk = .method mk := by rw [Launch.admits_selectMethod X.admits]; exact q4
  obtain ⟨vm₁, X₁, hstep₁⟩ := X.invokevirtual hexec hown hlink hnamed hmethM hstM hkP hkPi hy (a := b) (cell := cellB) hcell
    (fun z h => by rw [h] at hobj; cases hobj) hselP hmethM habM hkP hkPi (g := g) hg (argsL := argsL) (rest := rest) (hlen _ hsigM) hstack hdg
  rcases hK m meth c ⟨T.setVm vm₁, locs, cells, slots⟩ { g with stack := rest } (.invokevirtual index) mk (Value.ref b :: argsL).toArray X₁ hg hsize hdg hW (X₁.named hnamed) (hpre vm₁ X₁.warmed) with ⟨v, B, X', hpost, hsteps⟩ | ⟨q, B, X', hpost, hsteps⟩
  · exact Or.inl ⟨v, vm₁, B, X₁.warmed, X', hpost, fun target h => hstep₁ _ fun acts => by rw [doInvoke_state]; exact hsteps.trans h⟩
  · exact Or.inr ⟨q, vm₁, B, X₁.warmed, X', hpost, hstep₁ _ fun acts => by rw [doInvoke_state]; exact hsteps⟩
theorem vx_callSX (X : Stand p l e R s m args below meth c T locs cells slots) (hexec : p.tables.exec = Jvm.exec) {own : String} {index : Nat} {y : MethodName} {bytes : ByteArray} {maxL : Nat} {ret : Option FieldType} {hh : List (Nat × Nat × Nat × Nat)}
    (hown : s.vm.findClass own = some m.cls) (hlink : (Cond.methodLink own index y).before args s = true) (hstat : (Cond.static y).before args s = true) (hinit : (Cond.initialized y.cls).before args s = true)
    (hcode : (Cond.codeWith y bytes maxL ret hh).before args s = true) (hy : y.cls ≠ "java/lang/invoke/MethodHandle" ∧ y.cls ≠ "java/lang/invoke/VarHandle")
    {W9 : Nat} {Pre : Pt → Array Value → Prop} {Post : Pt → Array Value → Option Value → Pt → Prop} {PostX : Pt → Array Value → Addr → Pt → Prop} (hK : vx_Back l R p e below s args y 3 W9 Pre Post PostX)
    {g : JFrame} (hg : g.method = m) (hsize : g.locals.size = c.maxLocals) {argsL rest : List Value} (hlen : ∀ sig, parseMethodDescriptor y.desc = some sig → argsL.length = sig.parameters.length)
    (hstack : g.stack = argsL.reverse ++ rest) (hW : 2 * g.monitorRoom + (rest.map fun v => v.category).sum ≤ W9) (hdg : decode c.code g.pc = .ok (.invokestatic index, 3))
    (hpre : ∀ vm₁, s.WarmedH vm₁ → Pre ⟨T.setVm vm₁, locs, cells, slots⟩ argsL.toArray) :
    (∃ (v : Option Value) (vm₁ : Vm) (B : Pt), s.WarmedH vm₁ ∧ Stand p l e R s m args below meth c B.U B.locs B.cells B.slots ∧ Post ⟨T.setVm vm₁, locs, cells, slots⟩ argsL.toArray v B ∧
      ∀ target, Steps p.tables e below (B.U.setTop { g with pc := g.pc + 3, stack := v.toList ++ rest }) target → Steps p.tables e below (T.setTop g) target) ∨
    (∃ (q : Addr) (vm₁ : Vm) (B : Pt), s.WarmedH vm₁ ∧ Stand p l e R s m args below meth c B.U B.locs B.cells B.slots ∧ PostX ⟨T.setVm vm₁, locs, cells, slots⟩ argsL.toArray q B ∧
      Steps p.tables e below (T.setTop g) ((B.U.setTop { g with stack := rest }).pushFrame (.throwing q))) := by
  obtain ⟨mk, methM, cM, hnamed, hmethM, -, -, -, -, -, -, hsigM⟩ := Cond.codeWith_spec hcode
  have hstatic : methM.isStatic = true := Cond.static_spec hnamed hmethM hstat
  obtain ⟨kP, hkP, -⟩ := className_of_methodNamed hnamed
  have hinitP : kP.init = .initialized := Cond.initialized_spec (findClass_of_methodNamed hnamed) hkP hinit
  obtain ⟨vm₁, X₁, hstep₁⟩ := X.invokestatic hexec hown hlink hnamed hmethM hstatic hkP hinitP hy (g := g) hg (argsL := argsL) (rest := rest) (hlen _ hsigM) hstack hdg
  rcases hK m meth c ⟨T.setVm vm₁, locs, cells, slots⟩ { g with stack := rest } (.invokestatic index) mk argsL.toArray X₁ hg hsize hdg hW (X₁.named hnamed) (hpre vm₁ X₁.warmed) with ⟨v, B, X', hpost, hsteps⟩ | ⟨q, B, X', hpost, hsteps⟩
  · exact Or.inl ⟨v, vm₁, B, X₁.warmed, X', hpost, fun target h => hstep₁ _ fun acts => by rw [doInvoke_state]; exact hsteps.trans h⟩
  · exact Or.inr ⟨q, vm₁, B, X₁.warmed, X', hpost, hstep₁ _ fun acts => by rw [doInvoke_state]; exact hsteps⟩
theorem vx_callVW (X : Stand p l e R s m args below meth c T locs cells slots) (hexec : p.tables.exec = Jvm.exec) {own C : String} {index : Nat} {y : MethodName} {bytes : ByteArray} {maxL : Nat} {ret : Option FieldType} {hh : List (Nat × Nat × Nat × Nat)}
    (hown : s.vm.findClass own = some m.cls) (hlink : (Cond.methodLink own index y).before args s = true) (hinst : (Cond.instanceMethod y).before args s = true) (hsel : (Cond.selects C y y).before args s = true)
    (hcode : (Cond.codeWith y bytes maxL ret hh).before args s = true) (hy : y.cls ≠ "java/lang/invoke/MethodHandle" ∧ y.cls ≠ "java/lang/invoke/VarHandle")
    {W9 : Nat} {Pre : Pt → Array Value → Prop} {Post : Pt → Array Value → Option Value → Pt → Prop} (hK : Back l R p e below s args y 3 W9 Pre Post)
    {b : Addr} {cellB : Cell} (hcell : T.heap[b]? = some cellB) (hobj : cellB.vm.isStatics = false) (hcls : s.vm.findClass C = some cellB.cls)
    {g : JFrame} (hg : g.method = m) (hsize : g.locals.size = c.maxLocals) {argsL rest : List Value} (hlen : ∀ sig, parseMethodDescriptor y.desc = some sig → argsL.length = sig.parameters.length)
    (hstack : g.stack = argsL.reverse ++ .ref b :: rest) (hW : 2 * g.monitorRoom + (rest.map fun v => v.category).sum ≤ W9) (hdg : decode c.code g.pc = .ok (.invokevirtual index, 3))
    (hpre : ∀ vm₁, s.WarmedH vm₁ → Pre ⟨T.setVm vm₁, locs, cells, slots⟩ (Value.ref b :: argsL).toArray) :
    ∃ (v : Option Value) (vm₁ : Vm) (B : Pt), s.WarmedH vm₁ ∧ Stand p l e R s m args below meth c B.U B.locs B.cells B.slots ∧ Post ⟨T.setVm vm₁, locs, cells, slots⟩ (Value.ref b :: argsL).toArray v B ∧
      ∀ target, Steps p.tables e below (B.U.setTop { g with pc := g.pc + 3, stack := v.toList ++ rest }) target → Steps p.tables e below (T.setTop g) target := by
  obtain ⟨mk, methM, hnamed, hmethM, hstM, habM⟩ := Cond.instanceMethod_spec hinst
  obtain ⟨m8, methM', cM, hn8, hmethM', -, -, -, -, -, -, hsigM⟩ := Cond.codeWith_spec hcode
  cases Option.some.inj (hn8.symm.trans hnamed)
  cases hmethM.symm.trans hmethM'
  obtain ⟨c2, r2, m2, q1, q2, q3, q4, kP, hkP, hkPi⟩ := Cond.selects_spec hsel
  cases hcls.symm.trans q1
  cases (State.methodFound?_of_named hnamed hy).symm.trans q2
  cases hnamed.symm.trans q3
  have hselP : selectMethod e.platform s.vm cellB.cls mk = .method mk := by rw [Launch.admits_selectMethod X.admits]; exact q4
  obtain ⟨vm₁, X₁, hstep₁⟩ := X.invokevirtual hexec hown hlink hnamed hmethM hstM hkP hkPi hy (a := b) (cell := cellB) hcell
    (fun z h => by rw [h] at hobj; cases hobj) hselP hmethM habM hkP hkPi (g := g) hg (argsL := argsL) (rest := rest) (hlen _ hsigM) hstack hdg
  obtain ⟨v, B, X', hpost, hsteps⟩ := hK m meth c ⟨T.setVm vm₁, locs, cells, slots⟩ { g with stack := rest } (.invokevirtual index) mk (Value.ref b :: argsL).toArray X₁ hg hsize hdg hW (X₁.named hnamed) (hpre vm₁ X₁.warmed)
  exact ⟨v, vm₁, B, X₁.warmed, X', hpost, fun target h => hstep₁ _ fun acts => by rw [doInvoke_state]; exact hsteps.trans h⟩
abbrev vx_CVW (R : Room) (s : State) (args : Array Value) (own C : String) (index : Nat) (y : MethodName) (bytes : ByteArray) (maxL : Nat) (ret : Option FieldType) (hh : List (Nat × Nat × Nat × Nat)) (ws : List Cond) (rm : Room) (mc ms n : Nat) : Prop :=
  (rm.cells = mc ∧ rm.slots = ms ∧ rm.frames + 1 ≤ R.frames ∧ 8 + (maxL + 11) + rm.locals ≤ R.locals ∧ (∀ w ∈ ws, ∀ (a' : Array Value) (U : State), s.WarmedH U.vm → w.before a' U = true) ∧ Cond.codeWith y bytes maxL ret hh ∈ ws) ∧
  (Cond.codeWith y bytes maxL ret hh).before args s = true ∧ (Cond.initialized y.cls).before args s = true ∧ (y.cls ≠ "java/lang/invoke/MethodHandle" ∧ y.cls ≠ "java/lang/invoke/VarHandle") ∧
  (∀ sig, parseMethodDescriptor y.desc = some sig → n = sig.parameters.length) ∧ (Cond.methodLink own index y).before args s = true ∧ (Cond.instanceMethod y).before args s = true ∧ (Cond.selects C y y).before args s = true
theorem vx_cwVW {own C : String} {index maxL mc ms : Nat} {y : MethodName} {bytes : ByteArray} {ret : Option FieldType} {hh : List (Nat × Nat × Nat × Nat)} {Ts ws ws' : List Cond} {rm : Room} (n : Nat) (ht : ∀ w ∈ Ts, w.before args s = true) (hT : GoodIn Ts (wsV own index C y ws)) (hw : ws = Cond.codeWith y bytes maxL ret hh :: ws') (hrc : rm.cells = mc) (hrs : rm.slots = ms)
    (hd : y.cls = C ∧ y.cls ≠ "java/lang/invoke/MethodHandle" ∧ y.cls ≠ "java/lang/invoke/VarHandle" ∧ (parseMethodDescriptor y.desc).map (fun d => d.parameters.length) = some n) (hR : rm.frames + 1 ≤ R.frames ∧ 8 + (maxL + 11) + rm.locals ≤ R.locals) :
    vx_CVW R s args own C index y bytes maxL ret hh ws rm mc ms n := by
  obtain ⟨hC, hd⟩ := hd
  subst hC
  have ok : ∀ w ∈ wsV own index y.cls y ws, w.before args s = true := fun w h => ht w (hT w h).1
  have hG : GoodIn Ts ws := fun w h => hT w (by unfold wsV; exact List.mem_append_right _ h)
  have hc : Cond.codeWith y bytes maxL ret hh ∈ ws := by rw [hw]; exact List.mem_cons_self
  refine ⟨⟨hrc, hrs, hR.1, hR.2, pay_in ht hG, hc⟩, ht _ (hG _ hc).1, ok _ (by simp [wsV]), ⟨hd.1, hd.2.1⟩, fun sig h => ?_, ok _ (by simp [wsV]), ok _ (by simp [wsV]), ok _ (by simp [wsV])⟩
  have h2 := hd.2.2
  rw [h] at h2
  exact (Option.some.inj h2).symm
theorem vx_runVW {y : MethodName} {bytes cc : ByteArray} {maxL nL mc ms n index : Nat} {ret : Option FieldType} {hh : List (Nat × Nat × Nat × Nat)} {ws : List Cond} {rm : Room} {Pc : Array Value → State → Prop} {Qc : Array Value → State → Outcome → State → Prop} {free : Addr → Prop} {Ts : List Cond} {own C : String} {b : Addr} {As rest : List Value} {g : JFrame}
    (S : CallFix p m c cc nL s args Ts own) (hM : Met l y ws rm Pc Qc mc ms free) (cw : vx_CVW R s args own C index y bytes maxL ret hh ws rm mc ms n) (hp : PreV s H C b Pc As)
    (hg : g.method = m) (hn : As.length = n) (hsize : g.locals.size = nL) (hstack : g.stack = As.reverse ++ .ref b :: rest) (hW : 2 * g.monitorRoom + (rest.map fun v => v.category).sum ≤ 8) (hdg : decode cc g.pc = .ok (.invokevirtual index, 3)) (hf : cells + mc ≤ R.cells ∧ slots + ms ≤ R.slots) :
    va_Run p l e R s m args below meth c H locs cells slots mc ms g rest (Qc (Value.ref b :: As).toArray) free := by
  obtain ⟨⟨hrc, hrs, hfr, hlo, hws, hcw⟩, hcode, hini, hy, hlen, hl, hin, hse⟩ := cw
  have hK : Back l R p e below s args y 3 8 (PreOf R mc ms Pc) (PostOf Qc mc ms free) := va_backW (hh := hh) (bytes := bytes) (maxL := maxL) (ret := ret) hM hp.1 hrc hrs hfr hlo hws hcw (fun a' U hW => word_at hW (Or.inl (by first | rfl | simp [Cond.onTables, Cond.keeps, Cond.steady])) hini)
  obtain ⟨hx, hb, hml, ho, -⟩ := S
  obtain ⟨-, ⟨cellB, hcB, hoB, hclB⟩, hPc⟩ := hp
  intro T hT X
  obtain ⟨v, vm₁, ⟨U', l2, c2, s2⟩, hW₁, X', ⟨g', mk, t, L, e1, e2, hq, h1, hL, h2, h3⟩, st⟩ := vx_callVW X hx (C := C) (hh := hh) (bytes := bytes) (maxL := maxL) (ret := ret) ho hl hin hse hcode hy hK (by rw [hT]; exact hcB) hoB hclB hg (hsize.trans hml.symm) (argsL := As) (rest := rest) (fun sig h => hn.trans (hlen sig h)) hstack hW (by rw [hb]; exact hdg)
    (fun vm₁ hW₁ => ⟨hf.1, hf.2, hPc (T.setVm vm₁) hT hW₁⟩)
  dsimp only [Pt.U, Pt.locs, Pt.cells, Pt.slots] at X' e1 e2 h1 h2 h3 st
  subst h1; subst h2; subst h3
  exact ⟨v, (T.setVm vm₁).calling g' mk (Value.ref b :: As).toArray, t, U', L, hT, X', hL, e1, e2, hq, st⟩
section
variable {y : MethodName} {bytes cc : ByteArray} {maxL nL mc ms n index : Nat} {ret : Option FieldType} {ws : List Cond} {rm : Room} {Pc : Array Value → State → Prop} {Qc : Array Value → State → Outcome → State → Prop} {XC : String → State → State → Prop} {free : Addr → Prop} {Ts : List Cond} {own C : String} {b : Addr} {As rest : List Value} {g : JFrame}
theorem vx_runVX {hh : List (Nat × Nat × Nat × Nat)} (S : CallFix p m c cc nL s args Ts own) (hM : vx_Met l y ws rm Pc Qc XC mc ms free) (cw : vx_CVW R s args own C index y bytes maxL ret hh ws rm mc ms n) (hp : PreV s H C b Pc As)
    (hg : g.method = m) (hn : As.length = n) (hsize : g.locals.size = nL) (hstack : g.stack = As.reverse ++ .ref b :: rest) (hW : 2 * g.monitorRoom + (rest.map fun v => v.category).sum ≤ 8) (hdg : decode cc g.pc = .ok (.invokevirtual index, 3)) (hf : cells + mc ≤ R.cells ∧ slots + ms ≤ R.slots) :
    vx_Run p l e R s m args below meth c H locs cells slots mc ms g rest (Qc (Value.ref b :: As).toArray) XC free := by
  obtain ⟨⟨hrc, hrs, hfr, hlo, hws, hcw⟩, hcode, hini, hy, hlen, hl, hin, hse⟩ := cw
  have hK : vx_Back l R p e below s args y 3 8 (PreOf R mc ms Pc) (PostOf Qc mc ms free) (vx_Post XC mc ms free) := vx_backW (hh := hh) (bytes := bytes) (maxL := maxL) (ret := ret) hM hp.1 hrc hrs hfr hlo hws hcw (fun a' U hW => word_at hW (Or.inl (by first | rfl | simp [Cond.onTables, Cond.keeps, Cond.steady])) hini)
  obtain ⟨hx, hb, hml, ho, -⟩ := S
  obtain ⟨-, ⟨cellB, hcB, hoB, hclB⟩, hPc⟩ := hp
  intro T hT X
  rcases vx_callVX X hx (C := C) (hh := hh) (bytes := bytes) (maxL := maxL) (ret := ret) ho hl hin hse hcode hy hK (by rw [hT]; exact hcB) hoB hclB hg (hsize.trans hml.symm) (argsL := As) (rest := rest) (fun sig h => hn.trans (hlen sig h)) hstack hW (by rw [hb]; exact hdg)
    (fun vm₁ hW₁ => ⟨hf.1, hf.2, hPc (T.setVm vm₁) hT hW₁⟩) with ⟨v, vm₁, ⟨U', l2, c2, s2⟩, hW₁, X', ⟨g', mk, t, L, e1, e2, hq, h1, hL, h2, h3⟩, st⟩ | ⟨q, vm₁, ⟨U', l2, c2, s2⟩, hW₁, X', ⟨g', mk, t, L, E, ce, e1, e2, hq, hce, hcv, hcl, h1, hL, h2, h3⟩, st⟩
  · dsimp only [Pt.U, Pt.locs, Pt.cells, Pt.slots] at X' e1 e2 h1 h2 h3 st
    subst h1; subst h2; subst h3
    exact Or.inl ⟨v, (T.setVm vm₁).calling g' mk (Value.ref b :: As).toArray, t, U', L, hT, X', hL, e1, e2, hq, st⟩
  · dsimp only [Pt.U, Pt.locs, Pt.cells, Pt.slots] at X' e1 e2 h1 h2 h3 st hcl
    subst h1; subst h2; subst h3
    exact Or.inr ⟨q, (T.setVm vm₁).calling g' mk (Value.ref b :: As).toArray, t, U', L, E, ce, hT, X', hL, e1, e2, hq, hce, hcv, vx_cls hW₁ hcl, st⟩
theorem vx_runSX {hh : List (Nat × Nat × Nat × Nat)} (S : CallFix p m c cc nL s args Ts own) (hM : vx_Met l y ws rm Pc Qc XC mc ms free) (cw : vx_CSW R s args own index y bytes maxL ret hh ws rm mc ms n) (hp : PreS s H Pc As)
    (hg : g.method = m) (hn : As.length = n) (hsize : g.locals.size = nL) (hstack : g.stack = As.reverse ++ rest) (hW : 2 * g.monitorRoom + (rest.map fun v => v.category).sum ≤ 8) (hdg : decode cc g.pc = .ok (.invokestatic index, 3)) (hf : cells + mc ≤ R.cells ∧ slots + ms ≤ R.slots) :
    vx_Run p l e R s m args below meth c H locs cells slots mc ms g rest (Qc As.toArray) XC free := by
  obtain ⟨⟨hrc, hrs, hfr, hlo, hws, hcw⟩, hcode, hini, hy, hlen, hl, hstt⟩ := cw
  have hK : vx_Back l R p e below s args y 3 8 (PreOf R mc ms Pc) (PostOf Qc mc ms free) (vx_Post XC mc ms free) := vx_backW (hh := hh) (bytes := bytes) (maxL := maxL) (ret := ret) hM hp.1 hrc hrs hfr hlo hws hcw (fun a' U hW => word_at hW (Or.inl (by first | rfl | simp [Cond.onTables, Cond.keeps, Cond.steady])) hini)
  obtain ⟨hx, hb, hml, ho, -⟩ := S
  intro T hT X
  rcases vx_callSX X hx (hh := hh) (bytes := bytes) (maxL := maxL) (ret := ret) ho hl hstt hini hcode hy hK hg (hsize.trans hml.symm) (argsL := As) (rest := rest) (fun sig h => hn.trans (hlen sig h)) hstack hW (by rw [hb]; exact hdg)
    (fun vm₁ hW₁ => ⟨hf.1, hf.2, hp.2 (T.setVm vm₁) hT hW₁⟩) with ⟨v, vm₁, ⟨U', l2, c2, s2⟩, hW₁, X', ⟨g', mk, t, L, e1, e2, hq, h1, hL, h2, h3⟩, st⟩ | ⟨q, vm₁, ⟨U', l2, c2, s2⟩, hW₁, X', ⟨g', mk, t, L, E, ce, e1, e2, hq, hce, hcv, hcl, h1, hL, h2, h3⟩, st⟩
  · dsimp only [Pt.U, Pt.locs, Pt.cells, Pt.slots] at X' e1 e2 h1 h2 h3 st
    subst h1; subst h2; subst h3
    exact Or.inl ⟨v, (T.setVm vm₁).calling g' mk As.toArray, t, U', L, hT, X', hL, e1, e2, hq, st⟩
  · dsimp only [Pt.U, Pt.locs, Pt.cells, Pt.slots] at X' e1 e2 h1 h2 h3 st hcl
    subst h1; subst h2; subst h3
    exact Or.inr ⟨q, (T.setVm vm₁).calling g' mk As.toArray, t, U', L, E, ce, hT, X', hL, e1, e2, hq, hce, hcv, vx_cls hW₁ hcl, st⟩
end
end VXH
theorem vx_ofWH {l : Launch} {y : MethodName} {ws ws' : List Cond} {rm : Room} {Pc : Array Value → State → Prop} {Qc : Array Value → State → Outcome → State → Prop} {XC : String → State → State → Prop} {mc ms : Nat} {free : Addr → Prop} {cc : ByteArray} {maxL : Nat} {ret : Option FieldType} {hh : List (Nat × Nat × Nat × Nat)}
    (hy : plainName y.cls = true) (hw : ws = Cond.codeWith y cc maxL ret hh :: ws')
    (body : ∀ p e s m args below meth c s₁, BodyLoose p l y (headSpec ws rm) cc maxL ret e s m args below meth c s₁ → c.maxLocals = maxL → Pc args s →
      W p l e (headSpec ws rm).room s m args below meth c s.heap [] 0 0 (vx_MQ below Qc XC args s mc ms free) (entryFrame m args maxL)) : vx_Met l y ws rm Pc Qc XC mc ms free := by
  refine MetFree.of_bodyS (code := cc) (maxLocals := maxL) (ret := ret) hy ?_ ?_
  · intro args s m h hn
    obtain ⟨m9, meth, c, hn9, h1, h2, h3, h4, -, h5, h6, -⟩ := Cond.codeWith_spec (atoms_spec (ws := ws) h _ (by rw [hw]; exact List.mem_cons_self))
    cases hn.symm.trans hn9
    exact ⟨meth, c, h1, h2, h3, h4, h5, h6⟩
  · intro p e s m args below meth c s₁ B hml hP _
    have hh0 : s₁.heap = s.heap := by rw [B.state]; rfl
    obtain ⟨t, a1, o, b1, b2, b3⟩ := body p e s m args below meth c s₁ B hml hP s₁ hh0 (Stand.of_body B)
    exact ⟨t, o, a1, b1, b2, b3⟩
/-! ===== END ===== -/
end
section
/-! Java's ints and longs by whole numbers -/
def iZ (z : Int) : Int32 := Int32.ofInt z
def lZ (z : Int) : Int64 := Int64.ofInt z
abbrev vi (z : Int) : Value := .int (iZ z)
abbrev vl (z : Int) : Value := .long (lZ z)
def iR (z : Int) : Prop := -2147483648 ≤ z ∧ z < 2147483648
def lR (z : Int) : Prop := -9223372036854775808 ≤ z ∧ z < 9223372036854775808
theorem iZ_self (x : Int32) : iZ x.toInt = x := Int32.ofInt_toInt x
theorem lZ_self (x : Int64) : lZ x.toInt = x := Int64.ofInt_toInt x
theorem iZ_R (x : Int32) : iR x.toInt := ⟨Int32.le_toInt x, Int32.toInt_lt x⟩
theorem lZ_R (x : Int64) : lR x.toInt := ⟨Int64.le_toInt x, Int64.toInt_lt x⟩
theorem iZ_toInt {z : Int} (h : iR z) : (iZ z).toInt = z := Int32.toInt_ofInt_of_le h.1 h.2
theorem lZ_toInt {z : Int} (h : lR z) : (lZ z).toInt = z := Int64.toInt_ofInt_of_le h.1 h.2
theorem iZ_add (a b : Int) : iZ a + iZ b = iZ (a + b) := (Int32.ofInt_add a b).symm
theorem iZ_sub (a b : Int) : iZ a - iZ b = iZ (a - b) := (Int32.ofInt_sub a b).symm
theorem iZ_mul (a b : Int) : iZ a * iZ b = iZ (a * b) := (Int32.ofInt_mul a b).symm
theorem iZ_neg (a : Int) : -iZ a = iZ (-a) := (Int32.ofInt_neg a).symm
theorem lZ_add (a b : Int) : lZ a + lZ b = lZ (a + b) := (Int64.ofInt_add a b).symm
theorem lZ_sub (a b : Int) : lZ a - lZ b = lZ (a - b) := (Int64.ofInt_sub a b).symm
theorem lZ_mul (a b : Int) : lZ a * lZ b = lZ (a * b) := (Int64.ofInt_mul a b).symm
theorem lZ_neg (a : Int) : -lZ a = lZ (-a) := (Int64.ofInt_neg a).symm
theorem iZ_lt {a b : Int} (ha : iR a) (hb : iR b) : iZ a < iZ b ↔ a < b := by rw [Int32.lt_iff_toInt_lt, iZ_toInt ha, iZ_toInt hb]
theorem iZ_le {a b : Int} (ha : iR a) (hb : iR b) : iZ a ≤ iZ b ↔ a ≤ b := by rw [Int32.le_iff_toInt_le, iZ_toInt ha, iZ_toInt hb]
theorem iZ_eq {a b : Int} (ha : iR a) (hb : iR b) : iZ a = iZ b ↔ a = b := by rw [← Int32.toInt_inj, iZ_toInt ha, iZ_toInt hb]
theorem lZ_lt {a b : Int} (ha : lR a) (hb : lR b) : lZ a < lZ b ↔ a < b := by rw [Int64.lt_iff_toInt_lt, lZ_toInt ha, lZ_toInt hb]
theorem lZ_eq {a b : Int} (ha : lR a) (hb : lR b) : lZ a = lZ b ↔ a = b := by rw [← Int64.toInt_inj, lZ_toInt ha, lZ_toInt hb]
theorem iZ_div {a b : Int} (ha : iR a) (hb : iR b) : iZ a / iZ b = iZ (a.tdiv b) := by
  apply Int32.toInt_inj.mp
  rw [Int32.toInt_div, iZ_toInt ha, iZ_toInt hb]
  exact Int32.toInt_ofInt.symm
theorem lZ_div {a b : Int} (ha : lR a) (hb : lR b) : lZ a / lZ b = lZ (a.tdiv b) := by
  apply Int64.toInt_inj.mp
  rw [Int64.toInt_div, lZ_toInt ha, lZ_toInt hb]
  exact Int64.toInt_ofInt.symm
theorem iZ_rem {a b : Int} (ha : iR a) (hb : iR b) : iZ a - iZ a / iZ b * iZ b = iZ (a.tmod b) := by
  rw [iZ_div ha hb, iZ_mul, iZ_sub]
  congr 1
  have := Int.tmod_add_mul_tdiv a b
  rw [Int.mul_comm] at this
  omega
theorem lZ_rem {a b : Int} (ha : lR a) (hb : lR b) : lZ a - lZ a / lZ b * lZ b = lZ (a.tmod b) := by
  rw [lZ_div ha hb, lZ_mul, lZ_sub]
  congr 1
  have := Int.tmod_add_mul_tdiv a b
  rw [Int.mul_comm] at this
  omega
theorem iZ_l {z : Int} (h : iR z) : (iZ z).toInt64 = lZ z := by
  apply Int64.toInt_inj.mp
  have h1 := h.1
  have h2 := h.2
  rw [Int32.toInt_toInt64, iZ_toInt h, lZ_toInt ⟨by omega, by omega⟩]
theorem lZ_i (z : Int) : (lZ z).toInt32 = iZ z := by
  unfold lZ iZ
  simp
theorem iZ_ne0 {z : Int} (h : iR z) (h0 : z ≠ 0) : ¬ iZ z = 0 := fun e => h0 ((iZ_eq h ⟨by decide, by decide⟩).mp (e.trans (by rfl)))
theorem lZ_ne0 {z : Int} (h : lR z) (h0 : z ≠ 0) : ¬ lZ z = 0 := fun e => h0 ((lZ_eq h ⟨by decide, by decide⟩).mp (e.trans (by rfl)))
theorem iZ_clamp {z : Int} (h : iR z) : (iZ z).toNatClampNeg = z.toNat := by
  show (iZ z).toInt.toNat = z.toNat
  rw [iZ_toInt h]
theorem iZ_ix {z : Int} {n : Nat} (h0 : 0 ≤ z) (h1 : z < n) (hn : n < 2147483648) : vp_in (iZ z) n := by
  rw [vp_in_iff, iZ_toInt ⟨by omega, by omega⟩]
  exact ⟨h0, h1⟩
/-- what lcmp answers -/
def zcmp (a b : Int) : Int := if a < b then -1 else if a = b then 0 else 1
theorem zcmp_lt {a b : Int} : zcmp a b < 0 ↔ a < b := by unfold zcmp; split <;> (try split) <;> omega
theorem zcmp_le {a b : Int} : zcmp a b ≤ 0 ↔ a ≤ b := by unfold zcmp; split <;> (try split) <;> omega
theorem zcmp_gt {a b : Int} : 0 < zcmp a b ↔ b < a := by unfold zcmp; split <;> (try split) <;> omega
theorem zcmp_ge {a b : Int} : 0 ≤ zcmp a b ↔ b ≤ a := by unfold zcmp; split <;> (try split) <;> omega
theorem zcmp_eq {a b : Int} : zcmp a b = 0 ↔ a = b := by unfold zcmp; split <;> (try split) <;> omega
theorem zcmp_R {a b : Int} : iR (zcmp a b) := by unfold zcmp iR; split <;> (try split) <;> omega
theorem lZ_cmp {a b : Int} (ha : lR a) (hb : lR b) : lg_cmp (lZ a) (lZ b) = iZ (zcmp a b) := by
  unfold lg_cmp zcmp
  simp only [gt_iff_lt, lZ_lt hb ha, lZ_eq ha hb]
  by_cases h1 : b < a
  · rw [if_pos h1, if_neg (by omega), if_neg (by omega)]; rfl
  · rw [if_neg h1]
    by_cases h2 : a = b
    · rw [if_pos h2, if_neg (by omega), if_pos h2]; rfl
    · rw [if_neg h2, if_pos (by omega)]; rfl
/-- a row of an array, changed at a place -/
def uZ (g : Int → Int) (i v : Int) : Int → Int := fun j => if j = i then v else g j
theorem uZ_s {g : Int → Int} {i v : Int} : uZ g i v i = v := if_pos rfl
theorem uZ_n {g : Int → Int} {i j v : Int} (h : j ≠ i) : uZ g i v j = g j := if_neg h
/-- rows of ints, longs, in the machine's words -/
def fI (g : Int → Int) : Nat → Int32 := fun k => iZ (g (k : Int))
def fJ (g : Int → Int) : Nat → Int64 := fun k => lZ (g (k : Int))
theorem fI_u {g : Int → Int} {i v : Int} (h : 0 ≤ i) (k : Nat) (hk : k = i.toNat) : upd (fI g) k (iZ v) = fI (uZ g i v) := by
  funext j
  unfold upd fI uZ
  subst hk
  by_cases e : j = i.toNat
  · rw [if_pos e, if_pos (by omega)]
  · rw [if_neg e, if_neg (by omega)]
theorem fJ_u {g : Int → Int} {i v : Int} (h : 0 ≤ i) (k : Nat) (hk : k = i.toNat) : vp_updL (fJ g) k (lZ v) = fJ (uZ g i v) := by
  funext j
  unfold vp_updL fJ uZ
  subst hk
  by_cases e : j = i.toNat
  · rw [if_pos e, if_pos (by omega)]
  · rw [if_neg e, if_neg (by omega)]
theorem fI_at {g : Int → Int} {i : Int} (h : 0 ≤ i) : fI g i.toNat = iZ (g i) := by unfold fI; rw [Int.toNat_of_nonneg h]
theorem fJ_at {g : Int → Int} {i : Int} (h : 0 ≤ i) : fJ g i.toNat = lZ (g i) := by unfold fJ; rw [Int.toNat_of_nonneg h]
end
section
/-! The tables' words that stay good over a call -/
def TG : List Cond := lw_tbl.filter goodWord
theorem TG_of {w : Cond} (h : w ∈ lw_tbl) (g : goodWord w = true) : w ∈ TG := List.mem_filter.mpr ⟨h, g⟩
theorem TG_mem {w : Cond} (h : w ∈ TG) : w ∈ lw_tbl := (List.mem_filter.mp h).1
theorem TG_good {w : Cond} (h : w ∈ TG) : goodWord w = true := (List.mem_filter.mp h).2
theorem TG_in {w : Cond} (h : w ∈ TG) : GoodIn TG (w :: TG) := fun x hx => by
  have hx : x ∈ TG := by
    rcases List.mem_cons.mp hx with e | e
    · rw [e]; exact h
    · exact e
  exact ⟨hx, good_of_word (TG_good hx)⟩
/-! the world: cells by their places, the first at the base -/
abbrev zH : Type := Nat → Option va_E
def zup (h : zH) (a : Nat) (e : va_E) : zH := fun k => if k = a then some e else h k
theorem zup_s {h : zH} {a : Nat} {e : va_E} : zup h a e a = some e := if_pos rfl
theorem zup_n {h : zH} {a b : Nat} {e : va_E} (hb : b ≠ a) : zup h a e b = h b := if_neg hb
theorem zup_g {h : zH} {a b : Nat} {e x : va_E} (hb : b ≠ a) (hx : h b = some x) : zup h a e b = some x := (zup_n hb).trans hx
theorem zup_zup {h : zH} {a : Nat} {e f : va_E} : zup (zup h a e) a f = zup h a f := by
  funext k
  unfold zup
  by_cases hk : k = a
  · rw [if_pos hk, if_pos hk]
  · rw [if_neg hk, if_neg hk, if_neg hk]
theorem zup_comm {h : zH} {a b : Nat} {e f : va_E} (hab : a ≠ b) : zup (zup h a e) b f = zup (zup h b f) a e := by
  funext k
  unfold zup
  by_cases hk : k = a
  · rw [if_pos hk, if_neg (fun q => hab (hk.symm.trans q)), if_pos hk]
  · rw [if_neg hk]
    by_cases hk2 : k = b
    · rw [if_pos hk2, if_neg hk]
    · rw [if_neg hk2, if_neg hk]
theorem zup_self {h : zH} {a : Nat} {e : va_E} (he : h a = some e) : zup h a e = h := by
  funext k
  unfold zup
  by_cases hk : k = a
  · rw [if_pos hk, hk, he]
  · rw [if_neg hk]
abbrev zG : Type := Launch × Nat × va_G × (Nat → ClassId)
abbrev zM : Type := MethodName × ByteArray × Nat × Option FieldType × Room
abbrev zgl (G : zG) : Launch := G.1
abbrev zgb (G : zG) : Nat := G.2.1
abbrev zgD (G : zG) : va_G := G.2.2.1
abbrev zgT (G : zG) : Nat → ClassId := G.2.2.2
abbrev zmr (M : zM) : Room := M.2.2.2.2
abbrev zmL (M : zM) : Nat := M.2.2.1
abbrev zmt (M : zM) : Option FieldType := M.2.2.2.1
def zv (b : Nat) (v : Value) : Value := match v with
  | .ref a => .ref (b + a)
  | v => v
def zarr (b : Nat) (x : vp_A) : vp_A := (x.1, match x.2 with
  | .inr (.inr (.inr (.inr f))) => .inr (.inr (.inr (.inr (fun j => (f j).map (fun a => b + a)))))
  | y => y)
def ze (b : Nat) (cT : Nat → ClassId) (e : va_E) : va_E := match e with
  | .inl x => .inl (cT x.1, zarr b x.2)
  | .inr o => .inr (o.1, o.2.map (zv b))
theorem zv_cat (b : Nat) (v : Value) : (zv b v).category = v.category := by cases v <;> rfl
def zW (G : zG) (h : zH) (H : Heap) : Prop := ∀ (k : Nat) (e : va_E), h k = some e → va_at (zgD G) vwCl (zgb G + k, ze (zgb G) (zgT G) e) H
def zAr (G : zG) : Nat → Prop := fun q => zgb G ≤ q
def ztys (cT : Nat → ClassId) : List (ClassId × FieldType) := [(cT 0, .int), (cT 1, .long), (cT 2, .boolean), (cT 3, .byte), (cT 4, .array .long)]
def zNests : List Cond := [.methodLinkNest "RoadOffice$Roads" 29 yX7_isBelow "RoadOffice", .methodLinkNest "RoadOffice$Tape" 19 yX7_isBelow "RoadOffice"]
def zStrs : List (String × Nat × String) := [("RoadOffice", 119, "no such group, day or time"), ("RoadOffice", 124, "the group is not there"), ("RoadOffice", 138, "no such road, time or part"), ("RoadOffice", 144, "the year is not told"), ("RoadOffice", 153, "there is no trial"), ("RoadOffice", 161, "no such crossing or time"), ("RoadOffice", 166, "the road has no flow")]
def va_AOA (t : FieldType) (U : State) : Prop := (Cond.arrayOver (.array t)).before #[] U = true
def zOK (G : zG) (U : State) : Prop := va_AOA .long U ∧ va_K (zgD G) vwCl (ztys (zgT G)) U ∧ (∀ w ∈ zNests, va_Nw w U) ∧ vx_Zq Bundle.tN "UNASSIGNED_STACK" Bundle.steD (zAr G) U U.heap ∧ vx_Zq Bundle.tN "SUPPRESSED_SENTINEL" Bundle.listD (zAr G) U U.heap ∧ ∀ q ∈ zStrs, ∃ sa : Nat, vk_R q.1 q.2.1 q.2.2 sa U
theorem zNest_warm {s U : State} (hW : s.WarmedH U.vm) (h : ∀ w ∈ zNests, va_Nw w s) : ∀ w ∈ zNests, va_Nw w U := fun w hw => by
  have h1 := h w hw
  simp only [zNests, List.mem_cons, List.not_mem_nil, or_false] at hw
  rcases hw with rfl | rfl
  · exact va_Nw.warmM hW h1
  · exact va_Nw.warmM hW h1
theorem zNest_tab {w : Cond} (hw : w ∈ zNests) : w.onTables = true := by
  simp only [zNests, List.mem_cons, List.not_mem_nil, or_false] at hw
  rcases hw with rfl | rfl <;> rfl
theorem zOK.moved {G : zG} {s U : State} {H : Heap} {locs : List Loc} (h : zOK G s) (hW : s.WarmedH U.vm) (hS : va_S (zAr G) s.heap H locs) (hH : U.heap = H) : zOK G U := by
  obtain ⟨h0, h1, h2, h3, h4, h5⟩ := h
  refine ⟨Jvm.Stand.arrayOver_alikeB hW.alike h0, va_K.moved hW.alike h1, zNest_warm hW h2, ?_, ?_, fun q hq => ?_⟩
  · rw [hH]; exact (vx_Zq.moved hW.alike h3).kept (fun a ha hn => hS.2.1 a ha hn)
  · rw [hH]; exact (vx_Zq.moved hW.alike h4).kept (fun a ha hn => hS.2.1 a ha hn)
  · obtain ⟨sa, h6⟩ := h5 q hq
    exact ⟨sa, vk_R.warm hW h6⟩
theorem zOK.calling {G : zG} {U : State} (h : zOK G U) (g : JFrame) (mk : MethodId) (a : Array Value) : zOK G (U.calling g mk a) := by
  obtain ⟨h0, h1, h2, h3, h4, h5⟩ := h
  refine ⟨Jvm.Stand.arrayOver_alikeB (s := U) (U := U.calling g mk a) (Vm.Alike.refl U.vm) h0, va_K.moved (u := U) (U := U.calling g mk a) (Vm.Alike.refl U.vm) h1, fun w hw => va_Nw.same (zNest_tab hw) (rfl : U.vm = (U.calling g mk a).vm) (h2 w hw), vx_Zq.moved (u := U) (U := U.calling g mk a) (Vm.Alike.refl U.vm) h3, vx_Zq.moved (u := U) (U := U.calling g mk a) (Vm.Alike.refl U.vm) h4, fun q hq => ?_⟩
  obtain ⟨sa, h6⟩ := h5 q hq
  exact ⟨sa, vk_R.same (rfl : (U.calling g mk a).vm = U.vm) h6⟩
/-- the locals -/
def zL (b : Nat) (ls : Array Slot) (nL : Nat) (lo : List (Option Value)) : Prop := ls.size = nL ∧ lv_wf ls ∧ ∀ (i : Nat) (v : Value), lo[i]? = some (some v) → ls[i]? = some (.val (zv b v))
/-- what a method's body stands on -/
def zFX (G : zG) (M : zM) (XF : Array Value → State → Code → Prop) (p : Program) (s : State) (m : MethodId) (args : Array Value) (meth : Method) (cd : Code) : Prop :=
  p.tables.exec = Jvm.exec ∧ cd.code = M.2.1 ∧ cd.maxLocals = zmL M ∧ s.vm.findClass M.1.cls = some m.cls ∧ (∀ w ∈ TG, w.before args s = true) ∧ zOK G s ∧ meth.locks = false ∧ meth.sig.returnType = zmt M ∧ meth.name = M.1.name ∧ zgb G ≤ s.heap.size ∧ XF args s cd
/-- at pc, with the locals lo, the stack st, n cells that hold h, c cells and sl slots made: the method comes to its end -/
def zAW (G : zG) (M : zM) (XF : Array Value → State → Code → Prop) (QF : List Frame → Array Value → State → State → Prop) (pc : Nat) (lo : List (Option Value)) (st : List Value) (n : Nat) (h : zH) (c sl : Nat) : Prop :=
  ∀ (p : Program) (e : Env) (s : State) (m : MethodId) (args : Array Value) (below : List Frame) (meth : Method) (cd : Code), zFX G M XF p s m args meth cd →
    ∀ (H : Heap) (locs : List Loc) (ls : Array Slot), H.size = zgb G + n → zW G h H → va_S (zAr G) s.heap H locs → zL (zgb G) ls (zmL M) lo →
      W p (zgl G) e (zmr M) s m args below meth cd H locs c sl (QF below args s) (F0 m pc ls (st.map (zv (zgb G))))
def zQc (G : zG) (Post : Option Value → Nat → zH → Prop) : Array Value → State → Outcome → State → Prop := fun _ st o t => ∃ (r : Option Value) (n : Nat) (h : zH), o = .returned (r.map (zv (zgb G))) ∧ t.heap.size = zgb G + n ∧ zW G h t.heap ∧ Post r n h ∧ va_F (zAr G) st t
def zPc (G : zG) (args : List Value) (n : Nat) (h : zH) : Array Value → State → Prop := fun a U => a = (args.map (zv (zgb G))).toArray ∧ U.heap.size = zgb G + n ∧ zW G h U.heap ∧ zOK G U
/-- method M, called with args where n cells hold h, returns, with Post -/
def zMP (G : zG) (M : zM) (args : List Value) (n : Nat) (h : zH) (Post : Option Value → Nat → zH → Prop) : Prop :=
  Met (zgl G) M.1 (Cond.code M.1 M.2.1 (zmL M) (zmt M) :: TG) (zmr M) (zPc G args n h) (zQc G Post) (zmr M).cells (zmr M).slots (zAr G)
def zF (G : zG) (M : zM) (Post : Option Value → Nat → zH → Prop) : List Frame → Array Value → State → State → Prop := fun below args s => MQ below (zQc G Post) args s (zmr M).cells (zmr M).slots (zAr G)
def zTT : Array Value → State → Code → Prop := fun _ _ _ => True
theorem zPc_blind {G : zG} {args : List Value} {n : Nat} {h : zH} : FrameBlind (zPc G args n h) := fun a _ g mk q => ⟨q.1, q.2.1, q.2.2.1, q.2.2.2.calling g mk a⟩
/-- the locals at the entry -/
def zent : List Value → List (Option Value)
  | [] => []
  | v :: vs => if v.category = 2 then some v :: none :: zent vs else some v :: zent vs
theorem zent_mem (b : Nat) : ∀ (vs : List Value) (k i : Nat) (v : Value), (zent vs)[i]? = some (some v) → (k + i, zv b v) ∈ lv_args k (vs.map (zv b))
  | [], k, i, v, h => by simp [zent] at h
  | x :: xs, k, i, v, h => by
    unfold zent at h
    show (k + i, zv b v) ∈ (k, zv b x) :: lv_args (if (zv b x).category = 2 then k + 2 else k + 1) (xs.map (zv b))
    rw [zv_cat]
    by_cases hc : x.category = 2
    · rw [if_pos hc] at h
      rw [if_pos hc]
      match i, h with
      | 0, h => cases h; exact List.mem_cons_self
      | 1, h => cases h
      | j + 2, h => 
        have := zent_mem b xs (k + 2) j v h
        rw [show k + (j + 2) = k + 2 + j by omega]
        exact List.mem_cons_of_mem _ this
    · rw [if_neg hc] at h
      rw [if_neg hc]
      match i, h with
      | 0, h => cases h; exact List.mem_cons_self
      | j + 1, h => 
        have := zent_mem b xs (k + 1) j v h
        rw [show k + (j + 1) = k + 1 + j by omega]
        exact List.mem_cons_of_mem _ this
theorem zent_len (b : Nat) : ∀ vs : List Value, (lg_sl (vs.map (zv b))).length = (zent vs).length
  | [] => rfl
  | x :: xs => by
    have ih := zent_len b xs
    unfold zent
    show (lg_sl (zv b x :: xs.map (zv b))).length = _
    rw [show lg_sl (zv b x :: xs.map (zv b)) = (if (zv b x).category = 2 then [Slot.val (zv b x), Slot.second] else [Slot.val (zv b x)]) ++ lg_sl (xs.map (zv b)) from by simp [lg_sl]]
    rw [zv_cat]
    by_cases hc : x.category = 2
    · rw [if_pos hc, if_pos hc]; simp [ih]
    · rw [if_neg hc, if_neg hc]; simp [ih]
theorem zL_entry (b : Nat) {vs : List Value} {nL : Nat} {lo : List (Option Value)} (h : (zent vs).length ≤ nL) (hlo : zent vs ++ List.replicate (nL - (zent vs).length) none = lo) : zL b ((lg_sl (vs.map (zv b)) ++ List.replicate (nL - (lg_sl (vs.map (zv b))).length) Slot.unset).toArray) nL lo := by
  have h1 := lv_entry (vs.map (zv b)) (n := nL) (by rw [zent_len]; exact h)
  refine ⟨h1.1, h1.2.1, fun i v hi => ?_⟩
  subst hlo
  have h2 : (zent vs)[i]? = some (some v) := by
    by_cases hl : i < (zent vs).length
    · rwa [List.getElem?_append_left hl] at hi
    · rw [List.getElem?_append_right (by omega)] at hi
      have := List.mem_of_getElem? hi
      have := List.eq_of_mem_replicate this
      cases this
  have h3 := zent_mem b vs 0 i v h2
  rw [Nat.zero_add] at h3
  exact h1.2.2 _ h3
/-- a contract out of a walk -/
theorem zMP_of {G : zG} {M : zM} {args : List Value} {n : Nat} {h : zH} {Post : Option Value → Nat → zH → Prop} (hy : plainName M.1.cls = true) (lo : List (Option Value)) (hn : (zent args).length ≤ zmL M) (hlo : zent args ++ List.replicate (zmL M - (zent args).length) none = lo)
    (k : zAW G M zTT (zF G M Post) 0 lo [] n h 0 0) : zMP G M args n h Post := by
  refine Met.ofW (cc := M.2.1) (maxL := zmL M) (ret := zmt M) hy rfl ?_
  intro p e s m a below meth c s₁ B hml hv
  obtain ⟨rfl, hsz, hw, hok⟩ := hv
  have hts := atoms_spec (ws := Cond.code M.1 M.2.1 (zmL M) (zmt M) :: TG) B.pre
  rw [lg_entry_eq]
  exact k p e s m _ below meth c ⟨B.exec, B.bytes, hml, findClass_of_methodNamed B.named, fun w hw => hts w (List.mem_cons_of_mem _ hw), hok, B.notSynchronized, B.returns, (name_of_methodNamed B.named B.method).1, by omega, trivial⟩ s.heap [] _ hsz hw va_S.rf (zL_entry (zgb G) hn hlo)
theorem zMP.mono {G : zG} {M : zM} {args : List Value} {n : Nat} {h : zH} {P Q : Option Value → Nat → zH → Prop} (hM : zMP G M args n h P) (hPQ : ∀ r n h, P r n h → Q r n h) : zMP G M args n h Q := by
  unfold zMP Met at *
  intro p e ha hc hk s m a below hf happ hP ht
  obtain ⟨k, o, a1, a2, a3, ⟨r, n', h', h1, h2, h3, h4, h5⟩, h6⟩ := hM p e ha hc hk s m a below hf happ hP ht
  exact ⟨k, o, a1, a2, a3, ⟨r, n', h', h1, h2, h3, hPQ _ _ _ h4, h5⟩, h6⟩
section ZR
variable {G : zG} {M : zM} {XF : Array Value → State → Code → Prop} {QF : List Frame → Array Value → State → State → Prop} {pc : Nat} {lo : List (Option Value)} {st : List Value} {n : Nat} {h : zH} {c sl : Nat}
theorem zr_iconst {z : Int} (hd : decode M.2.1 pc = .ok (.iconst z, 1))
    (k : zAW G M XF QF (pc + 1) lo (vi z :: st) n h c sl) : zAW G M XF QF pc lo (st) n h c sl := by
  intro p e s m args below meth cd F H locs ls hz hw hs hl
  exact lv_iconst F.1 F.2.1 hd rfl (k p e s m args below meth cd F H locs ls hz hw hs hl)
theorem zr_bipush {z : Int} (hv : (Int8.ofInt z).toInt32 = iZ z) (hd : decode M.2.1 pc = .ok (.bipush z, 2))
    (k : zAW G M XF QF (pc + 2) lo (vi z :: st) n h c sl) : zAW G M XF QF pc lo (st) n h c sl := by
  intro p e s m args below meth cd F H locs ls hz hw hs hl
  exact lv_bipush F.1 F.2.1 hd hv (k p e s m args below meth cd F H locs ls hz hw hs hl)
theorem zr_sipush {z : Int} (hv : (Int16.ofInt z).toInt32 = iZ z) (hd : decode M.2.1 pc = .ok (.sipush z, 3))
    (k : zAW G M XF QF (pc + 3) lo (vi z :: st) n h c sl) : zAW G M XF QF pc lo (st) n h c sl := by
  intro p e s m args below meth cd F H locs ls hz hw hs hl
  exact lv_sipush F.1 F.2.1 hd hv (k p e s m args below meth cd F H locs ls hz hw hs hl)
theorem zr_lconst {f : Fin 2} {z : Int} (hv : Int64.ofNat (f : Nat) = lZ z) (hd : decode M.2.1 pc = .ok (.lconst f, 1))
    (k : zAW G M XF QF (pc + 1) lo (vl z :: st) n h c sl) : zAW G M XF QF pc lo (st) n h c sl := by
  intro p e s m args below meth cd F H locs ls hz hw hs hl
  exact lv_lconst F.1 F.2.1 hd hv (k p e s m args below meth cd F H locs ls hz hw hs hl)
theorem zr_ldc {i : Nat} {v : Int32} {z : Int} (hc : Cond.constant M.1.cls i v ∈ TG) (hv : v = iZ z) (hd : decode M.2.1 pc = .ok (.ldc i, 2))
    (k : zAW G M XF QF (pc + 2) lo (vi z :: st) n h c sl) : zAW G M XF QF pc lo (st) n h c sl := by
  intro p e s m args below meth cd F H locs ls hz hw hs hl
  subst hv
  exact lv_ldc F.1 F.2.1 F.2.2.2.1 (F.2.2.2.2.1 _ hc) hd (k p e s m args below meth cd F H locs ls hz hw hs hl)
theorem zr_ldc2 {i : Nat} {v : Int64} {z : Int} (hc : Cond.constantLong M.1.cls i v ∈ TG) (hv : v = lZ z) (hd : decode M.2.1 pc = .ok (.ldc2_w i, 3))
    (k : zAW G M XF QF (pc + 3) lo (vl z :: st) n h c sl) : zAW G M XF QF pc lo (st) n h c sl := by
  intro p e s m args below meth cd F H locs ls hz hw hs hl
  subst hv
  exact lv_ldc2 F.1 F.2.1 F.2.2.2.1 (F.2.2.2.2.1 _ hc) hd (k p e s m args below meth cd F H locs ls hz hw hs hl)
theorem zr_iload_n {f : Fin 4} {i : Nat} {x : Int32} (hi : (f : Nat) = i) (hx : lo[i]? = some (some (.int x))) (hd : decode M.2.1 pc = .ok (.iload_n f, 1))
    (k : zAW G M XF QF (pc + 1) lo (.int x :: st) n h c sl) : zAW G M XF QF pc lo (st) n h c sl := by
  intro p e s m args below meth cd F H locs ls hz hw hs hl
  exact lv_iload_n F.1 F.2.1 hd hi (hl.2.2 _ _ hx) (k p e s m args below meth cd F H locs ls hz hw hs hl)
theorem zr_iload {i : Nat} {x : Int32} (hx : lo[i]? = some (some (.int x))) (hd : decode M.2.1 pc = .ok (.iload i, 2))
    (k : zAW G M XF QF (pc + 2) lo (.int x :: st) n h c sl) : zAW G M XF QF pc lo (st) n h c sl := by
  intro p e s m args below meth cd F H locs ls hz hw hs hl
  exact lv_iload F.1 F.2.1 hd (hl.2.2 _ _ hx) (k p e s m args below meth cd F H locs ls hz hw hs hl)
theorem zr_lload_n {f : Fin 4} {i : Nat} {x : Int64} (hi : (f : Nat) = i) (hx : lo[i]? = some (some (.long x))) (hd : decode M.2.1 pc = .ok (.lload_n f, 1))
    (k : zAW G M XF QF (pc + 1) lo (.long x :: st) n h c sl) : zAW G M XF QF pc lo (st) n h c sl := by
  intro p e s m args below meth cd F H locs ls hz hw hs hl
  exact lv_lload_n F.1 F.2.1 hd hi (hl.2.2 _ _ hx) (k p e s m args below meth cd F H locs ls hz hw hs hl)
theorem zr_lload {i : Nat} {x : Int64} (hx : lo[i]? = some (some (.long x))) (hd : decode M.2.1 pc = .ok (.lload i, 2))
    (k : zAW G M XF QF (pc + 2) lo (.long x :: st) n h c sl) : zAW G M XF QF pc lo (st) n h c sl := by
  intro p e s m args below meth cd F H locs ls hz hw hs hl
  exact lv_lload F.1 F.2.1 hd (hl.2.2 _ _ hx) (k p e s m args below meth cd F H locs ls hz hw hs hl)
theorem zr_aload_n {f : Fin 4} {i : Nat} {x : Nat} (hi : (f : Nat) = i) (hx : lo[i]? = some (some (.ref x))) (hd : decode M.2.1 pc = .ok (.aload_n f, 1))
    (k : zAW G M XF QF (pc + 1) lo (.ref x :: st) n h c sl) : zAW G M XF QF pc lo (st) n h c sl := by
  intro p e s m args below meth cd F H locs ls hz hw hs hl
  exact lv_aload_n F.1 F.2.1 hd hi (hl.2.2 _ _ hx) (k p e s m args below meth cd F H locs ls hz hw hs hl)
theorem zr_aload {i : Nat} {x : Nat} (hx : lo[i]? = some (some (.ref x))) (hd : decode M.2.1 pc = .ok (.aload i, 2))
    (k : zAW G M XF QF (pc + 2) lo (.ref x :: st) n h c sl) : zAW G M XF QF pc lo (st) n h c sl := by
  intro p e s m args below meth cd F H locs ls hz hw hs hl
  exact lv_aload F.1 F.2.1 hd (hl.2.2 _ _ hx) (k p e s m args below meth cd F H locs ls hz hw hs hl)
theorem zL.has {b : Nat} {ls : Array Slot} {nL : Nat} {lo : List (Option Value)} (h : zL b ls nL lo) : lv_has ls nL ((List.range lo.length).filterMap (fun i => match lo[i]? with | some (some v) => some (i, zv b v) | _ => none)) := by
  refine ⟨h.1, h.2.1, fun q hq => ?_⟩
  obtain ⟨i, -, hi⟩ := List.mem_filterMap.mp hq
  split at hi
  · rename_i v hv
    cases hi
    exact h.2.2 _ _ hv
  · cases hi
theorem zL_mem {b : Nat} {lo : List (Option Value)} {i : Nat} {v : Value} (h : lo[i]? = some (some v)) : (i, zv b v) ∈ (List.range lo.length).filterMap (fun i => match lo[i]? with | some (some v) => some (i, zv b v) | _ => none) := by
  refine List.mem_filterMap.mpr ⟨i, List.mem_range.mpr ?_, ?_⟩
  · exact (List.getElem?_eq_some_iff.mp h).1
  · simp only [h]
/-- not the first half of a long -/
def zn (x : Option Value) : Prop := ∀ v, x = some v → v.category = 1
theorem zn_0 : zn none := fun _ h => nomatch h
theorem zn_i {x : Int32} : zn (some (.int x)) := fun _ h => by cases h; rfl
theorem zn_r {x : Nat} : zn (some (.ref x)) := fun _ h => by cases h; rfl
theorem zL_st1 {b : Nat} {ls : Array Slot} {nL : Nat} {lo lo' : List (Option Value)} {i : Nat} {v : Value} {L : List (Nat × Value)} (hL : L = (List.range lo.length).filterMap (fun i => match lo[i]? with | some (some v) => some (i, zv b v) | _ => none)) (h : lv_has ls nL ((i, zv b v) :: L.filter (fun q => !(q.1 == i) && !(q.1 + 1 == i && q.2.category == 2))))
    (hlo : ∀ (j : Nat) (x : Value), lo'[j]? = some (some x) → (j = i ∧ x = v) ∨ (j ≠ i ∧ lo[j]? = some (some x) ∧ (j + 1 = i → x.category = 1))) : zL b ls nL lo' := by
  refine ⟨h.1, h.2.1, fun j x hj => ?_⟩
  rcases hlo j x hj with ⟨rfl, rfl⟩ | ⟨h1, h2, h3⟩
  · exact h.2.2 _ List.mem_cons_self
  · refine h.2.2 (j, zv b x) (List.mem_cons_of_mem _ (List.mem_filter.mpr ⟨by rw [hL]; exact zL_mem h2, ?_⟩))
    simp only [zv_cat, Bool.and_eq_true, Bool.not_eq_true', beq_eq_false_iff_ne, ne_eq, Bool.and_eq_false_imp, beq_iff_eq]
    exact ⟨h1, fun q => by rw [h3 q]; decide⟩
theorem zL_st2 {b : Nat} {ls : Array Slot} {nL : Nat} {lo lo' : List (Option Value)} {i : Nat} {v : Value} {L : List (Nat × Value)} (hL : L = (List.range lo.length).filterMap (fun i => match lo[i]? with | some (some v) => some (i, zv b v) | _ => none)) (h : lv_has ls nL ((i, zv b v) :: L.filter (fun q => !(q.1 == i) && (!(q.1 == i + 1) && !(q.1 + 1 == i && q.2.category == 2)))))
    (hlo : ∀ (j : Nat) (x : Value), lo'[j]? = some (some x) → (j = i ∧ x = v) ∨ (j ≠ i ∧ j ≠ i + 1 ∧ lo[j]? = some (some x) ∧ (j + 1 = i → x.category = 1))) : zL b ls nL lo' := by
  refine ⟨h.1, h.2.1, fun j x hj => ?_⟩
  rcases hlo j x hj with ⟨rfl, rfl⟩ | ⟨h1, h1b, h2, h3⟩
  · exact h.2.2 _ List.mem_cons_self
  · refine h.2.2 (j, zv b x) (List.mem_cons_of_mem _ (List.mem_filter.mpr ⟨by rw [hL]; exact zL_mem h2, ?_⟩))
    simp only [zv_cat, Bool.and_eq_true, Bool.not_eq_true', beq_eq_false_iff_ne, ne_eq, Bool.and_eq_false_imp, beq_iff_eq]
    exact ⟨h1, h1b, fun q => by rw [h3 q]; decide⟩
/-- the locals with a value of one slot stored, of two -/
theorem zlo1 {lo : List (Option Value)} {i : Nat} {v : Value} (hp : ∀ x, lo[i - 1]? = some (some x) → 0 < i → x.category = 1) : ∀ (j : Nat) (x : Value), (lo.set i (some v))[j]? = some (some x) → (j = i ∧ x = v) ∨ (j ≠ i ∧ lo[j]? = some (some x) ∧ (j + 1 = i → x.category = 1)) := by
  intro j x hj
  rw [List.getElem?_set] at hj
  by_cases e : i = j
  · rw [if_pos e] at hj
    split at hj
    · cases hj; exact Or.inl ⟨e.symm, rfl⟩
    · cases hj
  · rw [if_neg e] at hj
    exact Or.inr ⟨fun q => e q.symm, hj, fun q => hp x (by rw [← q]; exact hj) (by omega)⟩
theorem zlo2 {lo : List (Option Value)} {i : Nat} {v : Value} (hp : ∀ x, lo[i - 1]? = some (some x) → 0 < i → x.category = 1) : ∀ (j : Nat) (x : Value), ((lo.set i (some v)).set (i + 1) none)[j]? = some (some x) → (j = i ∧ x = v) ∨ (j ≠ i ∧ j ≠ i + 1 ∧ lo[j]? = some (some x) ∧ (j + 1 = i → x.category = 1)) := by
  intro j x hj
  rw [List.getElem?_set] at hj
  by_cases e : i + 1 = j
  · rw [if_pos e] at hj
    split at hj <;> cases hj
  · rw [if_neg e, List.getElem?_set] at hj
    by_cases e2 : i = j
    · rw [if_pos e2] at hj
      split at hj
      · cases hj; exact Or.inl ⟨e2.symm, rfl⟩
      · cases hj
    · rw [if_neg e2] at hj
      exact Or.inr ⟨fun q => e2 q.symm, fun q => e q.symm, hj, fun q => hp x (by rw [← q]; exact hj) (by omega)⟩
theorem zg_istore_n {f : Fin 4} {i : Nat} {x : Int32} (hf : (f : Nat) = i) (hp : ∀ x, lo[i - 1]? = some (some x) → 0 < i → x.category = 1) (hi : i < zmL M) (hd : decode M.2.1 pc = .ok (.istore_n f, 1))
    (k : zAW G M XF QF (pc + 1) (lo.set i (some (.int x))) (st) n h c sl) : zAW G M XF QF pc lo (.int x :: st) n h c sl := by
  intro p e s m args below meth cd F H locs ls hz hw hs hl
  refine lv_istore_n F.1 F.2.1 hd hf hl.has hi rfl (fun ls2 hl2 => ?_)
  exact k p e s m args below meth cd F H locs ls2 hz hw hs (zL_st1 (v := .int x) rfl hl2 (zlo1 hp))
theorem zg_istore {i : Nat} {x : Int32} (hp : ∀ x, lo[i - 1]? = some (some x) → 0 < i → x.category = 1) (hi : i < zmL M) (hd : decode M.2.1 pc = .ok (.istore i, 2))
    (k : zAW G M XF QF (pc + 2) (lo.set i (some (.int x))) (st) n h c sl) : zAW G M XF QF pc lo (.int x :: st) n h c sl := by
  intro p e s m args below meth cd F H locs ls hz hw hs hl
  refine lv_istore F.1 F.2.1 hd hl.has hi rfl (fun ls2 hl2 => ?_)
  exact k p e s m args below meth cd F H locs ls2 hz hw hs (zL_st1 (v := .int x) rfl hl2 (zlo1 hp))
theorem zg_astore_n {f : Fin 4} {i : Nat} {x : Nat} (hf : (f : Nat) = i) (hp : ∀ x, lo[i - 1]? = some (some x) → 0 < i → x.category = 1) (hi : i < zmL M) (hd : decode M.2.1 pc = .ok (.astore_n f, 1))
    (k : zAW G M XF QF (pc + 1) (lo.set i (some (.ref x))) (st) n h c sl) : zAW G M XF QF pc lo (.ref x :: st) n h c sl := by
  intro p e s m args below meth cd F H locs ls hz hw hs hl
  refine lv_astore_n F.1 F.2.1 hd hf hl.has hi rfl (fun ls2 hl2 => ?_)
  exact k p e s m args below meth cd F H locs ls2 hz hw hs (zL_st1 (v := .ref x) rfl hl2 (zlo1 hp))
theorem zg_astore {i : Nat} {x : Nat} (hp : ∀ x, lo[i - 1]? = some (some x) → 0 < i → x.category = 1) (hi : i < zmL M) (hd : decode M.2.1 pc = .ok (.astore i, 2))
    (k : zAW G M XF QF (pc + 2) (lo.set i (some (.ref x))) (st) n h c sl) : zAW G M XF QF pc lo (.ref x :: st) n h c sl := by
  intro p e s m args below meth cd F H locs ls hz hw hs hl
  refine lv_astore F.1 F.2.1 hd hl.has hi rfl (fun ls2 hl2 => ?_)
  exact k p e s m args below meth cd F H locs ls2 hz hw hs (zL_st1 (v := .ref x) rfl hl2 (zlo1 hp))
theorem zg_lstore_n {f : Fin 4} {i : Nat} {x : Int64} (hf : (f : Nat) = i) (hp : ∀ x, lo[i - 1]? = some (some x) → 0 < i → x.category = 1) (hi : i + 1 < zmL M) (hd : decode M.2.1 pc = .ok (.lstore_n f, 1))
    (k : zAW G M XF QF (pc + 1) ((lo.set i (some (.long x))).set (i + 1) none) (st) n h c sl) : zAW G M XF QF pc lo (.long x :: st) n h c sl := by
  intro p e s m args below meth cd F H locs ls hz hw hs hl
  refine lv_lstore_n F.1 F.2.1 hd hf hl.has hi rfl (fun ls2 hl2 => ?_)
  exact k p e s m args below meth cd F H locs ls2 hz hw hs (zL_st2 (v := .long x) rfl hl2 (zlo2 hp))
theorem zg_lstore {i : Nat} {x : Int64} (hp : ∀ x, lo[i - 1]? = some (some x) → 0 < i → x.category = 1) (hi : i + 1 < zmL M) (hd : decode M.2.1 pc = .ok (.lstore i, 2))
    (k : zAW G M XF QF (pc + 2) ((lo.set i (some (.long x))).set (i + 1) none) (st) n h c sl) : zAW G M XF QF pc lo (.long x :: st) n h c sl := by
  intro p e s m args below meth cd F H locs ls hz hw hs hl
  refine lv_lstore F.1 F.2.1 hd hl.has hi rfl (fun ls2 hl2 => ?_)
  exact k p e s m args below meth cd F H locs ls2 hz hw hs (zL_st2 (v := .long x) rfl hl2 (zlo2 hp))
theorem zg_iinc {i : Nat} {d z : Int} (hx : lo[i]? = some (some (vi z))) (hp : ∀ x, lo[i - 1]? = some (some x) → 0 < i → x.category = 1) (hi : i < zmL M) (hd : decode M.2.1 pc = .ok (.iinc i d, 3))
    (k : zAW G M XF QF (pc + 3) (lo.set i (some (vi (z + d)))) st n h c sl) : zAW G M XF QF pc lo st n h c sl := by
  intro p e s m args below meth cd F H locs ls hz hw hs hl
  obtain ⟨j, hj⟩ := List.getElem?_of_mem (zL_mem (b := zgb G) hx)
  refine lv_iinc (v := iZ (z + d)) F.1 F.2.1 hd hl.has (k := j) (x := iZ z) hj (by rw [← iZ_add]; rfl) hi rfl (fun ls2 hl2 => ?_)
  exact k p e s m args below meth cd F H locs ls2 hz hw hs (zL_st1 (v := vi (z + d)) rfl hl2 (zlo1 hp))
theorem zs_istore_n_0 {x0 : Option Value} {r : List (Option Value)} {y : Int32} (hi : 0 < zmL M) (hd : decode M.2.1 pc = .ok (.istore_n 0, 1)) (k : zAW G M XF QF (pc + 1) (some (.int y) :: r) st n h c sl) : zAW G M XF QF pc (x0 :: r) (.int y :: st) n h c sl := zg_istore_n (i := 0) rfl (fun _ _ q => absurd q (Nat.lt_irrefl 0)) hi hd k
theorem zs_istore_0 {x0 : Option Value} {r : List (Option Value)} {y : Int32} (hi : 0 < zmL M) (hd : decode M.2.1 pc = .ok (.istore 0, 2)) (k : zAW G M XF QF (pc + 2) (some (.int y) :: r) st n h c sl) : zAW G M XF QF pc (x0 :: r) (.int y :: st) n h c sl := zg_istore (i := 0) (fun _ _ q => absurd q (Nat.lt_irrefl 0)) hi hd k
theorem zs_astore_n_0 {x0 : Option Value} {r : List (Option Value)} {y : Nat} (hi : 0 < zmL M) (hd : decode M.2.1 pc = .ok (.astore_n 0, 1)) (k : zAW G M XF QF (pc + 1) (some (.ref y) :: r) st n h c sl) : zAW G M XF QF pc (x0 :: r) (.ref y :: st) n h c sl := zg_astore_n (i := 0) rfl (fun _ _ q => absurd q (Nat.lt_irrefl 0)) hi hd k
theorem zs_astore_0 {x0 : Option Value} {r : List (Option Value)} {y : Nat} (hi : 0 < zmL M) (hd : decode M.2.1 pc = .ok (.astore 0, 2)) (k : zAW G M XF QF (pc + 2) (some (.ref y) :: r) st n h c sl) : zAW G M XF QF pc (x0 :: r) (.ref y :: st) n h c sl := zg_astore (i := 0) (fun _ _ q => absurd q (Nat.lt_irrefl 0)) hi hd k
theorem zs_iinc_0 {u0 : Option Value} {r : List (Option Value)} {z d : Int} (hi : 0 < zmL M) (hd : decode M.2.1 pc = .ok (.iinc 0 d, 3)) (k : zAW G M XF QF (pc + 3) (some (vi (z + d)) :: r) st n h c sl) : zAW G M XF QF pc (some (vi z) :: r) st n h c sl := zg_iinc (i := 0) rfl (fun _ _ q => absurd q (Nat.lt_irrefl 0)) hi hd k
theorem zs_lstore_n_0 {x0 x1 : Option Value} {r : List (Option Value)} {y : Int64} (hi : 0 + 1 < zmL M) (hd : decode M.2.1 pc = .ok (.lstore_n 0, 1)) (k : zAW G M XF QF (pc + 1) (some (.long y) :: none :: r) st n h c sl) : zAW G M XF QF pc (x0 :: x1 :: r) (.long y :: st) n h c sl := zg_lstore_n (i := 0) rfl (fun _ _ q => absurd q (Nat.lt_irrefl 0)) hi hd k
theorem zs_lstore_0 {x0 x1 : Option Value} {r : List (Option Value)} {y : Int64} (hi : 0 + 1 < zmL M) (hd : decode M.2.1 pc = .ok (.lstore 0, 2)) (k : zAW G M XF QF (pc + 2) (some (.long y) :: none :: r) st n h c sl) : zAW G M XF QF pc (x0 :: x1 :: r) (.long y :: st) n h c sl := zg_lstore (i := 0) (fun _ _ q => absurd q (Nat.lt_irrefl 0)) hi hd k
theorem zs_istore_n_1 {x0 x1 : Option Value} {r : List (Option Value)} {y : Int32} (hn : zn x0) (hi : 1 < zmL M) (hd : decode M.2.1 pc = .ok (.istore_n 1, 1)) (k : zAW G M XF QF (pc + 1) (x0 :: some (.int y) :: r) st n h c sl) : zAW G M XF QF pc (x0 :: x1 :: r) (.int y :: st) n h c sl := zg_istore_n (i := 1) rfl (fun y hy _ => hn y (Option.some.inj hy)) hi hd k
theorem zs_istore_1 {x0 x1 : Option Value} {r : List (Option Value)} {y : Int32} (hn : zn x0) (hi : 1 < zmL M) (hd : decode M.2.1 pc = .ok (.istore 1, 2)) (k : zAW G M XF QF (pc + 2) (x0 :: some (.int y) :: r) st n h c sl) : zAW G M XF QF pc (x0 :: x1 :: r) (.int y :: st) n h c sl := zg_istore (i := 1) (fun y hy _ => hn y (Option.some.inj hy)) hi hd k
theorem zs_astore_n_1 {x0 x1 : Option Value} {r : List (Option Value)} {y : Nat} (hn : zn x0) (hi : 1 < zmL M) (hd : decode M.2.1 pc = .ok (.astore_n 1, 1)) (k : zAW G M XF QF (pc + 1) (x0 :: some (.ref y) :: r) st n h c sl) : zAW G M XF QF pc (x0 :: x1 :: r) (.ref y :: st) n h c sl := zg_astore_n (i := 1) rfl (fun y hy _ => hn y (Option.some.inj hy)) hi hd k
theorem zs_astore_1 {x0 x1 : Option Value} {r : List (Option Value)} {y : Nat} (hn : zn x0) (hi : 1 < zmL M) (hd : decode M.2.1 pc = .ok (.astore 1, 2)) (k : zAW G M XF QF (pc + 2) (x0 :: some (.ref y) :: r) st n h c sl) : zAW G M XF QF pc (x0 :: x1 :: r) (.ref y :: st) n h c sl := zg_astore (i := 1) (fun y hy _ => hn y (Option.some.inj hy)) hi hd k
theorem zs_iinc_1 {x0 : Option Value} {r : List (Option Value)} {z d : Int} (hn : zn x0) (hi : 1 < zmL M) (hd : decode M.2.1 pc = .ok (.iinc 1 d, 3)) (k : zAW G M XF QF (pc + 3) (x0 :: some (vi (z + d)) :: r) st n h c sl) : zAW G M XF QF pc (x0 :: some (vi z) :: r) st n h c sl := zg_iinc (i := 1) rfl (fun y hy _ => hn y (Option.some.inj hy)) hi hd k
theorem zs_lstore_n_1 {x0 x1 x2 : Option Value} {r : List (Option Value)} {y : Int64} (hn : zn x0) (hi : 1 + 1 < zmL M) (hd : decode M.2.1 pc = .ok (.lstore_n 1, 1)) (k : zAW G M XF QF (pc + 1) (x0 :: some (.long y) :: none :: r) st n h c sl) : zAW G M XF QF pc (x0 :: x1 :: x2 :: r) (.long y :: st) n h c sl := zg_lstore_n (i := 1) rfl (fun y hy _ => hn y (Option.some.inj hy)) hi hd k
theorem zs_lstore_1 {x0 x1 x2 : Option Value} {r : List (Option Value)} {y : Int64} (hn : zn x0) (hi : 1 + 1 < zmL M) (hd : decode M.2.1 pc = .ok (.lstore 1, 2)) (k : zAW G M XF QF (pc + 2) (x0 :: some (.long y) :: none :: r) st n h c sl) : zAW G M XF QF pc (x0 :: x1 :: x2 :: r) (.long y :: st) n h c sl := zg_lstore (i := 1) (fun y hy _ => hn y (Option.some.inj hy)) hi hd k
theorem zs_istore_n_2 {x0 x1 x2 : Option Value} {r : List (Option Value)} {y : Int32} (hn : zn x1) (hi : 2 < zmL M) (hd : decode M.2.1 pc = .ok (.istore_n 2, 1)) (k : zAW G M XF QF (pc + 1) (x0 :: x1 :: some (.int y) :: r) st n h c sl) : zAW G M XF QF pc (x0 :: x1 :: x2 :: r) (.int y :: st) n h c sl := zg_istore_n (i := 2) rfl (fun y hy _ => hn y (Option.some.inj hy)) hi hd k
theorem zs_istore_2 {x0 x1 x2 : Option Value} {r : List (Option Value)} {y : Int32} (hn : zn x1) (hi : 2 < zmL M) (hd : decode M.2.1 pc = .ok (.istore 2, 2)) (k : zAW G M XF QF (pc + 2) (x0 :: x1 :: some (.int y) :: r) st n h c sl) : zAW G M XF QF pc (x0 :: x1 :: x2 :: r) (.int y :: st) n h c sl := zg_istore (i := 2) (fun y hy _ => hn y (Option.some.inj hy)) hi hd k
theorem zs_astore_n_2 {x0 x1 x2 : Option Value} {r : List (Option Value)} {y : Nat} (hn : zn x1) (hi : 2 < zmL M) (hd : decode M.2.1 pc = .ok (.astore_n 2, 1)) (k : zAW G M XF QF (pc + 1) (x0 :: x1 :: some (.ref y) :: r) st n h c sl) : zAW G M XF QF pc (x0 :: x1 :: x2 :: r) (.ref y :: st) n h c sl := zg_astore_n (i := 2) rfl (fun y hy _ => hn y (Option.some.inj hy)) hi hd k
theorem zs_astore_2 {x0 x1 x2 : Option Value} {r : List (Option Value)} {y : Nat} (hn : zn x1) (hi : 2 < zmL M) (hd : decode M.2.1 pc = .ok (.astore 2, 2)) (k : zAW G M XF QF (pc + 2) (x0 :: x1 :: some (.ref y) :: r) st n h c sl) : zAW G M XF QF pc (x0 :: x1 :: x2 :: r) (.ref y :: st) n h c sl := zg_astore (i := 2) (fun y hy _ => hn y (Option.some.inj hy)) hi hd k
theorem zs_iinc_2 {x0 x1 : Option Value} {r : List (Option Value)} {z d : Int} (hn : zn x1) (hi : 2 < zmL M) (hd : decode M.2.1 pc = .ok (.iinc 2 d, 3)) (k : zAW G M XF QF (pc + 3) (x0 :: x1 :: some (vi (z + d)) :: r) st n h c sl) : zAW G M XF QF pc (x0 :: x1 :: some (vi z) :: r) st n h c sl := zg_iinc (i := 2) rfl (fun y hy _ => hn y (Option.some.inj hy)) hi hd k
theorem zs_lstore_n_2 {x0 x1 x2 x3 : Option Value} {r : List (Option Value)} {y : Int64} (hn : zn x1) (hi : 2 + 1 < zmL M) (hd : decode M.2.1 pc = .ok (.lstore_n 2, 1)) (k : zAW G M XF QF (pc + 1) (x0 :: x1 :: some (.long y) :: none :: r) st n h c sl) : zAW G M XF QF pc (x0 :: x1 :: x2 :: x3 :: r) (.long y :: st) n h c sl := zg_lstore_n (i := 2) rfl (fun y hy _ => hn y (Option.some.inj hy)) hi hd k
theorem zs_lstore_2 {x0 x1 x2 x3 : Option Value} {r : List (Option Value)} {y : Int64} (hn : zn x1) (hi : 2 + 1 < zmL M) (hd : decode M.2.1 pc = .ok (.lstore 2, 2)) (k : zAW G M XF QF (pc + 2) (x0 :: x1 :: some (.long y) :: none :: r) st n h c sl) : zAW G M XF QF pc (x0 :: x1 :: x2 :: x3 :: r) (.long y :: st) n h c sl := zg_lstore (i := 2) (fun y hy _ => hn y (Option.some.inj hy)) hi hd k
theorem zs_istore_n_3 {x0 x1 x2 x3 : Option Value} {r : List (Option Value)} {y : Int32} (hn : zn x2) (hi : 3 < zmL M) (hd : decode M.2.1 pc = .ok (.istore_n 3, 1)) (k : zAW G M XF QF (pc + 1) (x0 :: x1 :: x2 :: some (.int y) :: r) st n h c sl) : zAW G M XF QF pc (x0 :: x1 :: x2 :: x3 :: r) (.int y :: st) n h c sl := zg_istore_n (i := 3) rfl (fun y hy _ => hn y (Option.some.inj hy)) hi hd k
theorem zs_istore_3 {x0 x1 x2 x3 : Option Value} {r : List (Option Value)} {y : Int32} (hn : zn x2) (hi : 3 < zmL M) (hd : decode M.2.1 pc = .ok (.istore 3, 2)) (k : zAW G M XF QF (pc + 2) (x0 :: x1 :: x2 :: some (.int y) :: r) st n h c sl) : zAW G M XF QF pc (x0 :: x1 :: x2 :: x3 :: r) (.int y :: st) n h c sl := zg_istore (i := 3) (fun y hy _ => hn y (Option.some.inj hy)) hi hd k
theorem zs_astore_n_3 {x0 x1 x2 x3 : Option Value} {r : List (Option Value)} {y : Nat} (hn : zn x2) (hi : 3 < zmL M) (hd : decode M.2.1 pc = .ok (.astore_n 3, 1)) (k : zAW G M XF QF (pc + 1) (x0 :: x1 :: x2 :: some (.ref y) :: r) st n h c sl) : zAW G M XF QF pc (x0 :: x1 :: x2 :: x3 :: r) (.ref y :: st) n h c sl := zg_astore_n (i := 3) rfl (fun y hy _ => hn y (Option.some.inj hy)) hi hd k
theorem zs_astore_3 {x0 x1 x2 x3 : Option Value} {r : List (Option Value)} {y : Nat} (hn : zn x2) (hi : 3 < zmL M) (hd : decode M.2.1 pc = .ok (.astore 3, 2)) (k : zAW G M XF QF (pc + 2) (x0 :: x1 :: x2 :: some (.ref y) :: r) st n h c sl) : zAW G M XF QF pc (x0 :: x1 :: x2 :: x3 :: r) (.ref y :: st) n h c sl := zg_astore (i := 3) (fun y hy _ => hn y (Option.some.inj hy)) hi hd k
theorem zs_iinc_3 {x0 x1 x2 : Option Value} {r : List (Option Value)} {z d : Int} (hn : zn x2) (hi : 3 < zmL M) (hd : decode M.2.1 pc = .ok (.iinc 3 d, 3)) (k : zAW G M XF QF (pc + 3) (x0 :: x1 :: x2 :: some (vi (z + d)) :: r) st n h c sl) : zAW G M XF QF pc (x0 :: x1 :: x2 :: some (vi z) :: r) st n h c sl := zg_iinc (i := 3) rfl (fun y hy _ => hn y (Option.some.inj hy)) hi hd k
theorem zs_lstore_n_3 {x0 x1 x2 x3 x4 : Option Value} {r : List (Option Value)} {y : Int64} (hn : zn x2) (hi : 3 + 1 < zmL M) (hd : decode M.2.1 pc = .ok (.lstore_n 3, 1)) (k : zAW G M XF QF (pc + 1) (x0 :: x1 :: x2 :: some (.long y) :: none :: r) st n h c sl) : zAW G M XF QF pc (x0 :: x1 :: x2 :: x3 :: x4 :: r) (.long y :: st) n h c sl := zg_lstore_n (i := 3) rfl (fun y hy _ => hn y (Option.some.inj hy)) hi hd k
theorem zs_lstore_3 {x0 x1 x2 x3 x4 : Option Value} {r : List (Option Value)} {y : Int64} (hn : zn x2) (hi : 3 + 1 < zmL M) (hd : decode M.2.1 pc = .ok (.lstore 3, 2)) (k : zAW G M XF QF (pc + 2) (x0 :: x1 :: x2 :: some (.long y) :: none :: r) st n h c sl) : zAW G M XF QF pc (x0 :: x1 :: x2 :: x3 :: x4 :: r) (.long y :: st) n h c sl := zg_lstore (i := 3) (fun y hy _ => hn y (Option.some.inj hy)) hi hd k
theorem zs_istore_4 {x0 x1 x2 x3 x4 : Option Value} {r : List (Option Value)} {y : Int32} (hn : zn x3) (hi : 4 < zmL M) (hd : decode M.2.1 pc = .ok (.istore 4, 2)) (k : zAW G M XF QF (pc + 2) (x0 :: x1 :: x2 :: x3 :: some (.int y) :: r) st n h c sl) : zAW G M XF QF pc (x0 :: x1 :: x2 :: x3 :: x4 :: r) (.int y :: st) n h c sl := zg_istore (i := 4) (fun y hy _ => hn y (Option.some.inj hy)) hi hd k
theorem zs_astore_4 {x0 x1 x2 x3 x4 : Option Value} {r : List (Option Value)} {y : Nat} (hn : zn x3) (hi : 4 < zmL M) (hd : decode M.2.1 pc = .ok (.astore 4, 2)) (k : zAW G M XF QF (pc + 2) (x0 :: x1 :: x2 :: x3 :: some (.ref y) :: r) st n h c sl) : zAW G M XF QF pc (x0 :: x1 :: x2 :: x3 :: x4 :: r) (.ref y :: st) n h c sl := zg_astore (i := 4) (fun y hy _ => hn y (Option.some.inj hy)) hi hd k
theorem zs_iinc_4 {x0 x1 x2 x3 : Option Value} {r : List (Option Value)} {z d : Int} (hn : zn x3) (hi : 4 < zmL M) (hd : decode M.2.1 pc = .ok (.iinc 4 d, 3)) (k : zAW G M XF QF (pc + 3) (x0 :: x1 :: x2 :: x3 :: some (vi (z + d)) :: r) st n h c sl) : zAW G M XF QF pc (x0 :: x1 :: x2 :: x3 :: some (vi z) :: r) st n h c sl := zg_iinc (i := 4) rfl (fun y hy _ => hn y (Option.some.inj hy)) hi hd k
theorem zs_lstore_4 {x0 x1 x2 x3 x4 x5 : Option Value} {r : List (Option Value)} {y : Int64} (hn : zn x3) (hi : 4 + 1 < zmL M) (hd : decode M.2.1 pc = .ok (.lstore 4, 2)) (k : zAW G M XF QF (pc + 2) (x0 :: x1 :: x2 :: x3 :: some (.long y) :: none :: r) st n h c sl) : zAW G M XF QF pc (x0 :: x1 :: x2 :: x3 :: x4 :: x5 :: r) (.long y :: st) n h c sl := zg_lstore (i := 4) (fun y hy _ => hn y (Option.some.inj hy)) hi hd k
theorem zs_istore_5 {x0 x1 x2 x3 x4 x5 : Option Value} {r : List (Option Value)} {y : Int32} (hn : zn x4) (hi : 5 < zmL M) (hd : decode M.2.1 pc = .ok (.istore 5, 2)) (k : zAW G M XF QF (pc + 2) (x0 :: x1 :: x2 :: x3 :: x4 :: some (.int y) :: r) st n h c sl) : zAW G M XF QF pc (x0 :: x1 :: x2 :: x3 :: x4 :: x5 :: r) (.int y :: st) n h c sl := zg_istore (i := 5) (fun y hy _ => hn y (Option.some.inj hy)) hi hd k
theorem zs_astore_5 {x0 x1 x2 x3 x4 x5 : Option Value} {r : List (Option Value)} {y : Nat} (hn : zn x4) (hi : 5 < zmL M) (hd : decode M.2.1 pc = .ok (.astore 5, 2)) (k : zAW G M XF QF (pc + 2) (x0 :: x1 :: x2 :: x3 :: x4 :: some (.ref y) :: r) st n h c sl) : zAW G M XF QF pc (x0 :: x1 :: x2 :: x3 :: x4 :: x5 :: r) (.ref y :: st) n h c sl := zg_astore (i := 5) (fun y hy _ => hn y (Option.some.inj hy)) hi hd k
theorem zs_iinc_5 {x0 x1 x2 x3 x4 : Option Value} {r : List (Option Value)} {z d : Int} (hn : zn x4) (hi : 5 < zmL M) (hd : decode M.2.1 pc = .ok (.iinc 5 d, 3)) (k : zAW G M XF QF (pc + 3) (x0 :: x1 :: x2 :: x3 :: x4 :: some (vi (z + d)) :: r) st n h c sl) : zAW G M XF QF pc (x0 :: x1 :: x2 :: x3 :: x4 :: some (vi z) :: r) st n h c sl := zg_iinc (i := 5) rfl (fun y hy _ => hn y (Option.some.inj hy)) hi hd k
theorem zs_lstore_5 {x0 x1 x2 x3 x4 x5 x6 : Option Value} {r : List (Option Value)} {y : Int64} (hn : zn x4) (hi : 5 + 1 < zmL M) (hd : decode M.2.1 pc = .ok (.lstore 5, 2)) (k : zAW G M XF QF (pc + 2) (x0 :: x1 :: x2 :: x3 :: x4 :: some (.long y) :: none :: r) st n h c sl) : zAW G M XF QF pc (x0 :: x1 :: x2 :: x3 :: x4 :: x5 :: x6 :: r) (.long y :: st) n h c sl := zg_lstore (i := 5) (fun y hy _ => hn y (Option.some.inj hy)) hi hd k
theorem zs_istore_6 {x0 x1 x2 x3 x4 x5 x6 : Option Value} {r : List (Option Value)} {y : Int32} (hn : zn x5) (hi : 6 < zmL M) (hd : decode M.2.1 pc = .ok (.istore 6, 2)) (k : zAW G M XF QF (pc + 2) (x0 :: x1 :: x2 :: x3 :: x4 :: x5 :: some (.int y) :: r) st n h c sl) : zAW G M XF QF pc (x0 :: x1 :: x2 :: x3 :: x4 :: x5 :: x6 :: r) (.int y :: st) n h c sl := zg_istore (i := 6) (fun y hy _ => hn y (Option.some.inj hy)) hi hd k
theorem zs_astore_6 {x0 x1 x2 x3 x4 x5 x6 : Option Value} {r : List (Option Value)} {y : Nat} (hn : zn x5) (hi : 6 < zmL M) (hd : decode M.2.1 pc = .ok (.astore 6, 2)) (k : zAW G M XF QF (pc + 2) (x0 :: x1 :: x2 :: x3 :: x4 :: x5 :: some (.ref y) :: r) st n h c sl) : zAW G M XF QF pc (x0 :: x1 :: x2 :: x3 :: x4 :: x5 :: x6 :: r) (.ref y :: st) n h c sl := zg_astore (i := 6) (fun y hy _ => hn y (Option.some.inj hy)) hi hd k
theorem zs_iinc_6 {x0 x1 x2 x3 x4 x5 : Option Value} {r : List (Option Value)} {z d : Int} (hn : zn x5) (hi : 6 < zmL M) (hd : decode M.2.1 pc = .ok (.iinc 6 d, 3)) (k : zAW G M XF QF (pc + 3) (x0 :: x1 :: x2 :: x3 :: x4 :: x5 :: some (vi (z + d)) :: r) st n h c sl) : zAW G M XF QF pc (x0 :: x1 :: x2 :: x3 :: x4 :: x5 :: some (vi z) :: r) st n h c sl := zg_iinc (i := 6) rfl (fun y hy _ => hn y (Option.some.inj hy)) hi hd k
theorem zs_lstore_6 {x0 x1 x2 x3 x4 x5 x6 x7 : Option Value} {r : List (Option Value)} {y : Int64} (hn : zn x5) (hi : 6 + 1 < zmL M) (hd : decode M.2.1 pc = .ok (.lstore 6, 2)) (k : zAW G M XF QF (pc + 2) (x0 :: x1 :: x2 :: x3 :: x4 :: x5 :: some (.long y) :: none :: r) st n h c sl) : zAW G M XF QF pc (x0 :: x1 :: x2 :: x3 :: x4 :: x5 :: x6 :: x7 :: r) (.long y :: st) n h c sl := zg_lstore (i := 6) (fun y hy _ => hn y (Option.some.inj hy)) hi hd k
theorem zs_istore_7 {x0 x1 x2 x3 x4 x5 x6 x7 : Option Value} {r : List (Option Value)} {y : Int32} (hn : zn x6) (hi : 7 < zmL M) (hd : decode M.2.1 pc = .ok (.istore 7, 2)) (k : zAW G M XF QF (pc + 2) (x0 :: x1 :: x2 :: x3 :: x4 :: x5 :: x6 :: some (.int y) :: r) st n h c sl) : zAW G M XF QF pc (x0 :: x1 :: x2 :: x3 :: x4 :: x5 :: x6 :: x7 :: r) (.int y :: st) n h c sl := zg_istore (i := 7) (fun y hy _ => hn y (Option.some.inj hy)) hi hd k
theorem zs_astore_7 {x0 x1 x2 x3 x4 x5 x6 x7 : Option Value} {r : List (Option Value)} {y : Nat} (hn : zn x6) (hi : 7 < zmL M) (hd : decode M.2.1 pc = .ok (.astore 7, 2)) (k : zAW G M XF QF (pc + 2) (x0 :: x1 :: x2 :: x3 :: x4 :: x5 :: x6 :: some (.ref y) :: r) st n h c sl) : zAW G M XF QF pc (x0 :: x1 :: x2 :: x3 :: x4 :: x5 :: x6 :: x7 :: r) (.ref y :: st) n h c sl := zg_astore (i := 7) (fun y hy _ => hn y (Option.some.inj hy)) hi hd k
theorem zs_iinc_7 {x0 x1 x2 x3 x4 x5 x6 : Option Value} {r : List (Option Value)} {z d : Int} (hn : zn x6) (hi : 7 < zmL M) (hd : decode M.2.1 pc = .ok (.iinc 7 d, 3)) (k : zAW G M XF QF (pc + 3) (x0 :: x1 :: x2 :: x3 :: x4 :: x5 :: x6 :: some (vi (z + d)) :: r) st n h c sl) : zAW G M XF QF pc (x0 :: x1 :: x2 :: x3 :: x4 :: x5 :: x6 :: some (vi z) :: r) st n h c sl := zg_iinc (i := 7) rfl (fun y hy _ => hn y (Option.some.inj hy)) hi hd k
theorem zs_lstore_7 {x0 x1 x2 x3 x4 x5 x6 x7 x8 : Option Value} {r : List (Option Value)} {y : Int64} (hn : zn x6) (hi : 7 + 1 < zmL M) (hd : decode M.2.1 pc = .ok (.lstore 7, 2)) (k : zAW G M XF QF (pc + 2) (x0 :: x1 :: x2 :: x3 :: x4 :: x5 :: x6 :: some (.long y) :: none :: r) st n h c sl) : zAW G M XF QF pc (x0 :: x1 :: x2 :: x3 :: x4 :: x5 :: x6 :: x7 :: x8 :: r) (.long y :: st) n h c sl := zg_lstore (i := 7) (fun y hy _ => hn y (Option.some.inj hy)) hi hd k
theorem zs_istore_8 {x0 x1 x2 x3 x4 x5 x6 x7 x8 : Option Value} {r : List (Option Value)} {y : Int32} (hn : zn x7) (hi : 8 < zmL M) (hd : decode M.2.1 pc = .ok (.istore 8, 2)) (k : zAW G M XF QF (pc + 2) (x0 :: x1 :: x2 :: x3 :: x4 :: x5 :: x6 :: x7 :: some (.int y) :: r) st n h c sl) : zAW G M XF QF pc (x0 :: x1 :: x2 :: x3 :: x4 :: x5 :: x6 :: x7 :: x8 :: r) (.int y :: st) n h c sl := zg_istore (i := 8) (fun y hy _ => hn y (Option.some.inj hy)) hi hd k
theorem zs_astore_8 {x0 x1 x2 x3 x4 x5 x6 x7 x8 : Option Value} {r : List (Option Value)} {y : Nat} (hn : zn x7) (hi : 8 < zmL M) (hd : decode M.2.1 pc = .ok (.astore 8, 2)) (k : zAW G M XF QF (pc + 2) (x0 :: x1 :: x2 :: x3 :: x4 :: x5 :: x6 :: x7 :: some (.ref y) :: r) st n h c sl) : zAW G M XF QF pc (x0 :: x1 :: x2 :: x3 :: x4 :: x5 :: x6 :: x7 :: x8 :: r) (.ref y :: st) n h c sl := zg_astore (i := 8) (fun y hy _ => hn y (Option.some.inj hy)) hi hd k
theorem zs_iinc_8 {x0 x1 x2 x3 x4 x5 x6 x7 : Option Value} {r : List (Option Value)} {z d : Int} (hn : zn x7) (hi : 8 < zmL M) (hd : decode M.2.1 pc = .ok (.iinc 8 d, 3)) (k : zAW G M XF QF (pc + 3) (x0 :: x1 :: x2 :: x3 :: x4 :: x5 :: x6 :: x7 :: some (vi (z + d)) :: r) st n h c sl) : zAW G M XF QF pc (x0 :: x1 :: x2 :: x3 :: x4 :: x5 :: x6 :: x7 :: some (vi z) :: r) st n h c sl := zg_iinc (i := 8) rfl (fun y hy _ => hn y (Option.some.inj hy)) hi hd k
theorem zs_lstore_8 {x0 x1 x2 x3 x4 x5 x6 x7 x8 x9 : Option Value} {r : List (Option Value)} {y : Int64} (hn : zn x7) (hi : 8 + 1 < zmL M) (hd : decode M.2.1 pc = .ok (.lstore 8, 2)) (k : zAW G M XF QF (pc + 2) (x0 :: x1 :: x2 :: x3 :: x4 :: x5 :: x6 :: x7 :: some (.long y) :: none :: r) st n h c sl) : zAW G M XF QF pc (x0 :: x1 :: x2 :: x3 :: x4 :: x5 :: x6 :: x7 :: x8 :: x9 :: r) (.long y :: st) n h c sl := zg_lstore (i := 8) (fun y hy _ => hn y (Option.some.inj hy)) hi hd k
theorem zs_istore_9 {x0 x1 x2 x3 x4 x5 x6 x7 x8 x9 : Option Value} {r : List (Option Value)} {y : Int32} (hn : zn x8) (hi : 9 < zmL M) (hd : decode M.2.1 pc = .ok (.istore 9, 2)) (k : zAW G M XF QF (pc + 2) (x0 :: x1 :: x2 :: x3 :: x4 :: x5 :: x6 :: x7 :: x8 :: some (.int y) :: r) st n h c sl) : zAW G M XF QF pc (x0 :: x1 :: x2 :: x3 :: x4 :: x5 :: x6 :: x7 :: x8 :: x9 :: r) (.int y :: st) n h c sl := zg_istore (i := 9) (fun y hy _ => hn y (Option.some.inj hy)) hi hd k
theorem zs_astore_9 {x0 x1 x2 x3 x4 x5 x6 x7 x8 x9 : Option Value} {r : List (Option Value)} {y : Nat} (hn : zn x8) (hi : 9 < zmL M) (hd : decode M.2.1 pc = .ok (.astore 9, 2)) (k : zAW G M XF QF (pc + 2) (x0 :: x1 :: x2 :: x3 :: x4 :: x5 :: x6 :: x7 :: x8 :: some (.ref y) :: r) st n h c sl) : zAW G M XF QF pc (x0 :: x1 :: x2 :: x3 :: x4 :: x5 :: x6 :: x7 :: x8 :: x9 :: r) (.ref y :: st) n h c sl := zg_astore (i := 9) (fun y hy _ => hn y (Option.some.inj hy)) hi hd k
theorem zs_iinc_9 {x0 x1 x2 x3 x4 x5 x6 x7 x8 : Option Value} {r : List (Option Value)} {z d : Int} (hn : zn x8) (hi : 9 < zmL M) (hd : decode M.2.1 pc = .ok (.iinc 9 d, 3)) (k : zAW G M XF QF (pc + 3) (x0 :: x1 :: x2 :: x3 :: x4 :: x5 :: x6 :: x7 :: x8 :: some (vi (z + d)) :: r) st n h c sl) : zAW G M XF QF pc (x0 :: x1 :: x2 :: x3 :: x4 :: x5 :: x6 :: x7 :: x8 :: some (vi z) :: r) st n h c sl := zg_iinc (i := 9) rfl (fun y hy _ => hn y (Option.some.inj hy)) hi hd k
theorem zs_lstore_9 {x0 x1 x2 x3 x4 x5 x6 x7 x8 x9 x10 : Option Value} {r : List (Option Value)} {y : Int64} (hn : zn x8) (hi : 9 + 1 < zmL M) (hd : decode M.2.1 pc = .ok (.lstore 9, 2)) (k : zAW G M XF QF (pc + 2) (x0 :: x1 :: x2 :: x3 :: x4 :: x5 :: x6 :: x7 :: x8 :: some (.long y) :: none :: r) st n h c sl) : zAW G M XF QF pc (x0 :: x1 :: x2 :: x3 :: x4 :: x5 :: x6 :: x7 :: x8 :: x9 :: x10 :: r) (.long y :: st) n h c sl := zg_lstore (i := 9) (fun y hy _ => hn y (Option.some.inj hy)) hi hd k
theorem zs_istore_10 {x0 x1 x2 x3 x4 x5 x6 x7 x8 x9 x10 : Option Value} {r : List (Option Value)} {y : Int32} (hn : zn x9) (hi : 10 < zmL M) (hd : decode M.2.1 pc = .ok (.istore 10, 2)) (k : zAW G M XF QF (pc + 2) (x0 :: x1 :: x2 :: x3 :: x4 :: x5 :: x6 :: x7 :: x8 :: x9 :: some (.int y) :: r) st n h c sl) : zAW G M XF QF pc (x0 :: x1 :: x2 :: x3 :: x4 :: x5 :: x6 :: x7 :: x8 :: x9 :: x10 :: r) (.int y :: st) n h c sl := zg_istore (i := 10) (fun y hy _ => hn y (Option.some.inj hy)) hi hd k
theorem zs_astore_10 {x0 x1 x2 x3 x4 x5 x6 x7 x8 x9 x10 : Option Value} {r : List (Option Value)} {y : Nat} (hn : zn x9) (hi : 10 < zmL M) (hd : decode M.2.1 pc = .ok (.astore 10, 2)) (k : zAW G M XF QF (pc + 2) (x0 :: x1 :: x2 :: x3 :: x4 :: x5 :: x6 :: x7 :: x8 :: x9 :: some (.ref y) :: r) st n h c sl) : zAW G M XF QF pc (x0 :: x1 :: x2 :: x3 :: x4 :: x5 :: x6 :: x7 :: x8 :: x9 :: x10 :: r) (.ref y :: st) n h c sl := zg_astore (i := 10) (fun y hy _ => hn y (Option.some.inj hy)) hi hd k
theorem zs_iinc_10 {x0 x1 x2 x3 x4 x5 x6 x7 x8 x9 : Option Value} {r : List (Option Value)} {z d : Int} (hn : zn x9) (hi : 10 < zmL M) (hd : decode M.2.1 pc = .ok (.iinc 10 d, 3)) (k : zAW G M XF QF (pc + 3) (x0 :: x1 :: x2 :: x3 :: x4 :: x5 :: x6 :: x7 :: x8 :: x9 :: some (vi (z + d)) :: r) st n h c sl) : zAW G M XF QF pc (x0 :: x1 :: x2 :: x3 :: x4 :: x5 :: x6 :: x7 :: x8 :: x9 :: some (vi z) :: r) st n h c sl := zg_iinc (i := 10) rfl (fun y hy _ => hn y (Option.some.inj hy)) hi hd k
theorem zs_lstore_10 {x0 x1 x2 x3 x4 x5 x6 x7 x8 x9 x10 x11 : Option Value} {r : List (Option Value)} {y : Int64} (hn : zn x9) (hi : 10 + 1 < zmL M) (hd : decode M.2.1 pc = .ok (.lstore 10, 2)) (k : zAW G M XF QF (pc + 2) (x0 :: x1 :: x2 :: x3 :: x4 :: x5 :: x6 :: x7 :: x8 :: x9 :: some (.long y) :: none :: r) st n h c sl) : zAW G M XF QF pc (x0 :: x1 :: x2 :: x3 :: x4 :: x5 :: x6 :: x7 :: x8 :: x9 :: x10 :: x11 :: r) (.long y :: st) n h c sl := zg_lstore (i := 10) (fun y hy _ => hn y (Option.some.inj hy)) hi hd k
theorem zs_istore_11 {x0 x1 x2 x3 x4 x5 x6 x7 x8 x9 x10 x11 : Option Value} {r : List (Option Value)} {y : Int32} (hn : zn x10) (hi : 11 < zmL M) (hd : decode M.2.1 pc = .ok (.istore 11, 2)) (k : zAW G M XF QF (pc + 2) (x0 :: x1 :: x2 :: x3 :: x4 :: x5 :: x6 :: x7 :: x8 :: x9 :: x10 :: some (.int y) :: r) st n h c sl) : zAW G M XF QF pc (x0 :: x1 :: x2 :: x3 :: x4 :: x5 :: x6 :: x7 :: x8 :: x9 :: x10 :: x11 :: r) (.int y :: st) n h c sl := zg_istore (i := 11) (fun y hy _ => hn y (Option.some.inj hy)) hi hd k
theorem zs_astore_11 {x0 x1 x2 x3 x4 x5 x6 x7 x8 x9 x10 x11 : Option Value} {r : List (Option Value)} {y : Nat} (hn : zn x10) (hi : 11 < zmL M) (hd : decode M.2.1 pc = .ok (.astore 11, 2)) (k : zAW G M XF QF (pc + 2) (x0 :: x1 :: x2 :: x3 :: x4 :: x5 :: x6 :: x7 :: x8 :: x9 :: x10 :: some (.ref y) :: r) st n h c sl) : zAW G M XF QF pc (x0 :: x1 :: x2 :: x3 :: x4 :: x5 :: x6 :: x7 :: x8 :: x9 :: x10 :: x11 :: r) (.ref y :: st) n h c sl := zg_astore (i := 11) (fun y hy _ => hn y (Option.some.inj hy)) hi hd k
theorem zs_iinc_11 {x0 x1 x2 x3 x4 x5 x6 x7 x8 x9 x10 : Option Value} {r : List (Option Value)} {z d : Int} (hn : zn x10) (hi : 11 < zmL M) (hd : decode M.2.1 pc = .ok (.iinc 11 d, 3)) (k : zAW G M XF QF (pc + 3) (x0 :: x1 :: x2 :: x3 :: x4 :: x5 :: x6 :: x7 :: x8 :: x9 :: x10 :: some (vi (z + d)) :: r) st n h c sl) : zAW G M XF QF pc (x0 :: x1 :: x2 :: x3 :: x4 :: x5 :: x6 :: x7 :: x8 :: x9 :: x10 :: some (vi z) :: r) st n h c sl := zg_iinc (i := 11) rfl (fun y hy _ => hn y (Option.some.inj hy)) hi hd k
theorem zs_lstore_11 {x0 x1 x2 x3 x4 x5 x6 x7 x8 x9 x10 x11 x12 : Option Value} {r : List (Option Value)} {y : Int64} (hn : zn x10) (hi : 11 + 1 < zmL M) (hd : decode M.2.1 pc = .ok (.lstore 11, 2)) (k : zAW G M XF QF (pc + 2) (x0 :: x1 :: x2 :: x3 :: x4 :: x5 :: x6 :: x7 :: x8 :: x9 :: x10 :: some (.long y) :: none :: r) st n h c sl) : zAW G M XF QF pc (x0 :: x1 :: x2 :: x3 :: x4 :: x5 :: x6 :: x7 :: x8 :: x9 :: x10 :: x11 :: x12 :: r) (.long y :: st) n h c sl := zg_lstore (i := 11) (fun y hy _ => hn y (Option.some.inj hy)) hi hd k
theorem zs_istore_12 {x0 x1 x2 x3 x4 x5 x6 x7 x8 x9 x10 x11 x12 : Option Value} {r : List (Option Value)} {y : Int32} (hn : zn x11) (hi : 12 < zmL M) (hd : decode M.2.1 pc = .ok (.istore 12, 2)) (k : zAW G M XF QF (pc + 2) (x0 :: x1 :: x2 :: x3 :: x4 :: x5 :: x6 :: x7 :: x8 :: x9 :: x10 :: x11 :: some (.int y) :: r) st n h c sl) : zAW G M XF QF pc (x0 :: x1 :: x2 :: x3 :: x4 :: x5 :: x6 :: x7 :: x8 :: x9 :: x10 :: x11 :: x12 :: r) (.int y :: st) n h c sl := zg_istore (i := 12) (fun y hy _ => hn y (Option.some.inj hy)) hi hd k
theorem zs_astore_12 {x0 x1 x2 x3 x4 x5 x6 x7 x8 x9 x10 x11 x12 : Option Value} {r : List (Option Value)} {y : Nat} (hn : zn x11) (hi : 12 < zmL M) (hd : decode M.2.1 pc = .ok (.astore 12, 2)) (k : zAW G M XF QF (pc + 2) (x0 :: x1 :: x2 :: x3 :: x4 :: x5 :: x6 :: x7 :: x8 :: x9 :: x10 :: x11 :: some (.ref y) :: r) st n h c sl) : zAW G M XF QF pc (x0 :: x1 :: x2 :: x3 :: x4 :: x5 :: x6 :: x7 :: x8 :: x9 :: x10 :: x11 :: x12 :: r) (.ref y :: st) n h c sl := zg_astore (i := 12) (fun y hy _ => hn y (Option.some.inj hy)) hi hd k
theorem zs_iinc_12 {x0 x1 x2 x3 x4 x5 x6 x7 x8 x9 x10 x11 : Option Value} {r : List (Option Value)} {z d : Int} (hn : zn x11) (hi : 12 < zmL M) (hd : decode M.2.1 pc = .ok (.iinc 12 d, 3)) (k : zAW G M XF QF (pc + 3) (x0 :: x1 :: x2 :: x3 :: x4 :: x5 :: x6 :: x7 :: x8 :: x9 :: x10 :: x11 :: some (vi (z + d)) :: r) st n h c sl) : zAW G M XF QF pc (x0 :: x1 :: x2 :: x3 :: x4 :: x5 :: x6 :: x7 :: x8 :: x9 :: x10 :: x11 :: some (vi z) :: r) st n h c sl := zg_iinc (i := 12) rfl (fun y hy _ => hn y (Option.some.inj hy)) hi hd k
theorem zs_lstore_12 {x0 x1 x2 x3 x4 x5 x6 x7 x8 x9 x10 x11 x12 x13 : Option Value} {r : List (Option Value)} {y : Int64} (hn : zn x11) (hi : 12 + 1 < zmL M) (hd : decode M.2.1 pc = .ok (.lstore 12, 2)) (k : zAW G M XF QF (pc + 2) (x0 :: x1 :: x2 :: x3 :: x4 :: x5 :: x6 :: x7 :: x8 :: x9 :: x10 :: x11 :: some (.long y) :: none :: r) st n h c sl) : zAW G M XF QF pc (x0 :: x1 :: x2 :: x3 :: x4 :: x5 :: x6 :: x7 :: x8 :: x9 :: x10 :: x11 :: x12 :: x13 :: r) (.long y :: st) n h c sl := zg_lstore (i := 12) (fun y hy _ => hn y (Option.some.inj hy)) hi hd k
theorem zs_istore_13 {x0 x1 x2 x3 x4 x5 x6 x7 x8 x9 x10 x11 x12 x13 : Option Value} {r : List (Option Value)} {y : Int32} (hn : zn x12) (hi : 13 < zmL M) (hd : decode M.2.1 pc = .ok (.istore 13, 2)) (k : zAW G M XF QF (pc + 2) (x0 :: x1 :: x2 :: x3 :: x4 :: x5 :: x6 :: x7 :: x8 :: x9 :: x10 :: x11 :: x12 :: some (.int y) :: r) st n h c sl) : zAW G M XF QF pc (x0 :: x1 :: x2 :: x3 :: x4 :: x5 :: x6 :: x7 :: x8 :: x9 :: x10 :: x11 :: x12 :: x13 :: r) (.int y :: st) n h c sl := zg_istore (i := 13) (fun y hy _ => hn y (Option.some.inj hy)) hi hd k
theorem zs_astore_13 {x0 x1 x2 x3 x4 x5 x6 x7 x8 x9 x10 x11 x12 x13 : Option Value} {r : List (Option Value)} {y : Nat} (hn : zn x12) (hi : 13 < zmL M) (hd : decode M.2.1 pc = .ok (.astore 13, 2)) (k : zAW G M XF QF (pc + 2) (x0 :: x1 :: x2 :: x3 :: x4 :: x5 :: x6 :: x7 :: x8 :: x9 :: x10 :: x11 :: x12 :: some (.ref y) :: r) st n h c sl) : zAW G M XF QF pc (x0 :: x1 :: x2 :: x3 :: x4 :: x5 :: x6 :: x7 :: x8 :: x9 :: x10 :: x11 :: x12 :: x13 :: r) (.ref y :: st) n h c sl := zg_astore (i := 13) (fun y hy _ => hn y (Option.some.inj hy)) hi hd k
theorem zs_iinc_13 {x0 x1 x2 x3 x4 x5 x6 x7 x8 x9 x10 x11 x12 : Option Value} {r : List (Option Value)} {z d : Int} (hn : zn x12) (hi : 13 < zmL M) (hd : decode M.2.1 pc = .ok (.iinc 13 d, 3)) (k : zAW G M XF QF (pc + 3) (x0 :: x1 :: x2 :: x3 :: x4 :: x5 :: x6 :: x7 :: x8 :: x9 :: x10 :: x11 :: x12 :: some (vi (z + d)) :: r) st n h c sl) : zAW G M XF QF pc (x0 :: x1 :: x2 :: x3 :: x4 :: x5 :: x6 :: x7 :: x8 :: x9 :: x10 :: x11 :: x12 :: some (vi z) :: r) st n h c sl := zg_iinc (i := 13) rfl (fun y hy _ => hn y (Option.some.inj hy)) hi hd k
theorem zs_lstore_13 {x0 x1 x2 x3 x4 x5 x6 x7 x8 x9 x10 x11 x12 x13 x14 : Option Value} {r : List (Option Value)} {y : Int64} (hn : zn x12) (hi : 13 + 1 < zmL M) (hd : decode M.2.1 pc = .ok (.lstore 13, 2)) (k : zAW G M XF QF (pc + 2) (x0 :: x1 :: x2 :: x3 :: x4 :: x5 :: x6 :: x7 :: x8 :: x9 :: x10 :: x11 :: x12 :: some (.long y) :: none :: r) st n h c sl) : zAW G M XF QF pc (x0 :: x1 :: x2 :: x3 :: x4 :: x5 :: x6 :: x7 :: x8 :: x9 :: x10 :: x11 :: x12 :: x13 :: x14 :: r) (.long y :: st) n h c sl := zg_lstore (i := 13) (fun y hy _ => hn y (Option.some.inj hy)) hi hd k
theorem zs_istore_14 {x0 x1 x2 x3 x4 x5 x6 x7 x8 x9 x10 x11 x12 x13 x14 : Option Value} {r : List (Option Value)} {y : Int32} (hn : zn x13) (hi : 14 < zmL M) (hd : decode M.2.1 pc = .ok (.istore 14, 2)) (k : zAW G M XF QF (pc + 2) (x0 :: x1 :: x2 :: x3 :: x4 :: x5 :: x6 :: x7 :: x8 :: x9 :: x10 :: x11 :: x12 :: x13 :: some (.int y) :: r) st n h c sl) : zAW G M XF QF pc (x0 :: x1 :: x2 :: x3 :: x4 :: x5 :: x6 :: x7 :: x8 :: x9 :: x10 :: x11 :: x12 :: x13 :: x14 :: r) (.int y :: st) n h c sl := zg_istore (i := 14) (fun y hy _ => hn y (Option.some.inj hy)) hi hd k
theorem zs_astore_14 {x0 x1 x2 x3 x4 x5 x6 x7 x8 x9 x10 x11 x12 x13 x14 : Option Value} {r : List (Option Value)} {y : Nat} (hn : zn x13) (hi : 14 < zmL M) (hd : decode M.2.1 pc = .ok (.astore 14, 2)) (k : zAW G M XF QF (pc + 2) (x0 :: x1 :: x2 :: x3 :: x4 :: x5 :: x6 :: x7 :: x8 :: x9 :: x10 :: x11 :: x12 :: x13 :: some (.ref y) :: r) st n h c sl) : zAW G M XF QF pc (x0 :: x1 :: x2 :: x3 :: x4 :: x5 :: x6 :: x7 :: x8 :: x9 :: x10 :: x11 :: x12 :: x13 :: x14 :: r) (.ref y :: st) n h c sl := zg_astore (i := 14) (fun y hy _ => hn y (Option.some.inj hy)) hi hd k
theorem zs_iinc_14 {x0 x1 x2 x3 x4 x5 x6 x7 x8 x9 x10 x11 x12 x13 : Option Value} {r : List (Option Value)} {z d : Int} (hn : zn x13) (hi : 14 < zmL M) (hd : decode M.2.1 pc = .ok (.iinc 14 d, 3)) (k : zAW G M XF QF (pc + 3) (x0 :: x1 :: x2 :: x3 :: x4 :: x5 :: x6 :: x7 :: x8 :: x9 :: x10 :: x11 :: x12 :: x13 :: some (vi (z + d)) :: r) st n h c sl) : zAW G M XF QF pc (x0 :: x1 :: x2 :: x3 :: x4 :: x5 :: x6 :: x7 :: x8 :: x9 :: x10 :: x11 :: x12 :: x13 :: some (vi z) :: r) st n h c sl := zg_iinc (i := 14) rfl (fun y hy _ => hn y (Option.some.inj hy)) hi hd k
theorem zs_lstore_14 {x0 x1 x2 x3 x4 x5 x6 x7 x8 x9 x10 x11 x12 x13 x14 x15 : Option Value} {r : List (Option Value)} {y : Int64} (hn : zn x13) (hi : 14 + 1 < zmL M) (hd : decode M.2.1 pc = .ok (.lstore 14, 2)) (k : zAW G M XF QF (pc + 2) (x0 :: x1 :: x2 :: x3 :: x4 :: x5 :: x6 :: x7 :: x8 :: x9 :: x10 :: x11 :: x12 :: x13 :: some (.long y) :: none :: r) st n h c sl) : zAW G M XF QF pc (x0 :: x1 :: x2 :: x3 :: x4 :: x5 :: x6 :: x7 :: x8 :: x9 :: x10 :: x11 :: x12 :: x13 :: x14 :: x15 :: r) (.long y :: st) n h c sl := zg_lstore (i := 14) (fun y hy _ => hn y (Option.some.inj hy)) hi hd k
theorem zs_istore_15 {x0 x1 x2 x3 x4 x5 x6 x7 x8 x9 x10 x11 x12 x13 x14 x15 : Option Value} {r : List (Option Value)} {y : Int32} (hn : zn x14) (hi : 15 < zmL M) (hd : decode M.2.1 pc = .ok (.istore 15, 2)) (k : zAW G M XF QF (pc + 2) (x0 :: x1 :: x2 :: x3 :: x4 :: x5 :: x6 :: x7 :: x8 :: x9 :: x10 :: x11 :: x12 :: x13 :: x14 :: some (.int y) :: r) st n h c sl) : zAW G M XF QF pc (x0 :: x1 :: x2 :: x3 :: x4 :: x5 :: x6 :: x7 :: x8 :: x9 :: x10 :: x11 :: x12 :: x13 :: x14 :: x15 :: r) (.int y :: st) n h c sl := zg_istore (i := 15) (fun y hy _ => hn y (Option.some.inj hy)) hi hd k
theorem zs_astore_15 {x0 x1 x2 x3 x4 x5 x6 x7 x8 x9 x10 x11 x12 x13 x14 x15 : Option Value} {r : List (Option Value)} {y : Nat} (hn : zn x14) (hi : 15 < zmL M) (hd : decode M.2.1 pc = .ok (.astore 15, 2)) (k : zAW G M XF QF (pc + 2) (x0 :: x1 :: x2 :: x3 :: x4 :: x5 :: x6 :: x7 :: x8 :: x9 :: x10 :: x11 :: x12 :: x13 :: x14 :: some (.ref y) :: r) st n h c sl) : zAW G M XF QF pc (x0 :: x1 :: x2 :: x3 :: x4 :: x5 :: x6 :: x7 :: x8 :: x9 :: x10 :: x11 :: x12 :: x13 :: x14 :: x15 :: r) (.ref y :: st) n h c sl := zg_astore (i := 15) (fun y hy _ => hn y (Option.some.inj hy)) hi hd k
theorem zs_iinc_15 {x0 x1 x2 x3 x4 x5 x6 x7 x8 x9 x10 x11 x12 x13 x14 : Option Value} {r : List (Option Value)} {z d : Int} (hn : zn x14) (hi : 15 < zmL M) (hd : decode M.2.1 pc = .ok (.iinc 15 d, 3)) (k : zAW G M XF QF (pc + 3) (x0 :: x1 :: x2 :: x3 :: x4 :: x5 :: x6 :: x7 :: x8 :: x9 :: x10 :: x11 :: x12 :: x13 :: x14 :: some (vi (z + d)) :: r) st n h c sl) : zAW G M XF QF pc (x0 :: x1 :: x2 :: x3 :: x4 :: x5 :: x6 :: x7 :: x8 :: x9 :: x10 :: x11 :: x12 :: x13 :: x14 :: some (vi z) :: r) st n h c sl := zg_iinc (i := 15) rfl (fun y hy _ => hn y (Option.some.inj hy)) hi hd k
theorem zs_lstore_15 {x0 x1 x2 x3 x4 x5 x6 x7 x8 x9 x10 x11 x12 x13 x14 x15 x16 : Option Value} {r : List (Option Value)} {y : Int64} (hn : zn x14) (hi : 15 + 1 < zmL M) (hd : decode M.2.1 pc = .ok (.lstore 15, 2)) (k : zAW G M XF QF (pc + 2) (x0 :: x1 :: x2 :: x3 :: x4 :: x5 :: x6 :: x7 :: x8 :: x9 :: x10 :: x11 :: x12 :: x13 :: x14 :: some (.long y) :: none :: r) st n h c sl) : zAW G M XF QF pc (x0 :: x1 :: x2 :: x3 :: x4 :: x5 :: x6 :: x7 :: x8 :: x9 :: x10 :: x11 :: x12 :: x13 :: x14 :: x15 :: x16 :: r) (.long y :: st) n h c sl := zg_lstore (i := 15) (fun y hy _ => hn y (Option.some.inj hy)) hi hd k
theorem zs_istore_16 {x0 x1 x2 x3 x4 x5 x6 x7 x8 x9 x10 x11 x12 x13 x14 x15 x16 : Option Value} {r : List (Option Value)} {y : Int32} (hn : zn x15) (hi : 16 < zmL M) (hd : decode M.2.1 pc = .ok (.istore 16, 2)) (k : zAW G M XF QF (pc + 2) (x0 :: x1 :: x2 :: x3 :: x4 :: x5 :: x6 :: x7 :: x8 :: x9 :: x10 :: x11 :: x12 :: x13 :: x14 :: x15 :: some (.int y) :: r) st n h c sl) : zAW G M XF QF pc (x0 :: x1 :: x2 :: x3 :: x4 :: x5 :: x6 :: x7 :: x8 :: x9 :: x10 :: x11 :: x12 :: x13 :: x14 :: x15 :: x16 :: r) (.int y :: st) n h c sl := zg_istore (i := 16) (fun y hy _ => hn y (Option.some.inj hy)) hi hd k
theorem zs_astore_16 {x0 x1 x2 x3 x4 x5 x6 x7 x8 x9 x10 x11 x12 x13 x14 x15 x16 : Option Value} {r : List (Option Value)} {y : Nat} (hn : zn x15) (hi : 16 < zmL M) (hd : decode M.2.1 pc = .ok (.astore 16, 2)) (k : zAW G M XF QF (pc + 2) (x0 :: x1 :: x2 :: x3 :: x4 :: x5 :: x6 :: x7 :: x8 :: x9 :: x10 :: x11 :: x12 :: x13 :: x14 :: x15 :: some (.ref y) :: r) st n h c sl) : zAW G M XF QF pc (x0 :: x1 :: x2 :: x3 :: x4 :: x5 :: x6 :: x7 :: x8 :: x9 :: x10 :: x11 :: x12 :: x13 :: x14 :: x15 :: x16 :: r) (.ref y :: st) n h c sl := zg_astore (i := 16) (fun y hy _ => hn y (Option.some.inj hy)) hi hd k
theorem zs_iinc_16 {x0 x1 x2 x3 x4 x5 x6 x7 x8 x9 x10 x11 x12 x13 x14 x15 : Option Value} {r : List (Option Value)} {z d : Int} (hn : zn x15) (hi : 16 < zmL M) (hd : decode M.2.1 pc = .ok (.iinc 16 d, 3)) (k : zAW G M XF QF (pc + 3) (x0 :: x1 :: x2 :: x3 :: x4 :: x5 :: x6 :: x7 :: x8 :: x9 :: x10 :: x11 :: x12 :: x13 :: x14 :: x15 :: some (vi (z + d)) :: r) st n h c sl) : zAW G M XF QF pc (x0 :: x1 :: x2 :: x3 :: x4 :: x5 :: x6 :: x7 :: x8 :: x9 :: x10 :: x11 :: x12 :: x13 :: x14 :: x15 :: some (vi z) :: r) st n h c sl := zg_iinc (i := 16) rfl (fun y hy _ => hn y (Option.some.inj hy)) hi hd k
theorem zs_lstore_16 {x0 x1 x2 x3 x4 x5 x6 x7 x8 x9 x10 x11 x12 x13 x14 x15 x16 x17 : Option Value} {r : List (Option Value)} {y : Int64} (hn : zn x15) (hi : 16 + 1 < zmL M) (hd : decode M.2.1 pc = .ok (.lstore 16, 2)) (k : zAW G M XF QF (pc + 2) (x0 :: x1 :: x2 :: x3 :: x4 :: x5 :: x6 :: x7 :: x8 :: x9 :: x10 :: x11 :: x12 :: x13 :: x14 :: x15 :: some (.long y) :: none :: r) st n h c sl) : zAW G M XF QF pc (x0 :: x1 :: x2 :: x3 :: x4 :: x5 :: x6 :: x7 :: x8 :: x9 :: x10 :: x11 :: x12 :: x13 :: x14 :: x15 :: x16 :: x17 :: r) (.long y :: st) n h c sl := zg_lstore (i := 16) (fun y hy _ => hn y (Option.some.inj hy)) hi hd k
theorem zs_istore_17 {x0 x1 x2 x3 x4 x5 x6 x7 x8 x9 x10 x11 x12 x13 x14 x15 x16 x17 : Option Value} {r : List (Option Value)} {y : Int32} (hn : zn x16) (hi : 17 < zmL M) (hd : decode M.2.1 pc = .ok (.istore 17, 2)) (k : zAW G M XF QF (pc + 2) (x0 :: x1 :: x2 :: x3 :: x4 :: x5 :: x6 :: x7 :: x8 :: x9 :: x10 :: x11 :: x12 :: x13 :: x14 :: x15 :: x16 :: some (.int y) :: r) st n h c sl) : zAW G M XF QF pc (x0 :: x1 :: x2 :: x3 :: x4 :: x5 :: x6 :: x7 :: x8 :: x9 :: x10 :: x11 :: x12 :: x13 :: x14 :: x15 :: x16 :: x17 :: r) (.int y :: st) n h c sl := zg_istore (i := 17) (fun y hy _ => hn y (Option.some.inj hy)) hi hd k
theorem zs_astore_17 {x0 x1 x2 x3 x4 x5 x6 x7 x8 x9 x10 x11 x12 x13 x14 x15 x16 x17 : Option Value} {r : List (Option Value)} {y : Nat} (hn : zn x16) (hi : 17 < zmL M) (hd : decode M.2.1 pc = .ok (.astore 17, 2)) (k : zAW G M XF QF (pc + 2) (x0 :: x1 :: x2 :: x3 :: x4 :: x5 :: x6 :: x7 :: x8 :: x9 :: x10 :: x11 :: x12 :: x13 :: x14 :: x15 :: x16 :: some (.ref y) :: r) st n h c sl) : zAW G M XF QF pc (x0 :: x1 :: x2 :: x3 :: x4 :: x5 :: x6 :: x7 :: x8 :: x9 :: x10 :: x11 :: x12 :: x13 :: x14 :: x15 :: x16 :: x17 :: r) (.ref y :: st) n h c sl := zg_astore (i := 17) (fun y hy _ => hn y (Option.some.inj hy)) hi hd k
theorem zs_iinc_17 {x0 x1 x2 x3 x4 x5 x6 x7 x8 x9 x10 x11 x12 x13 x14 x15 x16 : Option Value} {r : List (Option Value)} {z d : Int} (hn : zn x16) (hi : 17 < zmL M) (hd : decode M.2.1 pc = .ok (.iinc 17 d, 3)) (k : zAW G M XF QF (pc + 3) (x0 :: x1 :: x2 :: x3 :: x4 :: x5 :: x6 :: x7 :: x8 :: x9 :: x10 :: x11 :: x12 :: x13 :: x14 :: x15 :: x16 :: some (vi (z + d)) :: r) st n h c sl) : zAW G M XF QF pc (x0 :: x1 :: x2 :: x3 :: x4 :: x5 :: x6 :: x7 :: x8 :: x9 :: x10 :: x11 :: x12 :: x13 :: x14 :: x15 :: x16 :: some (vi z) :: r) st n h c sl := zg_iinc (i := 17) rfl (fun y hy _ => hn y (Option.some.inj hy)) hi hd k
theorem zs_lstore_17 {x0 x1 x2 x3 x4 x5 x6 x7 x8 x9 x10 x11 x12 x13 x14 x15 x16 x17 x18 : Option Value} {r : List (Option Value)} {y : Int64} (hn : zn x16) (hi : 17 + 1 < zmL M) (hd : decode M.2.1 pc = .ok (.lstore 17, 2)) (k : zAW G M XF QF (pc + 2) (x0 :: x1 :: x2 :: x3 :: x4 :: x5 :: x6 :: x7 :: x8 :: x9 :: x10 :: x11 :: x12 :: x13 :: x14 :: x15 :: x16 :: some (.long y) :: none :: r) st n h c sl) : zAW G M XF QF pc (x0 :: x1 :: x2 :: x3 :: x4 :: x5 :: x6 :: x7 :: x8 :: x9 :: x10 :: x11 :: x12 :: x13 :: x14 :: x15 :: x16 :: x17 :: x18 :: r) (.long y :: st) n h c sl := zg_lstore (i := 17) (fun y hy _ => hn y (Option.some.inj hy)) hi hd k
theorem zs_istore_18 {x0 x1 x2 x3 x4 x5 x6 x7 x8 x9 x10 x11 x12 x13 x14 x15 x16 x17 x18 : Option Value} {r : List (Option Value)} {y : Int32} (hn : zn x17) (hi : 18 < zmL M) (hd : decode M.2.1 pc = .ok (.istore 18, 2)) (k : zAW G M XF QF (pc + 2) (x0 :: x1 :: x2 :: x3 :: x4 :: x5 :: x6 :: x7 :: x8 :: x9 :: x10 :: x11 :: x12 :: x13 :: x14 :: x15 :: x16 :: x17 :: some (.int y) :: r) st n h c sl) : zAW G M XF QF pc (x0 :: x1 :: x2 :: x3 :: x4 :: x5 :: x6 :: x7 :: x8 :: x9 :: x10 :: x11 :: x12 :: x13 :: x14 :: x15 :: x16 :: x17 :: x18 :: r) (.int y :: st) n h c sl := zg_istore (i := 18) (fun y hy _ => hn y (Option.some.inj hy)) hi hd k
theorem zs_astore_18 {x0 x1 x2 x3 x4 x5 x6 x7 x8 x9 x10 x11 x12 x13 x14 x15 x16 x17 x18 : Option Value} {r : List (Option Value)} {y : Nat} (hn : zn x17) (hi : 18 < zmL M) (hd : decode M.2.1 pc = .ok (.astore 18, 2)) (k : zAW G M XF QF (pc + 2) (x0 :: x1 :: x2 :: x3 :: x4 :: x5 :: x6 :: x7 :: x8 :: x9 :: x10 :: x11 :: x12 :: x13 :: x14 :: x15 :: x16 :: x17 :: some (.ref y) :: r) st n h c sl) : zAW G M XF QF pc (x0 :: x1 :: x2 :: x3 :: x4 :: x5 :: x6 :: x7 :: x8 :: x9 :: x10 :: x11 :: x12 :: x13 :: x14 :: x15 :: x16 :: x17 :: x18 :: r) (.ref y :: st) n h c sl := zg_astore (i := 18) (fun y hy _ => hn y (Option.some.inj hy)) hi hd k
theorem zs_iinc_18 {x0 x1 x2 x3 x4 x5 x6 x7 x8 x9 x10 x11 x12 x13 x14 x15 x16 x17 : Option Value} {r : List (Option Value)} {z d : Int} (hn : zn x17) (hi : 18 < zmL M) (hd : decode M.2.1 pc = .ok (.iinc 18 d, 3)) (k : zAW G M XF QF (pc + 3) (x0 :: x1 :: x2 :: x3 :: x4 :: x5 :: x6 :: x7 :: x8 :: x9 :: x10 :: x11 :: x12 :: x13 :: x14 :: x15 :: x16 :: x17 :: some (vi (z + d)) :: r) st n h c sl) : zAW G M XF QF pc (x0 :: x1 :: x2 :: x3 :: x4 :: x5 :: x6 :: x7 :: x8 :: x9 :: x10 :: x11 :: x12 :: x13 :: x14 :: x15 :: x16 :: x17 :: some (vi z) :: r) st n h c sl := zg_iinc (i := 18) rfl (fun y hy _ => hn y (Option.some.inj hy)) hi hd k
theorem zs_lstore_18 {x0 x1 x2 x3 x4 x5 x6 x7 x8 x9 x10 x11 x12 x13 x14 x15 x16 x17 x18 x19 : Option Value} {r : List (Option Value)} {y : Int64} (hn : zn x17) (hi : 18 + 1 < zmL M) (hd : decode M.2.1 pc = .ok (.lstore 18, 2)) (k : zAW G M XF QF (pc + 2) (x0 :: x1 :: x2 :: x3 :: x4 :: x5 :: x6 :: x7 :: x8 :: x9 :: x10 :: x11 :: x12 :: x13 :: x14 :: x15 :: x16 :: x17 :: some (.long y) :: none :: r) st n h c sl) : zAW G M XF QF pc (x0 :: x1 :: x2 :: x3 :: x4 :: x5 :: x6 :: x7 :: x8 :: x9 :: x10 :: x11 :: x12 :: x13 :: x14 :: x15 :: x16 :: x17 :: x18 :: x19 :: r) (.long y :: st) n h c sl := zg_lstore (i := 18) (fun y hy _ => hn y (Option.some.inj hy)) hi hd k
theorem zs_istore_19 {x0 x1 x2 x3 x4 x5 x6 x7 x8 x9 x10 x11 x12 x13 x14 x15 x16 x17 x18 x19 : Option Value} {r : List (Option Value)} {y : Int32} (hn : zn x18) (hi : 19 < zmL M) (hd : decode M.2.1 pc = .ok (.istore 19, 2)) (k : zAW G M XF QF (pc + 2) (x0 :: x1 :: x2 :: x3 :: x4 :: x5 :: x6 :: x7 :: x8 :: x9 :: x10 :: x11 :: x12 :: x13 :: x14 :: x15 :: x16 :: x17 :: x18 :: some (.int y) :: r) st n h c sl) : zAW G M XF QF pc (x0 :: x1 :: x2 :: x3 :: x4 :: x5 :: x6 :: x7 :: x8 :: x9 :: x10 :: x11 :: x12 :: x13 :: x14 :: x15 :: x16 :: x17 :: x18 :: x19 :: r) (.int y :: st) n h c sl := zg_istore (i := 19) (fun y hy _ => hn y (Option.some.inj hy)) hi hd k
theorem zs_astore_19 {x0 x1 x2 x3 x4 x5 x6 x7 x8 x9 x10 x11 x12 x13 x14 x15 x16 x17 x18 x19 : Option Value} {r : List (Option Value)} {y : Nat} (hn : zn x18) (hi : 19 < zmL M) (hd : decode M.2.1 pc = .ok (.astore 19, 2)) (k : zAW G M XF QF (pc + 2) (x0 :: x1 :: x2 :: x3 :: x4 :: x5 :: x6 :: x7 :: x8 :: x9 :: x10 :: x11 :: x12 :: x13 :: x14 :: x15 :: x16 :: x17 :: x18 :: some (.ref y) :: r) st n h c sl) : zAW G M XF QF pc (x0 :: x1 :: x2 :: x3 :: x4 :: x5 :: x6 :: x7 :: x8 :: x9 :: x10 :: x11 :: x12 :: x13 :: x14 :: x15 :: x16 :: x17 :: x18 :: x19 :: r) (.ref y :: st) n h c sl := zg_astore (i := 19) (fun y hy _ => hn y (Option.some.inj hy)) hi hd k
theorem zs_iinc_19 {x0 x1 x2 x3 x4 x5 x6 x7 x8 x9 x10 x11 x12 x13 x14 x15 x16 x17 x18 : Option Value} {r : List (Option Value)} {z d : Int} (hn : zn x18) (hi : 19 < zmL M) (hd : decode M.2.1 pc = .ok (.iinc 19 d, 3)) (k : zAW G M XF QF (pc + 3) (x0 :: x1 :: x2 :: x3 :: x4 :: x5 :: x6 :: x7 :: x8 :: x9 :: x10 :: x11 :: x12 :: x13 :: x14 :: x15 :: x16 :: x17 :: x18 :: some (vi (z + d)) :: r) st n h c sl) : zAW G M XF QF pc (x0 :: x1 :: x2 :: x3 :: x4 :: x5 :: x6 :: x7 :: x8 :: x9 :: x10 :: x11 :: x12 :: x13 :: x14 :: x15 :: x16 :: x17 :: x18 :: some (vi z) :: r) st n h c sl := zg_iinc (i := 19) rfl (fun y hy _ => hn y (Option.some.inj hy)) hi hd k
theorem zs_lstore_19 {x0 x1 x2 x3 x4 x5 x6 x7 x8 x9 x10 x11 x12 x13 x14 x15 x16 x17 x18 x19 x20 : Option Value} {r : List (Option Value)} {y : Int64} (hn : zn x18) (hi : 19 + 1 < zmL M) (hd : decode M.2.1 pc = .ok (.lstore 19, 2)) (k : zAW G M XF QF (pc + 2) (x0 :: x1 :: x2 :: x3 :: x4 :: x5 :: x6 :: x7 :: x8 :: x9 :: x10 :: x11 :: x12 :: x13 :: x14 :: x15 :: x16 :: x17 :: x18 :: some (.long y) :: none :: r) st n h c sl) : zAW G M XF QF pc (x0 :: x1 :: x2 :: x3 :: x4 :: x5 :: x6 :: x7 :: x8 :: x9 :: x10 :: x11 :: x12 :: x13 :: x14 :: x15 :: x16 :: x17 :: x18 :: x19 :: x20 :: r) (.long y :: st) n h c sl := zg_lstore (i := 19) (fun y hy _ => hn y (Option.some.inj hy)) hi hd k
theorem zs_istore_20 {x0 x1 x2 x3 x4 x5 x6 x7 x8 x9 x10 x11 x12 x13 x14 x15 x16 x17 x18 x19 x20 : Option Value} {r : List (Option Value)} {y : Int32} (hn : zn x19) (hi : 20 < zmL M) (hd : decode M.2.1 pc = .ok (.istore 20, 2)) (k : zAW G M XF QF (pc + 2) (x0 :: x1 :: x2 :: x3 :: x4 :: x5 :: x6 :: x7 :: x8 :: x9 :: x10 :: x11 :: x12 :: x13 :: x14 :: x15 :: x16 :: x17 :: x18 :: x19 :: some (.int y) :: r) st n h c sl) : zAW G M XF QF pc (x0 :: x1 :: x2 :: x3 :: x4 :: x5 :: x6 :: x7 :: x8 :: x9 :: x10 :: x11 :: x12 :: x13 :: x14 :: x15 :: x16 :: x17 :: x18 :: x19 :: x20 :: r) (.int y :: st) n h c sl := zg_istore (i := 20) (fun y hy _ => hn y (Option.some.inj hy)) hi hd k
theorem zs_astore_20 {x0 x1 x2 x3 x4 x5 x6 x7 x8 x9 x10 x11 x12 x13 x14 x15 x16 x17 x18 x19 x20 : Option Value} {r : List (Option Value)} {y : Nat} (hn : zn x19) (hi : 20 < zmL M) (hd : decode M.2.1 pc = .ok (.astore 20, 2)) (k : zAW G M XF QF (pc + 2) (x0 :: x1 :: x2 :: x3 :: x4 :: x5 :: x6 :: x7 :: x8 :: x9 :: x10 :: x11 :: x12 :: x13 :: x14 :: x15 :: x16 :: x17 :: x18 :: x19 :: some (.ref y) :: r) st n h c sl) : zAW G M XF QF pc (x0 :: x1 :: x2 :: x3 :: x4 :: x5 :: x6 :: x7 :: x8 :: x9 :: x10 :: x11 :: x12 :: x13 :: x14 :: x15 :: x16 :: x17 :: x18 :: x19 :: x20 :: r) (.ref y :: st) n h c sl := zg_astore (i := 20) (fun y hy _ => hn y (Option.some.inj hy)) hi hd k
theorem zs_iinc_20 {x0 x1 x2 x3 x4 x5 x6 x7 x8 x9 x10 x11 x12 x13 x14 x15 x16 x17 x18 x19 : Option Value} {r : List (Option Value)} {z d : Int} (hn : zn x19) (hi : 20 < zmL M) (hd : decode M.2.1 pc = .ok (.iinc 20 d, 3)) (k : zAW G M XF QF (pc + 3) (x0 :: x1 :: x2 :: x3 :: x4 :: x5 :: x6 :: x7 :: x8 :: x9 :: x10 :: x11 :: x12 :: x13 :: x14 :: x15 :: x16 :: x17 :: x18 :: x19 :: some (vi (z + d)) :: r) st n h c sl) : zAW G M XF QF pc (x0 :: x1 :: x2 :: x3 :: x4 :: x5 :: x6 :: x7 :: x8 :: x9 :: x10 :: x11 :: x12 :: x13 :: x14 :: x15 :: x16 :: x17 :: x18 :: x19 :: some (vi z) :: r) st n h c sl := zg_iinc (i := 20) rfl (fun y hy _ => hn y (Option.some.inj hy)) hi hd k
theorem zs_lstore_20 {x0 x1 x2 x3 x4 x5 x6 x7 x8 x9 x10 x11 x12 x13 x14 x15 x16 x17 x18 x19 x20 x21 : Option Value} {r : List (Option Value)} {y : Int64} (hn : zn x19) (hi : 20 + 1 < zmL M) (hd : decode M.2.1 pc = .ok (.lstore 20, 2)) (k : zAW G M XF QF (pc + 2) (x0 :: x1 :: x2 :: x3 :: x4 :: x5 :: x6 :: x7 :: x8 :: x9 :: x10 :: x11 :: x12 :: x13 :: x14 :: x15 :: x16 :: x17 :: x18 :: x19 :: some (.long y) :: none :: r) st n h c sl) : zAW G M XF QF pc (x0 :: x1 :: x2 :: x3 :: x4 :: x5 :: x6 :: x7 :: x8 :: x9 :: x10 :: x11 :: x12 :: x13 :: x14 :: x15 :: x16 :: x17 :: x18 :: x19 :: x20 :: x21 :: r) (.long y :: st) n h c sl := zg_lstore (i := 20) (fun y hy _ => hn y (Option.some.inj hy)) hi hd k
theorem zs_istore_21 {x0 x1 x2 x3 x4 x5 x6 x7 x8 x9 x10 x11 x12 x13 x14 x15 x16 x17 x18 x19 x20 x21 : Option Value} {r : List (Option Value)} {y : Int32} (hn : zn x20) (hi : 21 < zmL M) (hd : decode M.2.1 pc = .ok (.istore 21, 2)) (k : zAW G M XF QF (pc + 2) (x0 :: x1 :: x2 :: x3 :: x4 :: x5 :: x6 :: x7 :: x8 :: x9 :: x10 :: x11 :: x12 :: x13 :: x14 :: x15 :: x16 :: x17 :: x18 :: x19 :: x20 :: some (.int y) :: r) st n h c sl) : zAW G M XF QF pc (x0 :: x1 :: x2 :: x3 :: x4 :: x5 :: x6 :: x7 :: x8 :: x9 :: x10 :: x11 :: x12 :: x13 :: x14 :: x15 :: x16 :: x17 :: x18 :: x19 :: x20 :: x21 :: r) (.int y :: st) n h c sl := zg_istore (i := 21) (fun y hy _ => hn y (Option.some.inj hy)) hi hd k
theorem zs_astore_21 {x0 x1 x2 x3 x4 x5 x6 x7 x8 x9 x10 x11 x12 x13 x14 x15 x16 x17 x18 x19 x20 x21 : Option Value} {r : List (Option Value)} {y : Nat} (hn : zn x20) (hi : 21 < zmL M) (hd : decode M.2.1 pc = .ok (.astore 21, 2)) (k : zAW G M XF QF (pc + 2) (x0 :: x1 :: x2 :: x3 :: x4 :: x5 :: x6 :: x7 :: x8 :: x9 :: x10 :: x11 :: x12 :: x13 :: x14 :: x15 :: x16 :: x17 :: x18 :: x19 :: x20 :: some (.ref y) :: r) st n h c sl) : zAW G M XF QF pc (x0 :: x1 :: x2 :: x3 :: x4 :: x5 :: x6 :: x7 :: x8 :: x9 :: x10 :: x11 :: x12 :: x13 :: x14 :: x15 :: x16 :: x17 :: x18 :: x19 :: x20 :: x21 :: r) (.ref y :: st) n h c sl := zg_astore (i := 21) (fun y hy _ => hn y (Option.some.inj hy)) hi hd k
theorem zs_iinc_21 {x0 x1 x2 x3 x4 x5 x6 x7 x8 x9 x10 x11 x12 x13 x14 x15 x16 x17 x18 x19 x20 : Option Value} {r : List (Option Value)} {z d : Int} (hn : zn x20) (hi : 21 < zmL M) (hd : decode M.2.1 pc = .ok (.iinc 21 d, 3)) (k : zAW G M XF QF (pc + 3) (x0 :: x1 :: x2 :: x3 :: x4 :: x5 :: x6 :: x7 :: x8 :: x9 :: x10 :: x11 :: x12 :: x13 :: x14 :: x15 :: x16 :: x17 :: x18 :: x19 :: x20 :: some (vi (z + d)) :: r) st n h c sl) : zAW G M XF QF pc (x0 :: x1 :: x2 :: x3 :: x4 :: x5 :: x6 :: x7 :: x8 :: x9 :: x10 :: x11 :: x12 :: x13 :: x14 :: x15 :: x16 :: x17 :: x18 :: x19 :: x20 :: some (vi z) :: r) st n h c sl := zg_iinc (i := 21) rfl (fun y hy _ => hn y (Option.some.inj hy)) hi hd k
theorem zs_lstore_21 {x0 x1 x2 x3 x4 x5 x6 x7 x8 x9 x10 x11 x12 x13 x14 x15 x16 x17 x18 x19 x20 x21 x22 : Option Value} {r : List (Option Value)} {y : Int64} (hn : zn x20) (hi : 21 + 1 < zmL M) (hd : decode M.2.1 pc = .ok (.lstore 21, 2)) (k : zAW G M XF QF (pc + 2) (x0 :: x1 :: x2 :: x3 :: x4 :: x5 :: x6 :: x7 :: x8 :: x9 :: x10 :: x11 :: x12 :: x13 :: x14 :: x15 :: x16 :: x17 :: x18 :: x19 :: x20 :: some (.long y) :: none :: r) st n h c sl) : zAW G M XF QF pc (x0 :: x1 :: x2 :: x3 :: x4 :: x5 :: x6 :: x7 :: x8 :: x9 :: x10 :: x11 :: x12 :: x13 :: x14 :: x15 :: x16 :: x17 :: x18 :: x19 :: x20 :: x21 :: x22 :: r) (.long y :: st) n h c sl := zg_lstore (i := 21) (fun y hy _ => hn y (Option.some.inj hy)) hi hd k
theorem zs_istore_22 {x0 x1 x2 x3 x4 x5 x6 x7 x8 x9 x10 x11 x12 x13 x14 x15 x16 x17 x18 x19 x20 x21 x22 : Option Value} {r : List (Option Value)} {y : Int32} (hn : zn x21) (hi : 22 < zmL M) (hd : decode M.2.1 pc = .ok (.istore 22, 2)) (k : zAW G M XF QF (pc + 2) (x0 :: x1 :: x2 :: x3 :: x4 :: x5 :: x6 :: x7 :: x8 :: x9 :: x10 :: x11 :: x12 :: x13 :: x14 :: x15 :: x16 :: x17 :: x18 :: x19 :: x20 :: x21 :: some (.int y) :: r) st n h c sl) : zAW G M XF QF pc (x0 :: x1 :: x2 :: x3 :: x4 :: x5 :: x6 :: x7 :: x8 :: x9 :: x10 :: x11 :: x12 :: x13 :: x14 :: x15 :: x16 :: x17 :: x18 :: x19 :: x20 :: x21 :: x22 :: r) (.int y :: st) n h c sl := zg_istore (i := 22) (fun y hy _ => hn y (Option.some.inj hy)) hi hd k
theorem zs_astore_22 {x0 x1 x2 x3 x4 x5 x6 x7 x8 x9 x10 x11 x12 x13 x14 x15 x16 x17 x18 x19 x20 x21 x22 : Option Value} {r : List (Option Value)} {y : Nat} (hn : zn x21) (hi : 22 < zmL M) (hd : decode M.2.1 pc = .ok (.astore 22, 2)) (k : zAW G M XF QF (pc + 2) (x0 :: x1 :: x2 :: x3 :: x4 :: x5 :: x6 :: x7 :: x8 :: x9 :: x10 :: x11 :: x12 :: x13 :: x14 :: x15 :: x16 :: x17 :: x18 :: x19 :: x20 :: x21 :: some (.ref y) :: r) st n h c sl) : zAW G M XF QF pc (x0 :: x1 :: x2 :: x3 :: x4 :: x5 :: x6 :: x7 :: x8 :: x9 :: x10 :: x11 :: x12 :: x13 :: x14 :: x15 :: x16 :: x17 :: x18 :: x19 :: x20 :: x21 :: x22 :: r) (.ref y :: st) n h c sl := zg_astore (i := 22) (fun y hy _ => hn y (Option.some.inj hy)) hi hd k
theorem zs_iinc_22 {x0 x1 x2 x3 x4 x5 x6 x7 x8 x9 x10 x11 x12 x13 x14 x15 x16 x17 x18 x19 x20 x21 : Option Value} {r : List (Option Value)} {z d : Int} (hn : zn x21) (hi : 22 < zmL M) (hd : decode M.2.1 pc = .ok (.iinc 22 d, 3)) (k : zAW G M XF QF (pc + 3) (x0 :: x1 :: x2 :: x3 :: x4 :: x5 :: x6 :: x7 :: x8 :: x9 :: x10 :: x11 :: x12 :: x13 :: x14 :: x15 :: x16 :: x17 :: x18 :: x19 :: x20 :: x21 :: some (vi (z + d)) :: r) st n h c sl) : zAW G M XF QF pc (x0 :: x1 :: x2 :: x3 :: x4 :: x5 :: x6 :: x7 :: x8 :: x9 :: x10 :: x11 :: x12 :: x13 :: x14 :: x15 :: x16 :: x17 :: x18 :: x19 :: x20 :: x21 :: some (vi z) :: r) st n h c sl := zg_iinc (i := 22) rfl (fun y hy _ => hn y (Option.some.inj hy)) hi hd k
theorem zs_lstore_22 {x0 x1 x2 x3 x4 x5 x6 x7 x8 x9 x10 x11 x12 x13 x14 x15 x16 x17 x18 x19 x20 x21 x22 x23 : Option Value} {r : List (Option Value)} {y : Int64} (hn : zn x21) (hi : 22 + 1 < zmL M) (hd : decode M.2.1 pc = .ok (.lstore 22, 2)) (k : zAW G M XF QF (pc + 2) (x0 :: x1 :: x2 :: x3 :: x4 :: x5 :: x6 :: x7 :: x8 :: x9 :: x10 :: x11 :: x12 :: x13 :: x14 :: x15 :: x16 :: x17 :: x18 :: x19 :: x20 :: x21 :: some (.long y) :: none :: r) st n h c sl) : zAW G M XF QF pc (x0 :: x1 :: x2 :: x3 :: x4 :: x5 :: x6 :: x7 :: x8 :: x9 :: x10 :: x11 :: x12 :: x13 :: x14 :: x15 :: x16 :: x17 :: x18 :: x19 :: x20 :: x21 :: x22 :: x23 :: r) (.long y :: st) n h c sl := zg_lstore (i := 22) (fun y hy _ => hn y (Option.some.inj hy)) hi hd k
theorem zs_istore_23 {x0 x1 x2 x3 x4 x5 x6 x7 x8 x9 x10 x11 x12 x13 x14 x15 x16 x17 x18 x19 x20 x21 x22 x23 : Option Value} {r : List (Option Value)} {y : Int32} (hn : zn x22) (hi : 23 < zmL M) (hd : decode M.2.1 pc = .ok (.istore 23, 2)) (k : zAW G M XF QF (pc + 2) (x0 :: x1 :: x2 :: x3 :: x4 :: x5 :: x6 :: x7 :: x8 :: x9 :: x10 :: x11 :: x12 :: x13 :: x14 :: x15 :: x16 :: x17 :: x18 :: x19 :: x20 :: x21 :: x22 :: some (.int y) :: r) st n h c sl) : zAW G M XF QF pc (x0 :: x1 :: x2 :: x3 :: x4 :: x5 :: x6 :: x7 :: x8 :: x9 :: x10 :: x11 :: x12 :: x13 :: x14 :: x15 :: x16 :: x17 :: x18 :: x19 :: x20 :: x21 :: x22 :: x23 :: r) (.int y :: st) n h c sl := zg_istore (i := 23) (fun y hy _ => hn y (Option.some.inj hy)) hi hd k
theorem zs_astore_23 {x0 x1 x2 x3 x4 x5 x6 x7 x8 x9 x10 x11 x12 x13 x14 x15 x16 x17 x18 x19 x20 x21 x22 x23 : Option Value} {r : List (Option Value)} {y : Nat} (hn : zn x22) (hi : 23 < zmL M) (hd : decode M.2.1 pc = .ok (.astore 23, 2)) (k : zAW G M XF QF (pc + 2) (x0 :: x1 :: x2 :: x3 :: x4 :: x5 :: x6 :: x7 :: x8 :: x9 :: x10 :: x11 :: x12 :: x13 :: x14 :: x15 :: x16 :: x17 :: x18 :: x19 :: x20 :: x21 :: x22 :: some (.ref y) :: r) st n h c sl) : zAW G M XF QF pc (x0 :: x1 :: x2 :: x3 :: x4 :: x5 :: x6 :: x7 :: x8 :: x9 :: x10 :: x11 :: x12 :: x13 :: x14 :: x15 :: x16 :: x17 :: x18 :: x19 :: x20 :: x21 :: x22 :: x23 :: r) (.ref y :: st) n h c sl := zg_astore (i := 23) (fun y hy _ => hn y (Option.some.inj hy)) hi hd k
theorem zs_iinc_23 {x0 x1 x2 x3 x4 x5 x6 x7 x8 x9 x10 x11 x12 x13 x14 x15 x16 x17 x18 x19 x20 x21 x22 : Option Value} {r : List (Option Value)} {z d : Int} (hn : zn x22) (hi : 23 < zmL M) (hd : decode M.2.1 pc = .ok (.iinc 23 d, 3)) (k : zAW G M XF QF (pc + 3) (x0 :: x1 :: x2 :: x3 :: x4 :: x5 :: x6 :: x7 :: x8 :: x9 :: x10 :: x11 :: x12 :: x13 :: x14 :: x15 :: x16 :: x17 :: x18 :: x19 :: x20 :: x21 :: x22 :: some (vi (z + d)) :: r) st n h c sl) : zAW G M XF QF pc (x0 :: x1 :: x2 :: x3 :: x4 :: x5 :: x6 :: x7 :: x8 :: x9 :: x10 :: x11 :: x12 :: x13 :: x14 :: x15 :: x16 :: x17 :: x18 :: x19 :: x20 :: x21 :: x22 :: some (vi z) :: r) st n h c sl := zg_iinc (i := 23) rfl (fun y hy _ => hn y (Option.some.inj hy)) hi hd k
theorem zs_lstore_23 {x0 x1 x2 x3 x4 x5 x6 x7 x8 x9 x10 x11 x12 x13 x14 x15 x16 x17 x18 x19 x20 x21 x22 x23 x24 : Option Value} {r : List (Option Value)} {y : Int64} (hn : zn x22) (hi : 23 + 1 < zmL M) (hd : decode M.2.1 pc = .ok (.lstore 23, 2)) (k : zAW G M XF QF (pc + 2) (x0 :: x1 :: x2 :: x3 :: x4 :: x5 :: x6 :: x7 :: x8 :: x9 :: x10 :: x11 :: x12 :: x13 :: x14 :: x15 :: x16 :: x17 :: x18 :: x19 :: x20 :: x21 :: x22 :: some (.long y) :: none :: r) st n h c sl) : zAW G M XF QF pc (x0 :: x1 :: x2 :: x3 :: x4 :: x5 :: x6 :: x7 :: x8 :: x9 :: x10 :: x11 :: x12 :: x13 :: x14 :: x15 :: x16 :: x17 :: x18 :: x19 :: x20 :: x21 :: x22 :: x23 :: x24 :: r) (.long y :: st) n h c sl := zg_lstore (i := 23) (fun y hy _ => hn y (Option.some.inj hy)) hi hd k
theorem zs_istore_24 {x0 x1 x2 x3 x4 x5 x6 x7 x8 x9 x10 x11 x12 x13 x14 x15 x16 x17 x18 x19 x20 x21 x22 x23 x24 : Option Value} {r : List (Option Value)} {y : Int32} (hn : zn x23) (hi : 24 < zmL M) (hd : decode M.2.1 pc = .ok (.istore 24, 2)) (k : zAW G M XF QF (pc + 2) (x0 :: x1 :: x2 :: x3 :: x4 :: x5 :: x6 :: x7 :: x8 :: x9 :: x10 :: x11 :: x12 :: x13 :: x14 :: x15 :: x16 :: x17 :: x18 :: x19 :: x20 :: x21 :: x22 :: x23 :: some (.int y) :: r) st n h c sl) : zAW G M XF QF pc (x0 :: x1 :: x2 :: x3 :: x4 :: x5 :: x6 :: x7 :: x8 :: x9 :: x10 :: x11 :: x12 :: x13 :: x14 :: x15 :: x16 :: x17 :: x18 :: x19 :: x20 :: x21 :: x22 :: x23 :: x24 :: r) (.int y :: st) n h c sl := zg_istore (i := 24) (fun y hy _ => hn y (Option.some.inj hy)) hi hd k
theorem zs_astore_24 {x0 x1 x2 x3 x4 x5 x6 x7 x8 x9 x10 x11 x12 x13 x14 x15 x16 x17 x18 x19 x20 x21 x22 x23 x24 : Option Value} {r : List (Option Value)} {y : Nat} (hn : zn x23) (hi : 24 < zmL M) (hd : decode M.2.1 pc = .ok (.astore 24, 2)) (k : zAW G M XF QF (pc + 2) (x0 :: x1 :: x2 :: x3 :: x4 :: x5 :: x6 :: x7 :: x8 :: x9 :: x10 :: x11 :: x12 :: x13 :: x14 :: x15 :: x16 :: x17 :: x18 :: x19 :: x20 :: x21 :: x22 :: x23 :: some (.ref y) :: r) st n h c sl) : zAW G M XF QF pc (x0 :: x1 :: x2 :: x3 :: x4 :: x5 :: x6 :: x7 :: x8 :: x9 :: x10 :: x11 :: x12 :: x13 :: x14 :: x15 :: x16 :: x17 :: x18 :: x19 :: x20 :: x21 :: x22 :: x23 :: x24 :: r) (.ref y :: st) n h c sl := zg_astore (i := 24) (fun y hy _ => hn y (Option.some.inj hy)) hi hd k
theorem zs_iinc_24 {x0 x1 x2 x3 x4 x5 x6 x7 x8 x9 x10 x11 x12 x13 x14 x15 x16 x17 x18 x19 x20 x21 x22 x23 : Option Value} {r : List (Option Value)} {z d : Int} (hn : zn x23) (hi : 24 < zmL M) (hd : decode M.2.1 pc = .ok (.iinc 24 d, 3)) (k : zAW G M XF QF (pc + 3) (x0 :: x1 :: x2 :: x3 :: x4 :: x5 :: x6 :: x7 :: x8 :: x9 :: x10 :: x11 :: x12 :: x13 :: x14 :: x15 :: x16 :: x17 :: x18 :: x19 :: x20 :: x21 :: x22 :: x23 :: some (vi (z + d)) :: r) st n h c sl) : zAW G M XF QF pc (x0 :: x1 :: x2 :: x3 :: x4 :: x5 :: x6 :: x7 :: x8 :: x9 :: x10 :: x11 :: x12 :: x13 :: x14 :: x15 :: x16 :: x17 :: x18 :: x19 :: x20 :: x21 :: x22 :: x23 :: some (vi z) :: r) st n h c sl := zg_iinc (i := 24) rfl (fun y hy _ => hn y (Option.some.inj hy)) hi hd k
theorem zs_lstore_24 {x0 x1 x2 x3 x4 x5 x6 x7 x8 x9 x10 x11 x12 x13 x14 x15 x16 x17 x18 x19 x20 x21 x22 x23 x24 x25 : Option Value} {r : List (Option Value)} {y : Int64} (hn : zn x23) (hi : 24 + 1 < zmL M) (hd : decode M.2.1 pc = .ok (.lstore 24, 2)) (k : zAW G M XF QF (pc + 2) (x0 :: x1 :: x2 :: x3 :: x4 :: x5 :: x6 :: x7 :: x8 :: x9 :: x10 :: x11 :: x12 :: x13 :: x14 :: x15 :: x16 :: x17 :: x18 :: x19 :: x20 :: x21 :: x22 :: x23 :: some (.long y) :: none :: r) st n h c sl) : zAW G M XF QF pc (x0 :: x1 :: x2 :: x3 :: x4 :: x5 :: x6 :: x7 :: x8 :: x9 :: x10 :: x11 :: x12 :: x13 :: x14 :: x15 :: x16 :: x17 :: x18 :: x19 :: x20 :: x21 :: x22 :: x23 :: x24 :: x25 :: r) (.long y :: st) n h c sl := zg_lstore (i := 24) (fun y hy _ => hn y (Option.some.inj hy)) hi hd k
theorem zs_istore_25 {x0 x1 x2 x3 x4 x5 x6 x7 x8 x9 x10 x11 x12 x13 x14 x15 x16 x17 x18 x19 x20 x21 x22 x23 x24 x25 : Option Value} {r : List (Option Value)} {y : Int32} (hn : zn x24) (hi : 25 < zmL M) (hd : decode M.2.1 pc = .ok (.istore 25, 2)) (k : zAW G M XF QF (pc + 2) (x0 :: x1 :: x2 :: x3 :: x4 :: x5 :: x6 :: x7 :: x8 :: x9 :: x10 :: x11 :: x12 :: x13 :: x14 :: x15 :: x16 :: x17 :: x18 :: x19 :: x20 :: x21 :: x22 :: x23 :: x24 :: some (.int y) :: r) st n h c sl) : zAW G M XF QF pc (x0 :: x1 :: x2 :: x3 :: x4 :: x5 :: x6 :: x7 :: x8 :: x9 :: x10 :: x11 :: x12 :: x13 :: x14 :: x15 :: x16 :: x17 :: x18 :: x19 :: x20 :: x21 :: x22 :: x23 :: x24 :: x25 :: r) (.int y :: st) n h c sl := zg_istore (i := 25) (fun y hy _ => hn y (Option.some.inj hy)) hi hd k
theorem zs_astore_25 {x0 x1 x2 x3 x4 x5 x6 x7 x8 x9 x10 x11 x12 x13 x14 x15 x16 x17 x18 x19 x20 x21 x22 x23 x24 x25 : Option Value} {r : List (Option Value)} {y : Nat} (hn : zn x24) (hi : 25 < zmL M) (hd : decode M.2.1 pc = .ok (.astore 25, 2)) (k : zAW G M XF QF (pc + 2) (x0 :: x1 :: x2 :: x3 :: x4 :: x5 :: x6 :: x7 :: x8 :: x9 :: x10 :: x11 :: x12 :: x13 :: x14 :: x15 :: x16 :: x17 :: x18 :: x19 :: x20 :: x21 :: x22 :: x23 :: x24 :: some (.ref y) :: r) st n h c sl) : zAW G M XF QF pc (x0 :: x1 :: x2 :: x3 :: x4 :: x5 :: x6 :: x7 :: x8 :: x9 :: x10 :: x11 :: x12 :: x13 :: x14 :: x15 :: x16 :: x17 :: x18 :: x19 :: x20 :: x21 :: x22 :: x23 :: x24 :: x25 :: r) (.ref y :: st) n h c sl := zg_astore (i := 25) (fun y hy _ => hn y (Option.some.inj hy)) hi hd k
theorem zs_iinc_25 {x0 x1 x2 x3 x4 x5 x6 x7 x8 x9 x10 x11 x12 x13 x14 x15 x16 x17 x18 x19 x20 x21 x22 x23 x24 : Option Value} {r : List (Option Value)} {z d : Int} (hn : zn x24) (hi : 25 < zmL M) (hd : decode M.2.1 pc = .ok (.iinc 25 d, 3)) (k : zAW G M XF QF (pc + 3) (x0 :: x1 :: x2 :: x3 :: x4 :: x5 :: x6 :: x7 :: x8 :: x9 :: x10 :: x11 :: x12 :: x13 :: x14 :: x15 :: x16 :: x17 :: x18 :: x19 :: x20 :: x21 :: x22 :: x23 :: x24 :: some (vi (z + d)) :: r) st n h c sl) : zAW G M XF QF pc (x0 :: x1 :: x2 :: x3 :: x4 :: x5 :: x6 :: x7 :: x8 :: x9 :: x10 :: x11 :: x12 :: x13 :: x14 :: x15 :: x16 :: x17 :: x18 :: x19 :: x20 :: x21 :: x22 :: x23 :: x24 :: some (vi z) :: r) st n h c sl := zg_iinc (i := 25) rfl (fun y hy _ => hn y (Option.some.inj hy)) hi hd k
theorem zs_lstore_25 {x0 x1 x2 x3 x4 x5 x6 x7 x8 x9 x10 x11 x12 x13 x14 x15 x16 x17 x18 x19 x20 x21 x22 x23 x24 x25 x26 : Option Value} {r : List (Option Value)} {y : Int64} (hn : zn x24) (hi : 25 + 1 < zmL M) (hd : decode M.2.1 pc = .ok (.lstore 25, 2)) (k : zAW G M XF QF (pc + 2) (x0 :: x1 :: x2 :: x3 :: x4 :: x5 :: x6 :: x7 :: x8 :: x9 :: x10 :: x11 :: x12 :: x13 :: x14 :: x15 :: x16 :: x17 :: x18 :: x19 :: x20 :: x21 :: x22 :: x23 :: x24 :: some (.long y) :: none :: r) st n h c sl) : zAW G M XF QF pc (x0 :: x1 :: x2 :: x3 :: x4 :: x5 :: x6 :: x7 :: x8 :: x9 :: x10 :: x11 :: x12 :: x13 :: x14 :: x15 :: x16 :: x17 :: x18 :: x19 :: x20 :: x21 :: x22 :: x23 :: x24 :: x25 :: x26 :: r) (.long y :: st) n h c sl := zg_lstore (i := 25) (fun y hy _ => hn y (Option.some.inj hy)) hi hd k
end ZR
end
section
section ZB
variable {G : zG} {M : zM} {XF : Array Value → State → Code → Prop} {QF : List Frame → Array Value → State → State → Prop} {pc : Nat} {lo : List (Option Value)} {st : List Value} {n : Nat} {h : zH} {c sl : Nat}
theorem zr_iadd {a b : Int} (hd : decode M.2.1 pc = .ok (.iadd, 1))
    (k : zAW G M XF QF (pc + 1) lo (vi (a + b) :: st) n h c sl) : zAW G M XF QF pc lo (vi b :: vi a :: st) n h c sl := by
  intro p e s m args below meth cd F H locs ls hz hw hs hl
  refine lv_iadd F.1 F.2.1 hd ?_
  rw [iZ_add]
  exact k p e s m args below meth cd F H locs ls hz hw hs hl
theorem zr_isub {a b : Int} (hd : decode M.2.1 pc = .ok (.isub, 1))
    (k : zAW G M XF QF (pc + 1) lo (vi (a - b) :: st) n h c sl) : zAW G M XF QF pc lo (vi b :: vi a :: st) n h c sl := by
  intro p e s m args below meth cd F H locs ls hz hw hs hl
  refine lv_isub F.1 F.2.1 hd ?_
  rw [iZ_sub]
  exact k p e s m args below meth cd F H locs ls hz hw hs hl
theorem zr_imul {a b : Int} (hd : decode M.2.1 pc = .ok (.imul, 1))
    (k : zAW G M XF QF (pc + 1) lo (vi (a * b) :: st) n h c sl) : zAW G M XF QF pc lo (vi b :: vi a :: st) n h c sl := by
  intro p e s m args below meth cd F H locs ls hz hw hs hl
  refine lv_imul F.1 F.2.1 hd ?_
  rw [iZ_mul]
  exact k p e s m args below meth cd F H locs ls hz hw hs hl
theorem zr_ladd {a b : Int} (hd : decode M.2.1 pc = .ok (.ladd, 1))
    (k : zAW G M XF QF (pc + 1) lo (vl (a + b) :: st) n h c sl) : zAW G M XF QF pc lo (vl b :: vl a :: st) n h c sl := by
  intro p e s m args below meth cd F H locs ls hz hw hs hl
  refine lv_ladd F.1 F.2.1 hd ?_
  rw [lZ_add]
  exact k p e s m args below meth cd F H locs ls hz hw hs hl
theorem zr_lsub {a b : Int} (hd : decode M.2.1 pc = .ok (.lsub, 1))
    (k : zAW G M XF QF (pc + 1) lo (vl (a - b) :: st) n h c sl) : zAW G M XF QF pc lo (vl b :: vl a :: st) n h c sl := by
  intro p e s m args below meth cd F H locs ls hz hw hs hl
  refine lv_lsub F.1 F.2.1 hd ?_
  rw [lZ_sub]
  exact k p e s m args below meth cd F H locs ls hz hw hs hl
theorem zr_lmul {a b : Int} (hd : decode M.2.1 pc = .ok (.lmul, 1))
    (k : zAW G M XF QF (pc + 1) lo (vl (a * b) :: st) n h c sl) : zAW G M XF QF pc lo (vl b :: vl a :: st) n h c sl := by
  intro p e s m args below meth cd F H locs ls hz hw hs hl
  refine lv_lmul F.1 F.2.1 hd ?_
  rw [lZ_mul]
  exact k p e s m args below meth cd F H locs ls hz hw hs hl
theorem zr_idiv {a b : Int} (ha : iR a) (hb : iR b) (h0 : b ≠ 0) (hd : decode M.2.1 pc = .ok (.idiv, 1))
    (k : zAW G M XF QF (pc + 1) lo (vi (a.tdiv b) :: st) n h c sl) : zAW G M XF QF pc lo (vi b :: vi a :: st) n h c sl := by
  intro p e s m args below meth cd F H locs ls hz hw hs hl
  refine lv_idiv F.1 F.2.1 hd (iZ_ne0 hb h0) ?_
  rw [iZ_div ha hb]
  exact k p e s m args below meth cd F H locs ls hz hw hs hl
theorem zr_irem {a b : Int} (ha : iR a) (hb : iR b) (h0 : b ≠ 0) (hd : decode M.2.1 pc = .ok (.irem, 1))
    (k : zAW G M XF QF (pc + 1) lo (vi (a.tmod b) :: st) n h c sl) : zAW G M XF QF pc lo (vi b :: vi a :: st) n h c sl := by
  intro p e s m args below meth cd F H locs ls hz hw hs hl
  refine lv_irem F.1 F.2.1 hd (iZ_ne0 hb h0) ?_
  rw [iZ_rem ha hb]
  exact k p e s m args below meth cd F H locs ls hz hw hs hl
theorem zr_ldiv {a b : Int} (ha : lR a) (hb : lR b) (h0 : b ≠ 0) (hd : decode M.2.1 pc = .ok (.ldiv, 1))
    (k : zAW G M XF QF (pc + 1) lo (vl (a.tdiv b) :: st) n h c sl) : zAW G M XF QF pc lo (vl b :: vl a :: st) n h c sl := by
  intro p e s m args below meth cd F H locs ls hz hw hs hl
  refine lv_ldiv F.1 F.2.1 hd (lZ_ne0 hb h0) ?_
  rw [lZ_div ha hb]
  exact k p e s m args below meth cd F H locs ls hz hw hs hl
theorem zr_lrem {a b : Int} (ha : lR a) (hb : lR b) (h0 : b ≠ 0) (hd : decode M.2.1 pc = .ok (.lrem, 1))
    (k : zAW G M XF QF (pc + 1) lo (vl (a.tmod b) :: st) n h c sl) : zAW G M XF QF pc lo (vl b :: vl a :: st) n h c sl := by
  intro p e s m args below meth cd F H locs ls hz hw hs hl
  refine lv_lrem F.1 F.2.1 hd (lZ_ne0 hb h0) ?_
  rw [lZ_rem ha hb]
  exact k p e s m args below meth cd F H locs ls hz hw hs hl
theorem zr_ineg {a : Int} (hd : decode M.2.1 pc = .ok (.ineg, 1))
    (k : zAW G M XF QF (pc + 1) lo (vi (-a) :: st) n h c sl) : zAW G M XF QF pc lo (vi a :: st) n h c sl := by
  intro p e s m args below meth cd F H locs ls hz hw hs hl
  refine lv_ineg F.1 F.2.1 hd ?_
  rw [iZ_neg]
  exact k p e s m args below meth cd F H locs ls hz hw hs hl
theorem zr_lneg {a : Int} (hd : decode M.2.1 pc = .ok (.lneg, 1))
    (k : zAW G M XF QF (pc + 1) lo (vl (-a) :: st) n h c sl) : zAW G M XF QF pc lo (vl a :: st) n h c sl := by
  intro p e s m args below meth cd F H locs ls hz hw hs hl
  refine lv_lneg F.1 F.2.1 hd ?_
  rw [lZ_neg]
  exact k p e s m args below meth cd F H locs ls hz hw hs hl
theorem zr_i2l {a : Int} (ha : iR a) (hd : decode M.2.1 pc = .ok (.i2l, 1))
    (k : zAW G M XF QF (pc + 1) lo (vl a :: st) n h c sl) : zAW G M XF QF pc lo (vi a :: st) n h c sl := by
  intro p e s m args below meth cd F H locs ls hz hw hs hl
  exact lv_i2l F.1 F.2.1 hd (iZ_l ha) (k p e s m args below meth cd F H locs ls hz hw hs hl)
theorem zr_l2i {a : Int} (hd : decode M.2.1 pc = .ok (.l2i, 1))
    (k : zAW G M XF QF (pc + 1) lo (vi a :: st) n h c sl) : zAW G M XF QF pc lo (vl a :: st) n h c sl := by
  intro p e s m args below meth cd F H locs ls hz hw hs hl
  exact lv_l2i F.1 F.2.1 hd (lZ_i a) (k p e s m args below meth cd F H locs ls hz hw hs hl)
theorem zr_i2b {x : Int32} {z : Int} (hv : x.toInt8.toInt32 = iZ z) (hd : decode M.2.1 pc = .ok (.i2b, 1))
    (k : zAW G M XF QF (pc + 1) lo (vi z :: st) n h c sl) : zAW G M XF QF pc lo (.int x :: st) n h c sl := by
  intro p e s m args below meth cd F H locs ls hz hw hs hl
  exact lv_i2b F.1 F.2.1 hd hv (k p e s m args below meth cd F H locs ls hz hw hs hl)
theorem zr_iand {x y : Int32} {z : Int} (hv : x &&& y = iZ z) (hd : decode M.2.1 pc = .ok (.iand, 1))
    (k : zAW G M XF QF (pc + 1) lo (vi z :: st) n h c sl) : zAW G M XF QF pc lo (.int y :: .int x :: st) n h c sl := by
  intro p e s m args below meth cd F H locs ls hz hw hs hl
  refine lv_iand F.1 F.2.1 hd ?_
  rw [hv]
  exact k p e s m args below meth cd F H locs ls hz hw hs hl
theorem zr_ishr {x y : Int32} (hd : decode M.2.1 pc = .ok (.ishr, 1))
    (k : zAW G M XF QF (pc + 1) lo (.int (x >>> (y &&& 31)) :: st) n h c sl) : zAW G M XF QF pc lo (.int y :: .int x :: st) n h c sl := by
  intro p e s m args below meth cd F H locs ls hz hw hs hl
  exact lv_ishr F.1 F.2.1 hd (k p e s m args below meth cd F H locs ls hz hw hs hl)
theorem zr_iushr {x y : Int32} (hd : decode M.2.1 pc = .ok (.iushr, 1))
    (k : zAW G M XF QF (pc + 1) lo (.int ((x.toUInt32 >>> (y.toUInt32 &&& Int32.toUInt32 31)).toInt32) :: st) n h c sl) : zAW G M XF QF pc lo (.int y :: .int x :: st) n h c sl := by
  intro p e s m args below meth cd F H locs ls hz hw hs hl
  exact lv_iushr F.1 F.2.1 hd rfl (k p e s m args below meth cd F H locs ls hz hw hs hl)
theorem zr_dup {v : Value} (hc : v.category = 1) (hd : decode M.2.1 pc = .ok (.dup, 1))
    (k : zAW G M XF QF (pc + 1) lo (v :: v :: st) n h c sl) : zAW G M XF QF pc lo (v :: st) n h c sl := by
  intro p e s m args below meth cd F H locs ls hz hw hs hl
  exact lv_dup F.1 F.2.1 hd ((zv_cat _ _).trans hc) (k p e s m args below meth cd F H locs ls hz hw hs hl)
theorem zr_pop {v : Value} (hc : v.category = 1) (hd : decode M.2.1 pc = .ok (.pop, 1))
    (k : zAW G M XF QF (pc + 1) lo (st) n h c sl) : zAW G M XF QF pc lo (v :: st) n h c sl := by
  intro p e s m args below meth cd F H locs ls hz hw hs hl
  exact lv_pop F.1 F.2.1 hd ((zv_cat _ _).trans hc) (k p e s m args below meth cd F H locs ls hz hw hs hl)
theorem zr_dup2 {v u : Value} (hc : v.category = 1) (hu : u.category = 1) (hd : decode M.2.1 pc = .ok (.dup2, 1))
    (k : zAW G M XF QF (pc + 1) lo (v :: u :: v :: u :: st) n h c sl) : zAW G M XF QF pc lo (v :: u :: st) n h c sl := by
  intro p e s m args below meth cd F H locs ls hz hw hs hl
  exact lv_dup2_11 F.1 F.2.1 hd ((zv_cat _ _).trans hc) ((zv_cat _ _).trans hu) (k p e s m args below meth cd F H locs ls hz hw hs hl)
theorem zr_dup2L {v : Value} (hc : v.category = 2) (hd : decode M.2.1 pc = .ok (.dup2, 1))
    (k : zAW G M XF QF (pc + 1) lo (v :: v :: st) n h c sl) : zAW G M XF QF pc lo (v :: st) n h c sl := by
  intro p e s m args below meth cd F H locs ls hz hw hs hl
  exact lv_dup2_2 F.1 F.2.1 hd ((zv_cat _ _).trans hc) (k p e s m args below meth cd F H locs ls hz hw hs hl)
theorem zr_topi {x : Int32} {z : Int} (hx : x = iZ z) (k : zAW G M XF QF pc lo (vi z :: st) n h c sl) : zAW G M XF QF pc lo (.int x :: st) n h c sl := by rw [hx]; exact k
theorem zr_eqi {a b : Int} (hx : a = b) (k : zAW G M XF QF pc lo (vi b :: st) n h c sl) : zAW G M XF QF pc lo (vi a :: st) n h c sl := by rw [hx]; exact k
theorem zr_eql {a b : Int} (hx : a = b) (k : zAW G M XF QF pc lo (vl b :: st) n h c sl) : zAW G M XF QF pc lo (vl a :: st) n h c sl := by rw [hx]; exact k
theorem zr_loc {lo' : List (Option Value)} (hx : lo = lo') (k : zAW G M XF QF pc lo' st n h c sl) : zAW G M XF QF pc lo st n h c sl := by rw [hx]; exact k
theorem zr_heap {h' : zH} (hx : h = h') (k : zAW G M XF QF pc lo st n h' c sl) : zAW G M XF QF pc lo st n h c sl := by rw [hx]; exact k
theorem zr_cs {c' sl' : Nat} (hx : c = c') (hy : sl = sl') (k : zAW G M XF QF pc lo st n h c' sl') : zAW G M XF QF pc lo st n h c sl := by rw [hx, hy]; exact k
theorem zr_goto {off : Int} {tgt : Nat} (ht : (pc : Int) + off = (tgt : Int)) (hd : decode M.2.1 pc = .ok (.goto off, 3)) (k : zAW G M XF QF tgt lo st n h c sl) : zAW G M XF QF pc lo st n h c sl := by
  intro p e s m args below meth cd F H locs ls hz hw hs hl
  exact lv_goto F.1 F.2.1 hd ht (k p e s m args below meth cd F H locs ls hz hw hs hl)
theorem zR0 : iR 0 := ⟨by decide, by decide⟩
theorem zr_if_eq {a : Int} {off : Int} {tgt : Nat} (ha : iR a) (ht : (pc : Int) + off = (tgt : Int)) (hd : decode M.2.1 pc = .ok (.ifCond .eq off, 3))
    (kt : a = 0 → zAW G M XF QF tgt lo st n h c sl) (kf : ¬ a = 0 → zAW G M XF QF (pc + 3) lo st n h c sl) : zAW G M XF QF pc lo (vi a :: st) n h c sl := by
  intro p e s m args below meth cd F H locs ls hz hw hs hl
  exact lv_if_eq F.1 F.2.1 hd ht (fun q => kt ((iZ_eq ha zR0).mp q) p e s m args below meth cd F H locs ls hz hw hs hl) (fun q => kf ((not_congr (iZ_eq ha zR0)).mp q) p e s m args below meth cd F H locs ls hz hw hs hl)
theorem zr_if_ne {a : Int} {off : Int} {tgt : Nat} (ha : iR a) (ht : (pc : Int) + off = (tgt : Int)) (hd : decode M.2.1 pc = .ok (.ifCond .ne off, 3))
    (kt : ¬ a = 0 → zAW G M XF QF tgt lo st n h c sl) (kf : a = 0 → zAW G M XF QF (pc + 3) lo st n h c sl) : zAW G M XF QF pc lo (vi a :: st) n h c sl := by
  intro p e s m args below meth cd F H locs ls hz hw hs hl
  exact lv_if_ne F.1 F.2.1 hd ht (fun q => kt ((not_congr (iZ_eq ha zR0)).mp q) p e s m args below meth cd F H locs ls hz hw hs hl) (fun q => kf ((iZ_eq ha zR0).mp q) p e s m args below meth cd F H locs ls hz hw hs hl)
theorem zr_if_lt {a : Int} {off : Int} {tgt : Nat} (ha : iR a) (ht : (pc : Int) + off = (tgt : Int)) (hd : decode M.2.1 pc = .ok (.ifCond .lt off, 3))
    (kt : a < 0 → zAW G M XF QF tgt lo st n h c sl) (kf : ¬ a < 0 → zAW G M XF QF (pc + 3) lo st n h c sl) : zAW G M XF QF pc lo (vi a :: st) n h c sl := by
  intro p e s m args below meth cd F H locs ls hz hw hs hl
  exact lv_if_lt F.1 F.2.1 hd ht (fun q => kt ((iZ_lt ha zR0).mp q) p e s m args below meth cd F H locs ls hz hw hs hl) (fun q => kf ((not_congr (iZ_lt ha zR0)).mp q) p e s m args below meth cd F H locs ls hz hw hs hl)
theorem zr_if_ge {a : Int} {off : Int} {tgt : Nat} (ha : iR a) (ht : (pc : Int) + off = (tgt : Int)) (hd : decode M.2.1 pc = .ok (.ifCond .ge off, 3))
    (kt : 0 ≤ a → zAW G M XF QF tgt lo st n h c sl) (kf : ¬ 0 ≤ a → zAW G M XF QF (pc + 3) lo st n h c sl) : zAW G M XF QF pc lo (vi a :: st) n h c sl := by
  intro p e s m args below meth cd F H locs ls hz hw hs hl
  exact lv_if_ge F.1 F.2.1 hd ht (fun q => kt ((iZ_le zR0 ha).mp q) p e s m args below meth cd F H locs ls hz hw hs hl) (fun q => kf ((not_congr (iZ_le zR0 ha)).mp q) p e s m args below meth cd F H locs ls hz hw hs hl)
theorem zr_if_gt {a : Int} {off : Int} {tgt : Nat} (ha : iR a) (ht : (pc : Int) + off = (tgt : Int)) (hd : decode M.2.1 pc = .ok (.ifCond .gt off, 3))
    (kt : 0 < a → zAW G M XF QF tgt lo st n h c sl) (kf : ¬ 0 < a → zAW G M XF QF (pc + 3) lo st n h c sl) : zAW G M XF QF pc lo (vi a :: st) n h c sl := by
  intro p e s m args below meth cd F H locs ls hz hw hs hl
  exact lv_if_gt F.1 F.2.1 hd ht (fun q => kt ((iZ_lt zR0 ha).mp q) p e s m args below meth cd F H locs ls hz hw hs hl) (fun q => kf ((not_congr (iZ_lt zR0 ha)).mp q) p e s m args below meth cd F H locs ls hz hw hs hl)
theorem zr_if_le {a : Int} {off : Int} {tgt : Nat} (ha : iR a) (ht : (pc : Int) + off = (tgt : Int)) (hd : decode M.2.1 pc = .ok (.ifCond .le off, 3))
    (kt : a ≤ 0 → zAW G M XF QF tgt lo st n h c sl) (kf : ¬ a ≤ 0 → zAW G M XF QF (pc + 3) lo st n h c sl) : zAW G M XF QF pc lo (vi a :: st) n h c sl := by
  intro p e s m args below meth cd F H locs ls hz hw hs hl
  exact lv_if_le F.1 F.2.1 hd ht (fun q => kt ((iZ_le ha zR0).mp q) p e s m args below meth cd F H locs ls hz hw hs hl) (fun q => kf ((not_congr (iZ_le ha zR0)).mp q) p e s m args below meth cd F H locs ls hz hw hs hl)
theorem zr_icmp_eq {a b : Int} {off : Int} {tgt : Nat} (ha : iR a) (hb : iR b) (ht : (pc : Int) + off = (tgt : Int)) (hd : decode M.2.1 pc = .ok (.if_icmp .eq off, 3))
    (kt : a = b → zAW G M XF QF tgt lo st n h c sl) (kf : ¬ a = b → zAW G M XF QF (pc + 3) lo st n h c sl) : zAW G M XF QF pc lo (vi b :: vi a :: st) n h c sl := by
  intro p e s m args below meth cd F H locs ls hz hw hs hl
  exact lv_icmp_eq F.1 F.2.1 hd ht (fun q => kt ((iZ_eq ha hb).mp q) p e s m args below meth cd F H locs ls hz hw hs hl) (fun q => kf ((not_congr (iZ_eq ha hb)).mp q) p e s m args below meth cd F H locs ls hz hw hs hl)
theorem zr_icmp_ne {a b : Int} {off : Int} {tgt : Nat} (ha : iR a) (hb : iR b) (ht : (pc : Int) + off = (tgt : Int)) (hd : decode M.2.1 pc = .ok (.if_icmp .ne off, 3))
    (kt : ¬ a = b → zAW G M XF QF tgt lo st n h c sl) (kf : a = b → zAW G M XF QF (pc + 3) lo st n h c sl) : zAW G M XF QF pc lo (vi b :: vi a :: st) n h c sl := by
  intro p e s m args below meth cd F H locs ls hz hw hs hl
  exact lv_icmp_ne F.1 F.2.1 hd ht (fun q => kt ((not_congr (iZ_eq ha hb)).mp q) p e s m args below meth cd F H locs ls hz hw hs hl) (fun q => kf ((iZ_eq ha hb).mp q) p e s m args below meth cd F H locs ls hz hw hs hl)
theorem zr_icmp_lt {a b : Int} {off : Int} {tgt : Nat} (ha : iR a) (hb : iR b) (ht : (pc : Int) + off = (tgt : Int)) (hd : decode M.2.1 pc = .ok (.if_icmp .lt off, 3))
    (kt : a < b → zAW G M XF QF tgt lo st n h c sl) (kf : ¬ a < b → zAW G M XF QF (pc + 3) lo st n h c sl) : zAW G M XF QF pc lo (vi b :: vi a :: st) n h c sl := by
  intro p e s m args below meth cd F H locs ls hz hw hs hl
  exact lv_icmp_lt F.1 F.2.1 hd ht (fun q => kt ((iZ_lt ha hb).mp q) p e s m args below meth cd F H locs ls hz hw hs hl) (fun q => kf ((not_congr (iZ_lt ha hb)).mp q) p e s m args below meth cd F H locs ls hz hw hs hl)
theorem zr_icmp_ge {a b : Int} {off : Int} {tgt : Nat} (ha : iR a) (hb : iR b) (ht : (pc : Int) + off = (tgt : Int)) (hd : decode M.2.1 pc = .ok (.if_icmp .ge off, 3))
    (kt : b ≤ a → zAW G M XF QF tgt lo st n h c sl) (kf : ¬ b ≤ a → zAW G M XF QF (pc + 3) lo st n h c sl) : zAW G M XF QF pc lo (vi b :: vi a :: st) n h c sl := by
  intro p e s m args below meth cd F H locs ls hz hw hs hl
  exact lv_icmp_ge F.1 F.2.1 hd ht (fun q => kt ((iZ_le hb ha).mp q) p e s m args below meth cd F H locs ls hz hw hs hl) (fun q => kf ((not_congr (iZ_le hb ha)).mp q) p e s m args below meth cd F H locs ls hz hw hs hl)
theorem zr_icmp_gt {a b : Int} {off : Int} {tgt : Nat} (ha : iR a) (hb : iR b) (ht : (pc : Int) + off = (tgt : Int)) (hd : decode M.2.1 pc = .ok (.if_icmp .gt off, 3))
    (kt : b < a → zAW G M XF QF tgt lo st n h c sl) (kf : ¬ b < a → zAW G M XF QF (pc + 3) lo st n h c sl) : zAW G M XF QF pc lo (vi b :: vi a :: st) n h c sl := by
  intro p e s m args below meth cd F H locs ls hz hw hs hl
  exact lv_icmp_gt F.1 F.2.1 hd ht (fun q => kt ((iZ_lt hb ha).mp q) p e s m args below meth cd F H locs ls hz hw hs hl) (fun q => kf ((not_congr (iZ_lt hb ha)).mp q) p e s m args below meth cd F H locs ls hz hw hs hl)
theorem zr_icmp_le {a b : Int} {off : Int} {tgt : Nat} (ha : iR a) (hb : iR b) (ht : (pc : Int) + off = (tgt : Int)) (hd : decode M.2.1 pc = .ok (.if_icmp .le off, 3))
    (kt : a ≤ b → zAW G M XF QF tgt lo st n h c sl) (kf : ¬ a ≤ b → zAW G M XF QF (pc + 3) lo st n h c sl) : zAW G M XF QF pc lo (vi b :: vi a :: st) n h c sl := by
  intro p e s m args below meth cd F H locs ls hz hw hs hl
  exact lv_icmp_le F.1 F.2.1 hd ht (fun q => kt ((iZ_le ha hb).mp q) p e s m args below meth cd F H locs ls hz hw hs hl) (fun q => kf ((not_congr (iZ_le ha hb)).mp q) p e s m args below meth cd F H locs ls hz hw hs hl)
theorem zr_lcmp {a b : Int} (ha : lR a) (hb : lR b) (hd : decode M.2.1 pc = .ok (.lcmp, 1))
    (k : zAW G M XF QF (pc + 1) lo (vi (zcmp a b) :: st) n h c sl) : zAW G M XF QF pc lo (vl b :: vl a :: st) n h c sl := by
  intro p e s m args below meth cd F H locs ls hz hw hs hl
  refine W.lcmp F.1 F.2.1 hd ?_
  rw [lZ_cmp ha hb]
  exact k p e s m args below meth cd F H locs ls hz hw hs hl
theorem zr_lcmp_eq {a b : Int} {off : Int} {tgt : Nat} (ha : lR a) (hb : lR b) (ht : ((pc + 1 : Nat) : Int) + off = (tgt : Int)) (hd : decode M.2.1 pc = .ok (.lcmp, 1)) (hd2 : decode M.2.1 (pc + 1) = .ok (.ifCond .eq off, 3))
    (kt : a = b → zAW G M XF QF tgt lo st n h c sl) (kf : ¬ a = b → zAW G M XF QF (pc + 1 + 3) lo st n h c sl) : zAW G M XF QF pc lo (vl b :: vl a :: st) n h c sl :=
  zr_lcmp ha hb hd (zr_if_eq zcmp_R ht hd2 (fun q => kt (zcmp_eq.mp q)) (fun q => kf ((not_congr zcmp_eq).mp q)))
theorem zr_lcmp_ne {a b : Int} {off : Int} {tgt : Nat} (ha : lR a) (hb : lR b) (ht : ((pc + 1 : Nat) : Int) + off = (tgt : Int)) (hd : decode M.2.1 pc = .ok (.lcmp, 1)) (hd2 : decode M.2.1 (pc + 1) = .ok (.ifCond .ne off, 3))
    (kt : ¬ a = b → zAW G M XF QF tgt lo st n h c sl) (kf : a = b → zAW G M XF QF (pc + 1 + 3) lo st n h c sl) : zAW G M XF QF pc lo (vl b :: vl a :: st) n h c sl :=
  zr_lcmp ha hb hd (zr_if_ne zcmp_R ht hd2 (fun q => kt ((not_congr zcmp_eq).mp q)) (fun q => kf (zcmp_eq.mp q)))
theorem zr_lcmp_lt {a b : Int} {off : Int} {tgt : Nat} (ha : lR a) (hb : lR b) (ht : ((pc + 1 : Nat) : Int) + off = (tgt : Int)) (hd : decode M.2.1 pc = .ok (.lcmp, 1)) (hd2 : decode M.2.1 (pc + 1) = .ok (.ifCond .lt off, 3))
    (kt : a < b → zAW G M XF QF tgt lo st n h c sl) (kf : ¬ a < b → zAW G M XF QF (pc + 1 + 3) lo st n h c sl) : zAW G M XF QF pc lo (vl b :: vl a :: st) n h c sl :=
  zr_lcmp ha hb hd (zr_if_lt zcmp_R ht hd2 (fun q => kt (zcmp_lt.mp q)) (fun q => kf ((not_congr zcmp_lt).mp q)))
theorem zr_lcmp_ge {a b : Int} {off : Int} {tgt : Nat} (ha : lR a) (hb : lR b) (ht : ((pc + 1 : Nat) : Int) + off = (tgt : Int)) (hd : decode M.2.1 pc = .ok (.lcmp, 1)) (hd2 : decode M.2.1 (pc + 1) = .ok (.ifCond .ge off, 3))
    (kt : b ≤ a → zAW G M XF QF tgt lo st n h c sl) (kf : ¬ b ≤ a → zAW G M XF QF (pc + 1 + 3) lo st n h c sl) : zAW G M XF QF pc lo (vl b :: vl a :: st) n h c sl :=
  zr_lcmp ha hb hd (zr_if_ge zcmp_R ht hd2 (fun q => kt (zcmp_ge.mp q)) (fun q => kf ((not_congr zcmp_ge).mp q)))
theorem zr_lcmp_gt {a b : Int} {off : Int} {tgt : Nat} (ha : lR a) (hb : lR b) (ht : ((pc + 1 : Nat) : Int) + off = (tgt : Int)) (hd : decode M.2.1 pc = .ok (.lcmp, 1)) (hd2 : decode M.2.1 (pc + 1) = .ok (.ifCond .gt off, 3))
    (kt : b < a → zAW G M XF QF tgt lo st n h c sl) (kf : ¬ b < a → zAW G M XF QF (pc + 1 + 3) lo st n h c sl) : zAW G M XF QF pc lo (vl b :: vl a :: st) n h c sl :=
  zr_lcmp ha hb hd (zr_if_gt zcmp_R ht hd2 (fun q => kt (zcmp_gt.mp q)) (fun q => kf ((not_congr zcmp_gt).mp q)))
theorem zr_lcmp_le {a b : Int} {off : Int} {tgt : Nat} (ha : lR a) (hb : lR b) (ht : ((pc + 1 : Nat) : Int) + off = (tgt : Int)) (hd : decode M.2.1 pc = .ok (.lcmp, 1)) (hd2 : decode M.2.1 (pc + 1) = .ok (.ifCond .le off, 3))
    (kt : a ≤ b → zAW G M XF QF tgt lo st n h c sl) (kf : ¬ a ≤ b → zAW G M XF QF (pc + 1 + 3) lo st n h c sl) : zAW G M XF QF pc lo (vl b :: vl a :: st) n h c sl :=
  zr_lcmp ha hb hd (zr_if_le zcmp_R ht hd2 (fun q => kt (zcmp_le.mp q)) (fun q => kf ((not_congr zcmp_le).mp q)))
theorem zr_tblIn {z dflt lw hi : Int} {offs : Array Int} {len : Nat} {off : Int} {tgt : Nat} (hz : iR z) (h1 : lw ≤ z) (h2 : z ≤ hi) (ho : offs[(z - lw).toNat]? = some off) (ht : (pc : Int) + off = (tgt : Int)) (hd : decode M.2.1 pc = .ok (.tableswitch dflt lw hi offs, len)) (k : zAW G M XF QF tgt lo st n h c sl) : zAW G M XF QF pc lo (vi z :: st) n h c sl := by
  intro p e s m args below meth cd F H locs ls hz2 hw hs hl
  exact lv_tableIn F.1 F.2.1 hd (by rw [iZ_toInt hz]; omega) (by rw [iZ_toInt hz]; omega) (by rw [iZ_toInt hz]; exact ho) ht (k p e s m args below meth cd F H locs ls hz2 hw hs hl)
theorem zr_tblOut {z dflt lw hi : Int} {offs : Array Int} {len : Nat} {tgt : Nat} (hz : iR z) (h1 : z < lw ∨ hi < z) (ht : (pc : Int) + dflt = (tgt : Int)) (hd : decode M.2.1 pc = .ok (.tableswitch dflt lw hi offs, len)) (k : zAW G M XF QF tgt lo st n h c sl) : zAW G M XF QF pc lo (vi z :: st) n h c sl := by
  intro p e s m args below meth cd F H locs ls hz2 hw hs hl
  exact lv_tableOut F.1 F.2.1 hd (by rw [iZ_toInt hz]; exact h1) ht (k p e s m args below meth cd F H locs ls hz2 hw hs hl)
/-- rows of arrays, by their kinds -/
def aI (len : Nat) (g : Int → Int) : va_E := .inl (0, len, .inl (fI g))
def aJ (len : Nat) (g : Int → Int) : va_E := .inl (1, len, .inr (.inl (fJ g)))
def aZ (len : Nat) (g : Int → Int) : va_E := .inl (2, len, .inl (fI g))
def aB (len : Nat) (g : Int → Int) : va_E := .inl (3, len, .inl (fI g))
def aR (len : Nat) (f : Nat → Option Nat) : va_E := .inl (4, len, .inr (.inr (.inr (.inr f))))
theorem zW.set {G : zG} {h : zH} {H H1 : Heap} {a : Nat} {e2 : va_E} (hw : zW G h H) (h1 : va_at (zgD G) vwCl (zgb G + a, ze (zgb G) (zgT G) e2) H1) (ho : ∀ q : Nat, q ≠ zgb G + a → H1[q]? = H[q]?) : zW G (zup h a e2) H1 := by
  intro k e he
  unfold zup at he
  by_cases hk : k = a
  · rw [if_pos hk] at he
    cases he
    rw [hk]
    exact h1
  · rw [if_neg hk] at he
    exact (hw k e he).kept (ho _ (fun q => hk (Nat.add_left_cancel q)))
theorem zW.push {G : zG} {h : zH} {H H1 : Heap} {e2 : va_E} {n : Nat} (hw : zW G h H) (hz : H.size = zgb G + n) (h1 : va_at (zgD G) vwCl (zgb G + n, ze (zgb G) (zgT G) e2) H1) (ho : ∀ q : Nat, q < H.size → H1[q]? = H[q]?) : zW G (zup h n e2) H1 := by
  intro k e he
  unfold zup at he
  by_cases hk : k = n
  · rw [if_pos hk] at he
    cases he
    rw [hk]
    exact h1
  · rw [if_neg hk] at he
    exact (hw k e he).kept (ho _ (hw k e he).lt)
theorem zAr_at {G : zG} (a : Nat) : zAr G (zgb G + a) := Nat.le_add_right _ _
theorem zS_push {G : zG} {s : State} {H H1 : Heap} {locs : List Loc} (hs : va_S (zAr G) s.heap H locs) (hz : H.size ≤ H1.size) (ho : ∀ q : Nat, q < H.size → H1[q]? = H[q]?) : va_S (zAr G) s.heap H1 locs := ⟨Nat.le_trans hs.1 hz, fun q h1 h2 => (ho q (Nat.lt_of_lt_of_le h1 hs.1)).trans (hs.2.1 q h1 h2), hs.2.2⟩
/-- what a field instruction of class own links to: class ci, slot k -/
def zFL (own : String) (idx ci k : Nat) : Prop := ∃ (C : String) (T : u_T) (N : Nat), vwCl[ci]? = some (C, T, N) ∧ k < N ∧ Cond.fieldLink own idx C (T k).2.1 (T k).2.2.1 ∈ TG ∧ (T k).1 = C ∧ ∀ w ∈ u_ws C T N, w ∈ TG
theorem zr_get {ci k idx a : Nat} {fs : List Value} {v : Value} (hf : zFL M.1.cls idx ci k) (hh : h a = some (.inr (ci, fs))) (hv : fs[k]? = some v) (hd : decode M.2.1 pc = .ok (.getfield idx, 3))
    (k : zAW G M XF QF (pc + 3) lo (v :: st) n h c sl) : zAW G M XF QF pc lo (.ref a :: st) n h c sl := by
  intro p e s m args below meth cd F H locs ls hz hw hs hl
  obtain ⟨C, T, N, h1, h2, h3, h4, h5⟩ := hf
  have hP : va_P (zgD G) vwCl [(zgb G + a, .inr (ci, fs.map (zv (zgb G))))] H := fun i q hq => by
    have h0 : i < 1 := (List.getElem?_eq_some_iff.mp hq).1
    rw [show i = 0 by omega] at hq
    cases hq
    exact hw a _ hh
  exact va_get (Ts := TG) F.1 F.2.1 F.2.2.2.2.1 h5 F.2.2.2.1 F.2.2.2.2.2.1.2.1 hP 0 rfl h1 _ h2 (F.2.2.2.2.1 _ h3) (fun x hx => by rw [h4] at hx; exact hx) (by rw [List.getElem?_map, hv]; rfl) hd (k p e s m args below meth cd F H locs ls hz hw hs hl)
theorem zfit_v (b : Nat) {ty : FieldType} {v : Value} (h : fits ty v = true) : fits ty (zv b v) = true := by
  cases v <;> first | exact h | (cases ty <;> exact h)
theorem znar_v (b : Nat) {ty : FieldType} {v : Value} (h : narrow ty v = v) : narrow ty (zv b v) = zv b v := by
  cases v <;> first | exact h | (cases ty <;> rfl)
/-- a field that may be written anywhere, or (final) in a constructor -/
def zFP (M : zM) (idx ci k : Nat) (ty : FieldType) : Prop := ∃ (C : String) (T : u_T) (N : Nat) (tys : Nat → FieldType), vwCl[ci]? = some (C, T, N) ∧ k < N ∧ Cond.fieldLink M.1.cls idx C (T k).2.1 (T k).2.2.1 ∈ TG ∧ (T k).1 = C ∧ (∀ w ∈ u_ws C T N, w ∈ TG) ∧ (∀ k, k < N → parseFieldDescriptor (T k).2.2.1 = some (tys k)) ∧ (∀ a, a < N → ∀ b, b < N → a ≠ b → (T a).2.1 ≠ (T b).2.1) ∧ tys k = ty ∧ ((T k).2.2.2 = false ∨ ((T k).2.2.2 = true ∧ M.1.name = "<init>" ∧ C = M.1.cls))
theorem zr_put {ci k idx a : Nat} {fs : List Value} {v : Value} {ty : FieldType} (e' : va_E) (hf : zFP M idx ci k ty) (hh : h a = some (.inr (ci, fs))) (hk : k < fs.length) (hn : narrow ty v = v) (hfit : fits ty v = true) (he : (.inr (ci, fs.set k v) : va_E) = e') (hd : decode M.2.1 pc = .ok (.putfield idx, 3))
    (kk : zAW G M XF QF (pc + 3) lo st n (zup h a e') c sl) : zAW G M XF QF pc lo (v :: .ref a :: st) n h c sl := by
  intro p e s m args below meth cd F H locs ls hz hw hs hl
  subst he
  obtain ⟨C, T, N, tys, h1, h2, h3, h4, h5, h6, h7, h8, h9⟩ := hf
  have hfs := F.2.2.2.2.2.1.2.1
  have hap := va_apart (own := M.1.cls) F.2.2.2.2.1 h5 tys h6 h7 hfs h1
  obtain ⟨r, r1, cell, q1, q2, q3, q4⟩ := hw a _ hh
  have hr : r = (C, T, N) := Option.some.inj (r1.symm.trans h1)
  subst hr
  obtain ⟨hS, hfc, kC, hkC, hkind⟩ := hfs.1 ci _ h1
  obtain ⟨cf, kf, fi, f, hi, hsl⟩ := hS k h2
  have hlay := F.2.2.2.2.1 _ (h5 _ (u_in_lay h2))
  have hst := (u_facts hfc hkC (u_lays F.2.2.2.2.1 h5 h2) hi).1
  have hd2 : parseFieldDescriptor (T k).2.2.1 = some ty := by rw [h6 k h2, h8]
  have hlink := F.2.2.2.2.1 _ h3
  have hsame : s.fieldFound? C (T k).2.1 (T k).2.2.1 = some (cf, kf, fi, f) := by rw [h4] at hi; exact hi
  unfold u_lay at hlay
  have fin : ∀ H' : Heap, H'[zgb G + a]? = some (cell.setSlot f.slot (zv (zgb G) v)) → H'.size = H.size → (∀ q, q ≠ zgb G + a → H'[q]? = H[q]?) → W p (zgl G) e (zmr M) s m args below meth cd H' (locs ++ [⟨zgb G + a, f.slot⟩]) c sl (QF below args s) (F0 m (pc + 3) ls (st.map (zv (zgb G)))) := by
    intro H' e1 e2 e3
    rw [hsl] at e1
    refine kk p e s m args below meth cd F H' _ ls (by rw [e2]; exact hz) (hw.set ?_ e3) (hs.put e2 e3 (zAr_at a)) hl
    refine ⟨_, h1, ?_⟩
    have hset : (fs.set k v).map (zv (zgb G)) = (fs.map (zv (zgb G))).set k (zv (zgb G) v) := by rw [List.map_set]
    show t_OB (zgb G + a) _ N _ H' (vp_V ((fs.set k v).map (zv (zgb G))))
    rw [hset]
    exact t_OB.to (V := updV (vp_V (fs.map (zv (zgb G)))) k (zv (zgb G) v)) ⟨_, e1, q2, q3, t_set q4 hap h2 _⟩ (fun j _ => vp_updV_set (by rw [List.length_map]; exact hk) _ j)
  rcases h9 with h9 | ⟨h9, h10, h11⟩
  · rw [if_neg (by rw [h9]; decide)] at hlay
    have hsd := u_store hfc hkC hkind hlay hi hd2 (znar_v (zgb G) hn) (zfit_v (zgb G) hfit)
    exact W.putK F.1 F.2.1 (f := f) ⟨F.2.2.2.1, hlink, ⟨_, _, _, hsame⟩, hst⟩ (by rw [q2]; exact hsd) q1 q3 (by rw [hsl]; exact k2_hasslot (q4 k h2)) rfl rfl hd fin
  · rw [if_pos h9] at hlay
    have hcf : m.cls = cf := by
      obtain ⟨_, _, c', _, _, _, -, -, hf', -, -, -, hown2, -⟩ := Cond.laysFinal_spec hlay
      have e1 : c' = cf := by have := hi.symm.trans hf'; simp at this; exact this.1.symm
      rw [h4, h11] at hown2
      rw [← e1]; exact Option.some.inj (F.2.2.2.1.symm.trans hown2)
    have hsd := u_fits hfc hkC hkind (Or.inr hlay) hi hd2 (znar_v (zgb G) hn) (zfit_v (zgb G) hfit)
    exact W.putFinK F.1 F.2.1 F.2.2.2.1 hlink hsame hst hcf (F.2.2.2.2.2.2.2.2.1.trans h10) (by rw [q2]; exact hsd) q1 q3 (by rw [hsl]; exact k2_hasslot (q4 k h2)) rfl rfl hd fin
theorem zr_iald {a len : Nat} {g : Int → Int} {i : Int} (hh : h a = some (aI len g)) (hi : 0 ≤ i ∧ i < len) (hn : len < 2147483648) (hd : decode M.2.1 pc = .ok (.iaload, 1))
    (k : zAW G M XF QF (pc + 1) lo (vi (g i) :: st) n h c sl) : zAW G M XF QF pc lo (vi i :: .ref a :: st) n h c sl := by
  intro p e s m args below meth cd F H locs ls hz hw hs hl
  have hP : va_P (zgD G) vwCl [(zgb G + a, ze (zgb G) (zgT G) (aI len g))] H := fun j q hq => by
    have h0 : j < 1 := (List.getElem?_eq_some_iff.mp hq).1
    rw [show j = 0 by omega] at hq
    cases hq
    exact hw a _ hh
  have hir : iR i := ⟨by omega, by omega⟩
  refine va_iald F.1 F.2.1 F.2.2.2.2.2.1.2.1 hP 0 0 (f := fI g) (n := len) rfl rfl (iZ_ix hi.1 hi.2 hn) hd ?_
  rw [iZ_clamp hir, fI_at hi.1]
  exact k p e s m args below meth cd F H locs ls hz hw hs hl
theorem zr_zald {a len : Nat} {g : Int → Int} {i : Int} (hh : h a = some (aZ len g)) (hi : 0 ≤ i ∧ i < len) (hn : len < 2147483648) (hd : decode M.2.1 pc = .ok (.baload, 1))
    (k : zAW G M XF QF (pc + 1) lo (vi (g i) :: st) n h c sl) : zAW G M XF QF pc lo (vi i :: .ref a :: st) n h c sl := by
  intro p e s m args below meth cd F H locs ls hz hw hs hl
  have hP : va_P (zgD G) vwCl [(zgb G + a, ze (zgb G) (zgT G) (aZ len g))] H := fun j q hq => by
    have h0 : j < 1 := (List.getElem?_eq_some_iff.mp hq).1
    rw [show j = 0 by omega] at hq
    cases hq
    exact hw a _ hh
  have hir : iR i := ⟨by omega, by omega⟩
  refine va_zald F.1 F.2.1 F.2.2.2.2.2.1.2.1 hP 0 2 (f := fI g) (n := len) rfl rfl (iZ_ix hi.1 hi.2 hn) hd ?_
  rw [iZ_clamp hir, fI_at hi.1]
  exact k p e s m args below meth cd F H locs ls hz hw hs hl
theorem zr_bald {a len : Nat} {g : Int → Int} {i : Int} (hh : h a = some (aB len g)) (hi : 0 ≤ i ∧ i < len) (hn : len < 2147483648) (hd : decode M.2.1 pc = .ok (.baload, 1))
    (k : zAW G M XF QF (pc + 1) lo (vi (g i) :: st) n h c sl) : zAW G M XF QF pc lo (vi i :: .ref a :: st) n h c sl := by
  intro p e s m args below meth cd F H locs ls hz hw hs hl
  have hP : va_P (zgD G) vwCl [(zgb G + a, ze (zgb G) (zgT G) (aB len g))] H := fun j q hq => by
    have h0 : j < 1 := (List.getElem?_eq_some_iff.mp hq).1
    rw [show j = 0 by omega] at hq
    cases hq
    exact hw a _ hh
  have hir : iR i := ⟨by omega, by omega⟩
  refine va_bald F.1 F.2.1 F.2.2.2.2.2.1.2.1 hP 0 3 (f := fI g) (n := len) rfl rfl (iZ_ix hi.1 hi.2 hn) hd ?_
  rw [iZ_clamp hir, fI_at hi.1]
  exact k p e s m args below meth cd F H locs ls hz hw hs hl
theorem zr_lald {a len : Nat} {g : Int → Int} {i : Int} (hh : h a = some (aJ len g)) (hi : 0 ≤ i ∧ i < len) (hn : len < 2147483648) (hd : decode M.2.1 pc = .ok (.laload, 1))
    (k : zAW G M XF QF (pc + 1) lo (vl (g i) :: st) n h c sl) : zAW G M XF QF pc lo (vi i :: .ref a :: st) n h c sl := by
  intro p e s m args below meth cd F H locs ls hz hw hs hl
  have hP : va_P (zgD G) vwCl [(zgb G + a, ze (zgb G) (zgT G) (aJ len g))] H := fun j q hq => by
    have h0 : j < 1 := (List.getElem?_eq_some_iff.mp hq).1
    rw [show j = 0 by omega] at hq
    cases hq
    exact hw a _ hh
  have hir : iR i := ⟨by omega, by omega⟩
  refine va_lald F.1 F.2.1 F.2.2.2.2.2.1.2.1 hP 0 1 (f := fJ g) (n := len) rfl rfl (iZ_ix hi.1 hi.2 hn) hd ?_
  rw [iZ_clamp hir, fJ_at hi.1]
  exact k p e s m args below meth cd F H locs ls hz hw hs hl
theorem zr_iast {a len : Nat} {g : Int → Int} {i v : Int} (hh : h a = some (aI len g)) (hi : 0 ≤ i ∧ i < len) (hn : len < 2147483648) (hd : decode M.2.1 pc = .ok (.iastore, 1))
    (k : zAW G M XF QF (pc + 1) lo st n (zup h a (aI len (uZ g i v))) c sl) : zAW G M XF QF pc lo (vi v :: vi i :: .ref a :: st) n h c sl := by
  intro p e s m args below meth cd F H locs ls hz hw hs hl
  have hir : iR i := ⟨by omega, by omega⟩
  have hin : vp_in (iZ i) len := iZ_ix hi.1 hi.2 hn
  have hcell : H[zgb G + a]? = some (arrV (zgT G 0) len (fun j => .int (fI g j))) := hw a _ hh
  refine W.iast F.1 F.2.1 hcell ((F.2.2.2.2.2.1.2.1.2 0 _ rfl).1 len (fun j => .int (fI g j))) (fun q => by cases q) (by rw [arrV_size]; exact hin) rfl rfl hd fun H1 e1 z1 o1 => ?_
  refine k p e s m args below meth cd F H1 _ ls (by rw [z1]; exact hz) (hw.set ?_ o1) (hs.put z1 o1 (zAr_at a)) hl
  · show H1[zgb G + a]? = some (arrV (zgT G 0) len (fun j => .int (fI (uZ g i v) j)))
    rw [e1, arrV_store]
    congr 2
    funext q
    rw [iZ_clamp hir, ← fI_u hi.1 i.toNat rfl]
    by_cases hq : q = i.toNat
    · subst hq
      simp [updV, upd, vp_updL]
    · simp [updV, upd, vp_updL, hq]
theorem zr_zast {a len : Nat} {g : Int → Int} {i v : Int} (hh : h a = some (aZ len g)) (hi : 0 ≤ i ∧ i < len) (hn : len < 2147483648) (hv : v = 0 ∨ v = 1) (hd : decode M.2.1 pc = .ok (.bastore, 1))
    (k : zAW G M XF QF (pc + 1) lo st n (zup h a (aZ len (uZ g i v))) c sl) : zAW G M XF QF pc lo (vi v :: vi i :: .ref a :: st) n h c sl := by
  intro p e s m args below meth cd F H locs ls hz hw hs hl
  have hir : iR i := ⟨by omega, by omega⟩
  have hin : vp_in (iZ i) len := iZ_ix hi.1 hi.2 hn
  have hnar : narrow .boolean (.int (iZ v)) = .int (iZ v) := by rcases hv with rfl | rfl <;> rfl
  have hcell : H[zgb G + a]? = some (arrV (zgT G 2) len (fun j => .int (fI g j))) := hw a _ hh
  refine W.zast F.1 F.2.1 hcell ((F.2.2.2.2.2.1.2.1.2 2 _ rfl).1 len (fun j => .int (fI g j))) (fun q => by cases q) (by rw [arrV_size]; exact hin) rfl rfl hd fun H1 e1 z1 o1 => ?_
  refine k p e s m args below meth cd F H1 _ ls (by rw [z1]; exact hz) (hw.set ?_ o1) (hs.put z1 o1 (zAr_at a)) hl
  · show H1[zgb G + a]? = some (arrV (zgT G 2) len (fun j => .int (fI (uZ g i v) j)))
    rw [hnar] at e1
    rw [e1, arrV_store]
    congr 2
    funext q
    rw [iZ_clamp hir, ← fI_u hi.1 i.toNat rfl]
    by_cases hq : q = i.toNat
    · subst hq
      simp [updV, upd, vp_updL]
    · simp [updV, upd, vp_updL, hq]
theorem zbyte_id {v : Int} (hv : -128 ≤ v ∧ v ≤ 127) : (iZ v).toInt8.toInt32 = iZ v := by
  apply Int32.toInt_inj.mp
  rw [Int8.toInt_toInt32, Int32.toInt_toInt8, iZ_toInt ⟨by omega, by omega⟩]
  have h1 := hv.1
  have h2 := hv.2
  rw [Int.bmod_def]
  split <;> omega
theorem zbyte_nar {v : Int} (hv : -128 ≤ v ∧ v ≤ 127) : narrow .byte (.int (iZ v)) = .int (iZ v) := by
  show Value.int ((iZ v).toInt8.toInt32) = _
  rw [zbyte_id hv]
theorem zr_bast {a len : Nat} {g : Int → Int} {i v : Int} (hh : h a = some (aB len g)) (hi : 0 ≤ i ∧ i < len) (hn : len < 2147483648) (hv : -128 ≤ v ∧ v ≤ 127) (hd : decode M.2.1 pc = .ok (.bastore, 1))
    (k : zAW G M XF QF (pc + 1) lo st n (zup h a (aB len (uZ g i v))) c sl) : zAW G M XF QF pc lo (vi v :: vi i :: .ref a :: st) n h c sl := by
  intro p e s m args below meth cd F H locs ls hz hw hs hl
  have hir : iR i := ⟨by omega, by omega⟩
  have hin : vp_in (iZ i) len := iZ_ix hi.1 hi.2 hn
  have hnar : narrow .byte (.int (iZ v)) = .int (iZ v) := zbyte_nar hv
  have hcell : H[zgb G + a]? = some (arrV (zgT G 3) len (fun j => .int (fI g j))) := hw a _ hh
  refine W.bast F.1 F.2.1 hcell ((F.2.2.2.2.2.1.2.1.2 3 _ rfl).1 len (fun j => .int (fI g j))) (fun q => by cases q) (by rw [arrV_size]; exact hin) rfl rfl hd fun H1 e1 z1 o1 => ?_
  refine k p e s m args below meth cd F H1 _ ls (by rw [z1]; exact hz) (hw.set ?_ o1) (hs.put z1 o1 (zAr_at a)) hl
  · show H1[zgb G + a]? = some (arrV (zgT G 3) len (fun j => .int (fI (uZ g i v) j)))
    rw [hnar] at e1
    rw [e1, arrV_store]
    congr 2
    funext q
    rw [iZ_clamp hir, ← fI_u hi.1 i.toNat rfl]
    by_cases hq : q = i.toNat
    · subst hq
      simp [updV, upd, vp_updL]
    · simp [updV, upd, vp_updL, hq]
theorem zr_last {a len : Nat} {g : Int → Int} {i v : Int} (hh : h a = some (aJ len g)) (hi : 0 ≤ i ∧ i < len) (hn : len < 2147483648) (hd : decode M.2.1 pc = .ok (.lastore, 1))
    (k : zAW G M XF QF (pc + 1) lo st n (zup h a (aJ len (uZ g i v))) c sl) : zAW G M XF QF pc lo (vl v :: vi i :: .ref a :: st) n h c sl := by
  intro p e s m args below meth cd F H locs ls hz hw hs hl
  have hir : iR i := ⟨by omega, by omega⟩
  have hin : vp_in (iZ i) len := iZ_ix hi.1 hi.2 hn
  have hcell : H[zgb G + a]? = some (arrV (zgT G 1) len (fun j => .long (fJ g j))) := hw a _ hh
  refine W.last F.1 F.2.1 hcell ((F.2.2.2.2.2.1.2.1.2 1 _ rfl).1 len (fun j => .long (fJ g j))) (fun q => by cases q) (by rw [arrV_size]; exact hin) rfl rfl hd fun H1 e1 z1 o1 => ?_
  refine k p e s m args below meth cd F H1 _ ls (by rw [z1]; exact hz) (hw.set ?_ o1) (hs.put z1 o1 (zAr_at a)) hl
  · show H1[zgb G + a]? = some (arrV (zgT G 1) len (fun j => .long (fJ (uZ g i v) j)))
    rw [e1, arrV_store]
    congr 2
    funext q
    rw [iZ_clamp hir, ← fJ_u hi.1 i.toNat rfl]
    by_cases hq : q = i.toNat
    · subst hq
      simp [updV, upd, vp_updL]
    · simp [updV, upd, vp_updL, hq]
theorem zr_alen {a len : Nat} {x : vp_A} {t : Nat} {ty : FieldType} (hh : h a = some (.inl (t, x))) (ht : (ztys (zgT G))[t]? = some (zgT G t, ty)) (hl2 : x.1 = len) (hn : len < 2147483648) (hd : decode M.2.1 pc = .ok (.arraylength, 1))
    (k : zAW G M XF QF (pc + 1) lo (vi (len : Int) :: st) n h c sl) : zAW G M XF QF pc lo (.ref a :: st) n h c sl := by
  intro p e s m args below meth cd F H locs ls hz hw hs hl
  have hP : va_P (zgD G) vwCl [(zgb G + a, .inl (zgT G t, zarr (zgb G) x))] H := fun j q hq => by
    have h0 : j < 1 := (List.getElem?_eq_some_iff.mp hq).1
    rw [show j = 0 by omega] at hq
    cases hq
    exact hw a _ hh
  refine va_alen (v := iZ (len : Int)) F.1 F.2.1 F.2.2.2.2.2.1.2.1 hP 0 t (cA := zgT G t) (x := zarr (zgb G) x) rfl ht ?_ hd (k p e s m args below meth cd F H locs ls hz hw hs hl)
  show Int32.ofNat x.1 = iZ (len : Int)
  rw [hl2]
  rfl
theorem zr_aald {a len b : Nat} {f : Nat → Option Nat} {i : Int} (hh : h a = some (aR len f)) (hi : 0 ≤ i ∧ i < len) (hn : len < 2147483648) (hf : f i.toNat = some b) (hd : decode M.2.1 pc = .ok (.aaload, 1))
    (k : zAW G M XF QF (pc + 1) lo (.ref b :: st) n h c sl) : zAW G M XF QF pc lo (vi i :: .ref a :: st) n h c sl := by
  intro p e s m args below meth cd F H locs ls hz hw hs hl
  have hir : iR i := ⟨by omega, by omega⟩
  have hin : vp_in (iZ i) len := iZ_ix hi.1 hi.2 hn
  have hcell : H[zgb G + a]? = some (arrV (zgT G 4) len (fun j => va_rf ((f j).map (fun a => zgb G + a)))) := hw a _ hh
  refine W.aald (v := .ref (zgb G + b)) (ty := .array .long) F.1 F.2.1 hcell ((F.2.2.2.2.2.1.2.1.2 4 _ rfl).1 len (fun j => va_rf ((f j).map (fun a => zgb G + a)))) rfl (fun q => by cases q) (by rw [arrV_size]; exact hin) ?_ rfl rfl hd (k p e s m args below meth cd F H locs ls hz hw hs hl)
  rw [iZ_clamp hir, arrV_read _ _ (by omega), hf]
  rfl
end ZB
end
section
section ZC
variable {G : zG} {M : zM} {XF : Array Value → State → Code → Prop} {QF : List Frame → Array Value → State → State → Prop} {pc : Nat} {lo : List (Option Value)} {st : List Value} {n : Nat} {h : zH} {c sl : Nat}
/-- what 'new' of class own links to -/
def zNW (own : String) (idx ci N : Nat) (fs : List Value) : Prop := ∃ (C : String) (T : u_T) (tys : Nat → FieldType), vwCl[ci]? = some (C, T, N) ∧ (∀ w ∈ u_ws C T N, w ∈ TG) ∧ (∀ k, k < N → parseFieldDescriptor (T k).2.2.1 = some (tys k)) ∧ Cond.classLink own idx C ∈ TG ∧ Cond.instantiable C N ∈ TG ∧ Cond.initialized C ∈ TG ∧ (∀ j, j < N → defaultValue (tys j) = vp_V fs j) ∧ ∀ b, ∀ j, j < N → vp_V (fs.map (zv b)) j = vp_V fs j
theorem zr_new {ci N idx : Nat} {fs : List Value} (hf : zNW M.1.cls idx ci N fs) (hc : c + 1 ≤ (zmr M).cells) (hsl : sl + N ≤ (zmr M).slots) (hd : decode M.2.1 pc = .ok (.new idx, 3))
    (k : zAW G M XF QF (pc + 3) lo (.ref n :: st) (n + 1) (zup h n (.inr (ci, fs))) (c + 1) (sl + N)) : zAW G M XF QF pc lo st n h c sl := by
  intro p e s m args below meth cd F H locs ls hz hw hs hl
  obtain ⟨C, T, tys, h1, h2, h3, h4, h5, h6, h7, h8⟩ := hf
  have hK := F.2.2.2.2.2.1.2.1
  have hKn := hK.1 ci _ h1
  have hts := F.2.2.2.2.1
  refine W.newcK F.1 F.2.1 F.2.2.2.1 (hts _ h4) (hts _ h5) (hts _ h6) rfl hd hc hsl hKn.2.1 hz fun H1 kC hkC e1 z1 o1 => ?_
  rw [← hz] at o1
  refine k p e s m args below meth cd F H1 locs ls (by omega) (hw.push hz ?_ o1) (zS_push hs (by omega) o1) hl
  refine ⟨_, h1, ?_⟩
  have e2 := (u_born tys hts h2 hKn hkC e1 h3).to h7
  exact e2.to (fun j hj => (h8 (zgb G) j hj).symm)
theorem zS_new {fs : List Value} {N : Nat} (h : ∀ v ∈ fs, ∀ b, zv b v = v) : ∀ b, ∀ j, j < N → vp_V (fs.map (zv b)) j = vp_V fs j := by
  intro b j _
  have : fs.map (zv b) = fs := by
    conv => rhs; rw [← List.map_id fs]
    exact List.map_congr_left (fun v hv => h v hv b)
  rw [this]

theorem zr_newI {z : Int} {len : Nat} (hlen : z = (len : Int)) (hn : len < 60000000) (ha : Cond.arrayClass .int ∈ TG) (hc : c + 1 ≤ (zmr M).cells) (hsl : sl + len ≤ (zmr M).slots) (hd : decode M.2.1 pc = .ok (.newarray .int, 2))
    (k : zAW G M XF QF (pc + 2) lo (.ref n :: st) (n + 1) (zup h n (aI len (fun _ => 0))) (c + 1) (sl + len)) : zAW G M XF QF pc lo (vi z :: st) n h c sl := by
  intro p e s m args below meth cd F H locs ls hz hw hs hl
  subst hlen
  have hir : iR (len : Int) := ⟨by omega, by omega⟩
  refine va_newaK (atype := .int) F.1 F.2.1 (F.2.2.2.2.1 _ ha) rfl hd rfl (by rw [show (0 : Int32) = iZ 0 from rfl, iZ_lt hir zR0]; omega) (by rw [iZ_clamp hir]; exact Int.toNat_natCast len) (by show len * _ ≤ _; simp only [newarray.typeOf, componentBytes]; omega) hc hsl hz fun H1 cA e1 z1 o1 hAr hNm => ?_
  have hcA : cA = zgT G 0 := by
    have h9 := (F.2.2.2.2.2.1.2.1.2 0 _ rfl).2
    exact Option.some.inj (hNm.symm.trans h9)
  subst hcA
  rw [← hz] at o1
  refine k p e s m args below meth cd F H1 locs ls (by omega) (hw.push hz ?_ o1) (zS_push hs (by omega) o1) hl
  exact e1
theorem zr_newJ {z : Int} {len : Nat} (hlen : z = (len : Int)) (hn : len < 60000000) (ha : Cond.arrayClass .long ∈ TG) (hc : c + 1 ≤ (zmr M).cells) (hsl : sl + len ≤ (zmr M).slots) (hd : decode M.2.1 pc = .ok (.newarray .long, 2))
    (k : zAW G M XF QF (pc + 2) lo (.ref n :: st) (n + 1) (zup h n (aJ len (fun _ => 0))) (c + 1) (sl + len)) : zAW G M XF QF pc lo (vi z :: st) n h c sl := by
  intro p e s m args below meth cd F H locs ls hz hw hs hl
  subst hlen
  have hir : iR (len : Int) := ⟨by omega, by omega⟩
  refine va_newaK (atype := .long) F.1 F.2.1 (F.2.2.2.2.1 _ ha) rfl hd rfl (by rw [show (0 : Int32) = iZ 0 from rfl, iZ_lt hir zR0]; omega) (by rw [iZ_clamp hir]; exact Int.toNat_natCast len) (by show len * _ ≤ _; simp only [newarray.typeOf, componentBytes]; omega) hc hsl hz fun H1 cA e1 z1 o1 hAr hNm => ?_
  have hcA : cA = zgT G 1 := by
    have h9 := (F.2.2.2.2.2.1.2.1.2 1 _ rfl).2
    exact Option.some.inj (hNm.symm.trans h9)
  subst hcA
  rw [← hz] at o1
  refine k p e s m args below meth cd F H1 locs ls (by omega) (hw.push hz ?_ o1) (zS_push hs (by omega) o1) hl
  exact e1
theorem zr_newZ {z : Int} {len : Nat} (hlen : z = (len : Int)) (hn : len < 60000000) (ha : Cond.arrayClass .boolean ∈ TG) (hc : c + 1 ≤ (zmr M).cells) (hsl : sl + len ≤ (zmr M).slots) (hd : decode M.2.1 pc = .ok (.newarray .boolean, 2))
    (k : zAW G M XF QF (pc + 2) lo (.ref n :: st) (n + 1) (zup h n (aZ len (fun _ => 0))) (c + 1) (sl + len)) : zAW G M XF QF pc lo (vi z :: st) n h c sl := by
  intro p e s m args below meth cd F H locs ls hz hw hs hl
  subst hlen
  have hir : iR (len : Int) := ⟨by omega, by omega⟩
  refine va_newaK (atype := .boolean) F.1 F.2.1 (F.2.2.2.2.1 _ ha) rfl hd rfl (by rw [show (0 : Int32) = iZ 0 from rfl, iZ_lt hir zR0]; omega) (by rw [iZ_clamp hir]; exact Int.toNat_natCast len) (by show len * _ ≤ _; simp only [newarray.typeOf, componentBytes]; omega) hc hsl hz fun H1 cA e1 z1 o1 hAr hNm => ?_
  have hcA : cA = zgT G 2 := by
    have h9 := (F.2.2.2.2.2.1.2.1.2 2 _ rfl).2
    exact Option.some.inj (hNm.symm.trans h9)
  subst hcA
  rw [← hz] at o1
  refine k p e s m args below meth cd F H1 locs ls (by omega) (hw.push hz ?_ o1) (zS_push hs (by omega) o1) hl
  exact e1
theorem zr_newB {z : Int} {len : Nat} (hlen : z = (len : Int)) (hn : len < 60000000) (ha : Cond.arrayClass .byte ∈ TG) (hc : c + 1 ≤ (zmr M).cells) (hsl : sl + len ≤ (zmr M).slots) (hd : decode M.2.1 pc = .ok (.newarray .byte, 2))
    (k : zAW G M XF QF (pc + 2) lo (.ref n :: st) (n + 1) (zup h n (aB len (fun _ => 0))) (c + 1) (sl + len)) : zAW G M XF QF pc lo (vi z :: st) n h c sl := by
  intro p e s m args below meth cd F H locs ls hz hw hs hl
  subst hlen
  have hir : iR (len : Int) := ⟨by omega, by omega⟩
  refine va_newaK (atype := .byte) F.1 F.2.1 (F.2.2.2.2.1 _ ha) rfl hd rfl (by rw [show (0 : Int32) = iZ 0 from rfl, iZ_lt hir zR0]; omega) (by rw [iZ_clamp hir]; exact Int.toNat_natCast len) (by show len * _ ≤ _; simp only [newarray.typeOf, componentBytes]; omega) hc hsl hz fun H1 cA e1 z1 o1 hAr hNm => ?_
  have hcA : cA = zgT G 3 := by
    have h9 := (F.2.2.2.2.2.1.2.1.2 3 _ rfl).2
    exact Option.some.inj (hNm.symm.trans h9)
  subst hcA
  rw [← hz] at o1
  refine k p e s m args below meth cd F H1 locs ls (by omega) (hw.push hz ?_ o1) (zS_push hs (by omega) o1) hl
  exact e1
theorem zr_mna {idx : Nat} {z1 z2 : Int} (hz1 : z1 = 4) (hz2 : z2 = 8) (hcl : Cond.classLink M.1.cls idx "[[J" ∈ TG) (ha : Cond.arrayClass .long ∈ TG) (hc : c + 5 ≤ (zmr M).cells) (hsl : sl + 36 ≤ (zmr M).slots) (hd : decode M.2.1 pc = .ok (.multianewarray idx 2, 4))
    (k : zAW G M XF QF (pc + 4) lo (.ref n :: st) (n + 5) (zup (zup (zup (zup (zup h n (aR 4 (fun i => if i < 4 then some (n + 1 + i) else none))) (n + 1) (aJ 8 (fun _ => 0))) (n + 2) (aJ 8 (fun _ => 0))) (n + 3) (aJ 8 (fun _ => 0))) (n + 4) (aJ 8 (fun _ => 0))) (c + 5) (sl + 36)) : zAW G M XF QF pc lo (vi z2 :: vi z1 :: st) n h c sl := by
  intro p e s m args below meth cd F H locs ls hz hw hs hl
  subst hz1; subst hz2
  intro T hT Xs
  obtain ⟨vm₁, cA, comp, -, fA, fC, hO, -, X', step⟩ := Xs.multianewarray2F (ty := .long) F.1 F.2.2.2.1 (F.2.2.2.2.1 _ hcl) (F.2.2.2.2.2.1.1) (F.2.2.2.2.1 _ ha) (g := F0 m pc ls (.int (iZ 8) :: .int (iZ 4) :: st.map (zv (zgb G)))) rfl (by rw [F.2.1]; exact hd) rfl (by decide) (by decide) (by decide) (by decide) (by decide) (by decide) (by decide) hc hsl
  have hcomp : comp = zgT G 1 := Option.some.inj (fC.symm.trans (F.2.2.2.2.2.1.2.1.2 1 _ rfl).2)
  have hcA : cA = zgT G 4 := Option.some.inj (fA.symm.trans (F.2.2.2.2.2.1.2.1.2 4 _ rfl).2)
  subst hcomp
  subst hcA
  have e4 : (iZ 4).toNatClampNeg = 4 := by decide
  have e8 : (iZ 8).toNatClampNeg = 8 := by decide
  rw [e4, e8] at X' step
  generalize hF : Jvm.Free.Multi.fill (T.setVm vm₁) (zgT G 4) (zgT G 1) 4 8 (defaultValue .long) 4 = U at X' step
  have hTh : (T.setVm vm₁).heap = H := hT
  obtain ⟨f1, f2, -, -⟩ := Jvm.Free.Multi.fill_facts (T.setVm vm₁) (zgT G 4) (zgT G 1) 4 8 (defaultValue .long) 4
  rw [hF, hTh] at f1 f2
  have hold : ∀ x : Nat, x < H.size → U.heap[x]? = H[x]? := fun x hx => by
    have := Jvm.Free.Multi.fill_old (T.setVm vm₁) (zgT G 4) (zgT G 1) 4 8 (defaultValue .long) (a := x) (by rw [hTh]; exact hx) 4
    rw [hF, hTh] at this
    exact this
  have hrow : ∀ j : Nat, j < 4 → U.heap[H.size + 1 + j]? = some (Jvm.Free.Multi.innerC (zgT G 1) 8 (defaultValue .long)) := fun j hj => by
    have := Jvm.Free.Multi.fill_inner (T.setVm vm₁) (zgT G 4) (zgT G 1) 4 8 (defaultValue .long) 4 j hj
    rw [hF, hTh] at this
    exact this
  have hin : Jvm.Free.Multi.innerC (zgT G 1) 8 (defaultValue .long) = vp_cell (zgT G 1) (8, .inr (.inl (fJ (fun _ => 0)))) := by
    show ({ cls := zgT G 1, slots := Array.replicate 8 (defaultValue .long), vm := .none } : Cell) = _
    rw [vp_cell_l, arrV_new]
    rfl
  rw [vr_outer, hz] at f2
  rw [hin, hz] at hrow
  have hw1 : zW G (zup (zup (zup (zup (zup h n (aR 4 (fun i => if i < 4 then some (n + 1 + i) else none))) (n + 1) (aJ 8 (fun _ => 0))) (n + 2) (aJ 8 (fun _ => 0))) (n + 3) (aJ 8 (fun _ => 0))) (n + 4) (aJ 8 (fun _ => 0))) U.heap := by
    intro k e he
    unfold zup at he
    by_cases k4 : k = n + 4
    · rw [if_pos k4] at he; cases he; subst k4; exact hrow 3 (by decide)
    rw [if_neg k4] at he
    by_cases k3 : k = n + 3
    · rw [if_pos k3] at he; cases he; subst k3; exact hrow 2 (by decide)
    rw [if_neg k3] at he
    by_cases k2 : k = n + 2
    · rw [if_pos k2] at he; cases he; subst k2; exact hrow 1 (by decide)
    rw [if_neg k2] at he
    by_cases k1 : k = n + 1
    · rw [if_pos k1] at he; cases he; subst k1; exact hrow 0 (by decide)
    rw [if_neg k1] at he
    by_cases k0 : k = n
    · rw [if_pos k0] at he; cases he; rw [k0]
      show U.heap[zgb G + n]? = some (vp_cell (zgT G 4) (4, .inr (.inr (.inr (.inr (fun j => Option.map (fun a => zgb G + a) (if j < 4 then some (n + 1 + j) else none)))))))
      rw [f2, vp_cell_q]
      congr 2
      funext j
      by_cases hj : j < 4
      · rw [if_pos hj, if_pos hj]
        show Value.ref (zgb G + n + 1 + j) = Value.ref (zgb G + (n + 1 + j))
        rw [show zgb G + (n + 1 + j) = zgb G + n + 1 + j from by rw [← Nat.add_assoc, ← Nat.add_assoc]]
      · rw [if_neg hj, if_neg hj]
        rfl
    rw [if_neg k0] at he
    exact (hw k e he).kept (hold _ (hw k e he).lt)
  obtain ⟨t, a1, b1⟩ := k p e s m args below meth cd F U.heap locs ls (by rw [f1, hz]; omega) hw1 (zS_push hs (by rw [f1]; omega) hold) hl U rfl X'
  refine ⟨t, step t ?_, b1⟩
  rw [hT, hz]
  exact a1
/-! calls -/
def zHd (y : MethodName) (k : Nat) : Prop := y.cls ≠ "java/lang/invoke/MethodHandle" ∧ y.cls ≠ "java/lang/invoke/VarHandle" ∧ (parseMethodDescriptor y.desc).map (fun d => d.parameters.length) = some k
/-- the words of a call: the callee's code, its class; names; the room -/
def zCB (M M' : zM) (k : Nat) : Prop := Cond.code M'.1 M'.2.1 (zmL M') (zmt M') ∈ TG ∧ Cond.initialized M'.1.cls ∈ TG ∧ zHd M'.1 k ∧ (zmr M').frames + 1 ≤ (zmr M).frames ∧ 8 + (zmL M' + 11) + (zmr M').locals ≤ (zmr M).locals
def zCV (M : zM) (idx : Nat) (M' : zM) (k : Nat) : Prop := zCB M M' k ∧ Cond.methodLink M.1.cls idx M'.1 ∈ TG ∧ Cond.instanceMethod M'.1 ∈ TG ∧ Cond.selects M'.1.cls M'.1 M'.1 ∈ TG
def zCS (M : zM) (idx : Nat) (M' : zM) (k : Nat) : Prop := zCB M M' k ∧ Cond.methodLink M.1.cls idx M'.1 ∈ TG ∧ Cond.static M'.1 ∈ TG
def zCI (M : zM) (idx : Nat) (M' : zM) (k : Nat) : Prop := zCB M M' k ∧ Cond.methodLink M.1.cls idx M'.1 ∈ TG ∧ Cond.instanceMethod M'.1 ∈ TG ∧ M'.1.name = "<init>" ∧ zmt M' = none
def zCN (M : zM) (idx : Nat) (M' : zM) (k : Nat) : Prop := zCB M M' k ∧ Cond.methodLinkNest M.1.cls idx M'.1 "RoadOffice" ∈ zNests ∧ Cond.static M'.1 ∈ TG
/-- behind a call that ran -/
theorem zcall {M' : zM} {a : Array Value} {p : Program} {e : Env} {s : State} {m : MethodId} {args : Array Value} {below : List Frame} {meth : Method} {cd : Code} {H : Heap} {locs : List Loc} {ls : Array Slot} {Sk : List Value}
    (F : zFX G M XF p s m args meth cd) (hs : va_S (zAr G) s.heap H locs) (hl : zL (zgb G) ls (zmL M) lo)
    (run : va_Run p (zgl G) e (zmr M) s m args below meth cd H locs c sl (zmr M').cells (zmr M').slots (F0 m pc ls Sk) (st.map (zv (zgb G))) (zQc G (fun r n' h' => zAW G M XF QF (pc + 3) lo (r.toList ++ st) n' h' (c + (zmr M').cells) (sl + (zmr M').slots)) a) (zAr G)) :
    W p (zgl G) e (zmr M) s m args below meth cd H locs c sl (QF below args s) (F0 m pc ls Sk) := by
  intro T hT X
  obtain ⟨v, st₀, t, T', L, h0, X', hL, e1, e2, ⟨r, n', h', q1, q2, q3, q4, q5⟩, go⟩ := run T hT X
  have hv : v = r.map (zv (zgb G)) := by cases q1; rfl
  subst hv
  have hS' : va_S (zAr G) s.heap T'.heap (locs ++ L) := by
    refine ⟨?_, fun q h1 h2 => ?_, fun q hq => ?_⟩
    · rw [e1]; exact Nat.le_trans hs.1 (by rw [← h0]; exact q5.1)
    · rw [e1, q5.2 q (by rw [h0]; exact Nat.lt_of_lt_of_le h1 hs.1) h2, h0]; exact hs.2.1 q h1 h2
    · rcases List.mem_append.mp hq with h1 | h1
      · exact hs.2.2 q h1
      · exact hL q h1
  have K := q4 p e s m args below meth cd F T'.heap (locs ++ L) ls (by rw [e1]; exact q2) (by rw [e1]; exact q3) hS' hl
  obtain ⟨u, a1, b1⟩ := K T' rfl X'
  refine ⟨u, go u ?_, b1⟩
  have hst : (r.toList ++ st).map (zv (zgb G)) = (r.map (zv (zgb G))).toList ++ st.map (zv (zgb G)) := by cases r <;> simp
  rw [hst] at a1
  exact a1
theorem zPre {p : Program} {s : State} {m : MethodId} {args : Array Value} {meth : Method} {cd : Code} {H : Heap} {locs : List Loc} {As : List Value} (F : zFX G M XF p s m args meth cd) (hz : H.size = zgb G + n) (hw : zW G h H) (hs : va_S (zAr G) s.heap H locs) : ∀ U : State, U.heap = H → s.WarmedH U.vm → zPc G As n h (As.map (zv (zgb G))).toArray U :=
  fun U hU hW => ⟨rfl, by rw [hU]; exact hz, by rw [hU]; exact hw, F.2.2.2.2.2.1.moved hW hs hU⟩
theorem zCB.of {M' : zM} {kk : Nat} {p : Program} {s : State} {m : MethodId} {args : Array Value} {meth : Method} {cd : Code} {idx : Nat} (F : zFX G M XF p s m args meth cd) (hC : zCB M M' kk) (hml : Cond.methodLink M.1.cls idx M'.1 ∈ TG) : CallB (zmr M) s args M.1.cls idx M'.1 M'.2.1 (zmL M') (zmt M') (Cond.code M'.1 M'.2.1 (zmL M') (zmt M') :: TG) (zmr M') (zmr M').cells (zmr M').slots kk := by
  obtain ⟨c1, c2, c3, c4, c5⟩ := hC
  exact callB_of kk F.2.2.2.2.1 (TG_in c1) rfl rfl rfl (F.2.2.2.2.1 _ c2) (F.2.2.2.2.1 _ hml) c3 ⟨c4, c5⟩
theorem zroom {S : List Value} {b : Nat} {m : MethodId} {q : Nat} {ls : Array Slot} {r : List Value} (h : (S.map fun v => v.category).sum ≤ 8) : 2 * (F0 m q ls r).monitorRoom + ((S.map (zv b)).map fun v => v.category).sum ≤ 8 := by
  refine lv_room ?_
  rw [List.map_map]
  have : (fun v => v.category) ∘ zv b = fun v => v.category := funext (fun v => zv_cat b v)
  rw [this]
  exact h
theorem zr_callV {M' : zM} {As : List Value} {a ci kk idx : Nat} {fs : List Value} (hC : zCV M idx M' kk) (hk : As.length = kk) (hh : h a = some (.inr (ci, fs))) (hci : ∃ r, vwCl[ci]? = some r ∧ r.1 = M'.1.cls) (hst : (st.map fun v => v.category).sum ≤ 8) (hf : c + (zmr M').cells ≤ (zmr M).cells ∧ sl + (zmr M').slots ≤ (zmr M).slots) (hd : decode M.2.1 pc = .ok (.invokevirtual idx, 3))
    (k : zMP G M' (.ref a :: As) n h (fun r n' h' => zAW G M XF QF (pc + 3) lo (r.toList ++ st) n' h' (c + (zmr M').cells) (sl + (zmr M').slots))) : zAW G M XF QF pc lo (As.reverse ++ .ref a :: st) n h c sl := by
  intro p e s m args below meth cd F H locs ls hz hw hs hl
  obtain ⟨hB, h1, h2, h3⟩ := hC
  obtain ⟨r, hr1, hr2⟩ := hci
  have hcell : ∃ cellB : Cell, H[zgb G + a]? = some cellB ∧ cellB.vm.isStatics = false ∧ s.vm.findClass M'.1.cls = some cellB.cls := by
    obtain ⟨r', q1, cell, g1, g2, g3, -⟩ := hw a _ hh
    have hrr : r' = r := Option.some.inj (q1.symm.trans hr1)
    subst hrr
    exact ⟨cell, g1, by rw [g3]; rfl, by rw [g2, ← hr2]; exact (F.2.2.2.2.2.1.2.1.1 ci _ hr1).2.1⟩
  have hpre := zPre (As := .ref a :: As) F hz hw hs
  have run := va_runV (b := zgb G + a) (As := As.map (zv (zgb G))) (rest := st.map (zv (zgb G))) (g := F0 m pc ls ((As.reverse ++ .ref a :: st).map (zv (zgb G)))) (e := e) (meth := meth) (below := below) (cells := c) (slots := sl) (locs := locs) (H := H) ⟨F.1, F.2.1, F.2.2.1, F.2.2.2.1, F.2.2.2.2.1⟩ k ⟨hB.of F h1, F.2.2.2.2.1 _ h2, F.2.2.2.2.1 _ h3⟩ ⟨zPc_blind, hcell, hpre⟩ rfl (by rw [List.length_map]; exact hk) hl.1 (by show (As.reverse ++ .ref a :: st).map (zv (zgb G)) = _; rw [List.map_append, List.map_reverse]; rfl) (zroom hst) hd hf
  exact zcall F hs hl run
theorem zr_callS {M' : zM} {As : List Value} {kk idx : Nat} (hC : zCS M idx M' kk) (hk : As.length = kk) (hst : (st.map fun v => v.category).sum ≤ 8) (hf : c + (zmr M').cells ≤ (zmr M).cells ∧ sl + (zmr M').slots ≤ (zmr M).slots) (hd : decode M.2.1 pc = .ok (.invokestatic idx, 3))
    (k : zMP G M' As n h (fun r n' h' => zAW G M XF QF (pc + 3) lo (r.toList ++ st) n' h' (c + (zmr M').cells) (sl + (zmr M').slots))) : zAW G M XF QF pc lo (As.reverse ++ st) n h c sl := by
  intro p e s m args below meth cd F H locs ls hz hw hs hl
  obtain ⟨hB, h1, h2⟩ := hC
  have run := va_runS (As := As.map (zv (zgb G))) (rest := st.map (zv (zgb G))) (g := F0 m pc ls ((As.reverse ++ st).map (zv (zgb G)))) (e := e) (meth := meth) (below := below) (cells := c) (slots := sl) (locs := locs) (H := H) ⟨F.1, F.2.1, F.2.2.1, F.2.2.2.1, F.2.2.2.2.1⟩ k ⟨hB.of F h1, F.2.2.2.2.1 _ h2⟩ ⟨zPc_blind, zPre F hz hw hs⟩ rfl (by rw [List.length_map]; exact hk) hl.1 (by show (As.reverse ++ st).map (zv (zgb G)) = _; rw [List.map_append, List.map_reverse]) (zroom hst) hd hf
  exact zcall F hs hl run
theorem zr_callN {M' : zM} {As : List Value} {kk idx : Nat} (hC : zCN M idx M' kk) (hk : As.length = kk) (hst : (st.map fun v => v.category).sum ≤ 8) (hf : c + (zmr M').cells ≤ (zmr M).cells ∧ sl + (zmr M').slots ≤ (zmr M).slots) (hd : decode M.2.1 pc = .ok (.invokestatic idx, 3))
    (k : zMP G M' As n h (fun r n' h' => zAW G M XF QF (pc + 3) lo (r.toList ++ st) n' h' (c + (zmr M').cells) (sl + (zmr M').slots))) : zAW G M XF QF pc lo (As.reverse ++ st) n h c sl := by
  intro p e s m args below meth cd F H locs ls hz hw hs hl
  obtain ⟨⟨c1, c2, c3, c4, c5⟩, h1, h2⟩ := hC
  have cn : va_CN (zmr M) s args M.1.cls idx M'.1 "RoadOffice" M'.2.1 (zmL M') (zmt M') (Cond.code M'.1 M'.2.1 (zmL M') (zmt M') :: TG) (zmr M') (zmr M').cells (zmr M').slots kk := va_cnB kk F.2.2.2.2.1 (TG_in c1) rfl rfl rfl (F.2.2.2.2.2.1.2.2.1 _ h1) (F.2.2.2.2.1 _ c2) c3 ⟨c4, c5⟩
  have run := va_runSN (As := As.map (zv (zgb G))) (rest := st.map (zv (zgb G))) (g := F0 m pc ls ((As.reverse ++ st).map (zv (zgb G)))) (e := e) (meth := meth) (below := below) (cells := c) (slots := sl) (locs := locs) (H := H) ⟨F.1, F.2.1, F.2.2.1, F.2.2.2.1, F.2.2.2.2.1⟩ k ⟨cn, F.2.2.2.2.1 _ h2, trivial⟩ ⟨zPc_blind, zPre F hz hw hs⟩ rfl (by rw [List.length_map]; exact hk) hl.1 (by show (As.reverse ++ st).map (zv (zgb G)) = _; rw [List.map_append, List.map_reverse]) (zroom hst) hd hf
  exact zcall F hs hl run
theorem zr_callI {M' : zM} {As : List Value} {a kk idx : Nat} (hC : zCI M idx M' kk) (hk : As.length = kk) (hst : (st.map fun v => v.category).sum ≤ 8) (hf : c + (zmr M').cells ≤ (zmr M).cells ∧ sl + (zmr M').slots ≤ (zmr M).slots) (hd : decode M.2.1 pc = .ok (.invokespecial idx, 3))
    (k : zMP G M' (.ref a :: As) n h (fun r n' h' => zAW G M XF QF (pc + 3) lo (r.toList ++ st) n' h' (c + (zmr M').cells) (sl + (zmr M').slots))) : zAW G M XF QF pc lo (As.reverse ++ .ref a :: st) n h c sl := by
  intro p e s m args below meth cd F H locs ls hz hw hs hl
  obtain ⟨hB, h1, h2, h3, h4⟩ := hC
  have hpre := zPre (As := .ref a :: As) F hz hw hs
  have cb := hB.of F h1
  unfold zMP at k
  rw [h4] at cb k
  have run := va_runI (b := zgb G + a) (As := As.map (zv (zgb G))) (rest := st.map (zv (zgb G))) (g := F0 m pc ls ((As.reverse ++ .ref a :: st).map (zv (zgb G)))) (e := e) (meth := meth) (below := below) (cells := c) (slots := sl) (locs := locs) (H := H) ⟨F.1, F.2.1, F.2.2.1, F.2.2.2.1, F.2.2.2.2.1⟩ k ⟨cb, h3, F.2.2.2.2.1 _ h2⟩ ⟨zPc_blind, hpre⟩ rfl (by rw [List.length_map]; exact hk) hl.1 (by show (As.reverse ++ .ref a :: st).map (zv (zgb G)) = _; rw [List.map_append, List.map_reverse]; rfl) (zroom hst) hd hf
  exact zcall F hs hl run
theorem zr_objInit {a idx : Nat} (hl1 : Cond.methodLink M.1.cls idx Lib.objectInit ∈ TG) (hl2 : Cond.instanceMethod Lib.objectInit ∈ TG) (hl3 : Cond.code Lib.objectInit ⟨#[0xb1]⟩ 1 none ∈ TG) (hfr : 1 ≤ (zmr M).frames) (hlc : (st.map fun v => v.category).sum + 12 ≤ (zmr M).locals) (hd : decode M.2.1 pc = .ok (.invokespecial idx, 3))
    (k : zAW G M XF QF (pc + 3) lo st n h c sl) : zAW G M XF QF pc lo (.ref a :: st) n h c sl := by
  intro p e s m args below meth cd F H locs ls hz hw hs hl
  have hts := F.2.2.2.2.1
  refine W.objInit F.1 F.2.1 F.2.2.2.1 (hts _ hl1) (hts _ hl2) (hts _ hl3) rfl (hl.1.trans F.2.2.1.symm) rfl hd hfr ?_ (k p e s m args below meth cd F H locs ls hz hw hs hl)
  show 2 * 0 + _ + 12 ≤ _
  have e1 : (fun v => v.category) ∘ zv (zgb G) = fun v => v.category := funext (fun v => zv_cat (zgb G) v)
  rw [List.map_map, e1]
  omega
end ZC
section ZD
variable {G : zG} {M M' : zM} {XF : Array Value → State → Code → Prop} {QF : List Frame → Array Value → State → State → Prop} {pc : Nat} {lo : List (Option Value)} {st : List Value} {n : Nat} {h : zH} {c sl : Nat}
theorem zv_call0 {a ci idx : Nat} {fs : List Value} (hC : zCV M idx M' 0) (hh : h a = some (.inr (ci, fs))) (hci : ∃ r, vwCl[ci]? = some r ∧ r.1 = M'.1.cls) (hst : (st.map fun v => v.category).sum ≤ 8) (hf : c + (zmr M').cells ≤ (zmr M).cells ∧ sl + (zmr M').slots ≤ (zmr M).slots) (hd : decode M.2.1 pc = .ok (.invokevirtual idx, 3)) (k : zMP G M' (.ref a :: []) n h (fun r n' h' => zAW G M XF QF (pc + 3) lo (r.toList ++ st) n' h' (c + (zmr M').cells) (sl + (zmr M').slots))) : zAW G M XF QF pc lo (.ref a :: st) n h c sl := zr_callV (As := []) hC rfl hh hci hst hf hd k
theorem zi_call0 {a idx : Nat} (hC : zCI M idx M' 0) (hst : (st.map fun v => v.category).sum ≤ 8) (hf : c + (zmr M').cells ≤ (zmr M).cells ∧ sl + (zmr M').slots ≤ (zmr M).slots) (hd : decode M.2.1 pc = .ok (.invokespecial idx, 3)) (k : zMP G M' (.ref a :: []) n h (fun r n' h' => zAW G M XF QF (pc + 3) lo (r.toList ++ st) n' h' (c + (zmr M').cells) (sl + (zmr M').slots))) : zAW G M XF QF pc lo (.ref a :: st) n h c sl := zr_callI (As := []) hC rfl hst hf hd k
theorem zc_call0 {idx : Nat} (hC : zCS M idx M' 0) (hst : (st.map fun v => v.category).sum ≤ 8) (hf : c + (zmr M').cells ≤ (zmr M).cells ∧ sl + (zmr M').slots ≤ (zmr M).slots) (hd : decode M.2.1 pc = .ok (.invokestatic idx, 3)) (k : zMP G M' [] n h (fun r n' h' => zAW G M XF QF (pc + 3) lo (r.toList ++ st) n' h' (c + (zmr M').cells) (sl + (zmr M').slots))) : zAW G M XF QF pc lo (st) n h c sl := zr_callS (As := []) hC rfl hst hf hd k
theorem zv_call1 {v0 : Value} {a ci idx : Nat} {fs : List Value} (hC : zCV M idx M' 1) (hh : h a = some (.inr (ci, fs))) (hci : ∃ r, vwCl[ci]? = some r ∧ r.1 = M'.1.cls) (hst : (st.map fun v => v.category).sum ≤ 8) (hf : c + (zmr M').cells ≤ (zmr M).cells ∧ sl + (zmr M').slots ≤ (zmr M).slots) (hd : decode M.2.1 pc = .ok (.invokevirtual idx, 3)) (k : zMP G M' (.ref a :: [v0]) n h (fun r n' h' => zAW G M XF QF (pc + 3) lo (r.toList ++ st) n' h' (c + (zmr M').cells) (sl + (zmr M').slots))) : zAW G M XF QF pc lo (v0 :: .ref a :: st) n h c sl := zr_callV (As := [v0]) hC rfl hh hci hst hf hd k
theorem zi_call1 {v0 : Value} {a idx : Nat} (hC : zCI M idx M' 1) (hst : (st.map fun v => v.category).sum ≤ 8) (hf : c + (zmr M').cells ≤ (zmr M).cells ∧ sl + (zmr M').slots ≤ (zmr M).slots) (hd : decode M.2.1 pc = .ok (.invokespecial idx, 3)) (k : zMP G M' (.ref a :: [v0]) n h (fun r n' h' => zAW G M XF QF (pc + 3) lo (r.toList ++ st) n' h' (c + (zmr M').cells) (sl + (zmr M').slots))) : zAW G M XF QF pc lo (v0 :: .ref a :: st) n h c sl := zr_callI (As := [v0]) hC rfl hst hf hd k
theorem zc_call1 {v0 : Value} {idx : Nat} (hC : zCS M idx M' 1) (hst : (st.map fun v => v.category).sum ≤ 8) (hf : c + (zmr M').cells ≤ (zmr M).cells ∧ sl + (zmr M').slots ≤ (zmr M).slots) (hd : decode M.2.1 pc = .ok (.invokestatic idx, 3)) (k : zMP G M' [v0] n h (fun r n' h' => zAW G M XF QF (pc + 3) lo (r.toList ++ st) n' h' (c + (zmr M').cells) (sl + (zmr M').slots))) : zAW G M XF QF pc lo (v0 :: st) n h c sl := zr_callS (As := [v0]) hC rfl hst hf hd k
theorem zv_call2 {v0 v1 : Value} {a ci idx : Nat} {fs : List Value} (hC : zCV M idx M' 2) (hh : h a = some (.inr (ci, fs))) (hci : ∃ r, vwCl[ci]? = some r ∧ r.1 = M'.1.cls) (hst : (st.map fun v => v.category).sum ≤ 8) (hf : c + (zmr M').cells ≤ (zmr M).cells ∧ sl + (zmr M').slots ≤ (zmr M).slots) (hd : decode M.2.1 pc = .ok (.invokevirtual idx, 3)) (k : zMP G M' (.ref a :: [v0, v1]) n h (fun r n' h' => zAW G M XF QF (pc + 3) lo (r.toList ++ st) n' h' (c + (zmr M').cells) (sl + (zmr M').slots))) : zAW G M XF QF pc lo (v1 :: v0 :: .ref a :: st) n h c sl := zr_callV (As := [v0, v1]) hC rfl hh hci hst hf hd k
theorem zi_call2 {v0 v1 : Value} {a idx : Nat} (hC : zCI M idx M' 2) (hst : (st.map fun v => v.category).sum ≤ 8) (hf : c + (zmr M').cells ≤ (zmr M).cells ∧ sl + (zmr M').slots ≤ (zmr M).slots) (hd : decode M.2.1 pc = .ok (.invokespecial idx, 3)) (k : zMP G M' (.ref a :: [v0, v1]) n h (fun r n' h' => zAW G M XF QF (pc + 3) lo (r.toList ++ st) n' h' (c + (zmr M').cells) (sl + (zmr M').slots))) : zAW G M XF QF pc lo (v1 :: v0 :: .ref a :: st) n h c sl := zr_callI (As := [v0, v1]) hC rfl hst hf hd k
theorem zc_call2 {v0 v1 : Value} {idx : Nat} (hC : zCS M idx M' 2) (hst : (st.map fun v => v.category).sum ≤ 8) (hf : c + (zmr M').cells ≤ (zmr M).cells ∧ sl + (zmr M').slots ≤ (zmr M).slots) (hd : decode M.2.1 pc = .ok (.invokestatic idx, 3)) (k : zMP G M' [v0, v1] n h (fun r n' h' => zAW G M XF QF (pc + 3) lo (r.toList ++ st) n' h' (c + (zmr M').cells) (sl + (zmr M').slots))) : zAW G M XF QF pc lo (v1 :: v0 :: st) n h c sl := zr_callS (As := [v0, v1]) hC rfl hst hf hd k
theorem zn_call2 {v0 v1 : Value} {idx : Nat} (hC : zCN M idx M' 2) (hst : (st.map fun v => v.category).sum ≤ 8) (hf : c + (zmr M').cells ≤ (zmr M).cells ∧ sl + (zmr M').slots ≤ (zmr M).slots) (hd : decode M.2.1 pc = .ok (.invokestatic idx, 3)) (k : zMP G M' [v0, v1] n h (fun r n' h' => zAW G M XF QF (pc + 3) lo (r.toList ++ st) n' h' (c + (zmr M').cells) (sl + (zmr M').slots))) : zAW G M XF QF pc lo (v1 :: v0 :: st) n h c sl := zr_callN (As := [v0, v1]) hC rfl hst hf hd k
theorem zv_call3 {v0 v1 v2 : Value} {a ci idx : Nat} {fs : List Value} (hC : zCV M idx M' 3) (hh : h a = some (.inr (ci, fs))) (hci : ∃ r, vwCl[ci]? = some r ∧ r.1 = M'.1.cls) (hst : (st.map fun v => v.category).sum ≤ 8) (hf : c + (zmr M').cells ≤ (zmr M).cells ∧ sl + (zmr M').slots ≤ (zmr M).slots) (hd : decode M.2.1 pc = .ok (.invokevirtual idx, 3)) (k : zMP G M' (.ref a :: [v0, v1, v2]) n h (fun r n' h' => zAW G M XF QF (pc + 3) lo (r.toList ++ st) n' h' (c + (zmr M').cells) (sl + (zmr M').slots))) : zAW G M XF QF pc lo (v2 :: v1 :: v0 :: .ref a :: st) n h c sl := zr_callV (As := [v0, v1, v2]) hC rfl hh hci hst hf hd k
theorem zi_call3 {v0 v1 v2 : Value} {a idx : Nat} (hC : zCI M idx M' 3) (hst : (st.map fun v => v.category).sum ≤ 8) (hf : c + (zmr M').cells ≤ (zmr M).cells ∧ sl + (zmr M').slots ≤ (zmr M).slots) (hd : decode M.2.1 pc = .ok (.invokespecial idx, 3)) (k : zMP G M' (.ref a :: [v0, v1, v2]) n h (fun r n' h' => zAW G M XF QF (pc + 3) lo (r.toList ++ st) n' h' (c + (zmr M').cells) (sl + (zmr M').slots))) : zAW G M XF QF pc lo (v2 :: v1 :: v0 :: .ref a :: st) n h c sl := zr_callI (As := [v0, v1, v2]) hC rfl hst hf hd k
theorem zc_call3 {v0 v1 v2 : Value} {idx : Nat} (hC : zCS M idx M' 3) (hst : (st.map fun v => v.category).sum ≤ 8) (hf : c + (zmr M').cells ≤ (zmr M).cells ∧ sl + (zmr M').slots ≤ (zmr M).slots) (hd : decode M.2.1 pc = .ok (.invokestatic idx, 3)) (k : zMP G M' [v0, v1, v2] n h (fun r n' h' => zAW G M XF QF (pc + 3) lo (r.toList ++ st) n' h' (c + (zmr M').cells) (sl + (zmr M').slots))) : zAW G M XF QF pc lo (v2 :: v1 :: v0 :: st) n h c sl := zr_callS (As := [v0, v1, v2]) hC rfl hst hf hd k
theorem zv_call4 {v0 v1 v2 v3 : Value} {a ci idx : Nat} {fs : List Value} (hC : zCV M idx M' 4) (hh : h a = some (.inr (ci, fs))) (hci : ∃ r, vwCl[ci]? = some r ∧ r.1 = M'.1.cls) (hst : (st.map fun v => v.category).sum ≤ 8) (hf : c + (zmr M').cells ≤ (zmr M).cells ∧ sl + (zmr M').slots ≤ (zmr M).slots) (hd : decode M.2.1 pc = .ok (.invokevirtual idx, 3)) (k : zMP G M' (.ref a :: [v0, v1, v2, v3]) n h (fun r n' h' => zAW G M XF QF (pc + 3) lo (r.toList ++ st) n' h' (c + (zmr M').cells) (sl + (zmr M').slots))) : zAW G M XF QF pc lo (v3 :: v2 :: v1 :: v0 :: .ref a :: st) n h c sl := zr_callV (As := [v0, v1, v2, v3]) hC rfl hh hci hst hf hd k
theorem zi_call4 {v0 v1 v2 v3 : Value} {a idx : Nat} (hC : zCI M idx M' 4) (hst : (st.map fun v => v.category).sum ≤ 8) (hf : c + (zmr M').cells ≤ (zmr M).cells ∧ sl + (zmr M').slots ≤ (zmr M).slots) (hd : decode M.2.1 pc = .ok (.invokespecial idx, 3)) (k : zMP G M' (.ref a :: [v0, v1, v2, v3]) n h (fun r n' h' => zAW G M XF QF (pc + 3) lo (r.toList ++ st) n' h' (c + (zmr M').cells) (sl + (zmr M').slots))) : zAW G M XF QF pc lo (v3 :: v2 :: v1 :: v0 :: .ref a :: st) n h c sl := zr_callI (As := [v0, v1, v2, v3]) hC rfl hst hf hd k
theorem zc_call4 {v0 v1 v2 v3 : Value} {idx : Nat} (hC : zCS M idx M' 4) (hst : (st.map fun v => v.category).sum ≤ 8) (hf : c + (zmr M').cells ≤ (zmr M).cells ∧ sl + (zmr M').slots ≤ (zmr M).slots) (hd : decode M.2.1 pc = .ok (.invokestatic idx, 3)) (k : zMP G M' [v0, v1, v2, v3] n h (fun r n' h' => zAW G M XF QF (pc + 3) lo (r.toList ++ st) n' h' (c + (zmr M').cells) (sl + (zmr M').slots))) : zAW G M XF QF pc lo (v3 :: v2 :: v1 :: v0 :: st) n h c sl := zr_callS (As := [v0, v1, v2, v3]) hC rfl hst hf hd k
theorem zv_call5 {v0 v1 v2 v3 v4 : Value} {a ci idx : Nat} {fs : List Value} (hC : zCV M idx M' 5) (hh : h a = some (.inr (ci, fs))) (hci : ∃ r, vwCl[ci]? = some r ∧ r.1 = M'.1.cls) (hst : (st.map fun v => v.category).sum ≤ 8) (hf : c + (zmr M').cells ≤ (zmr M).cells ∧ sl + (zmr M').slots ≤ (zmr M).slots) (hd : decode M.2.1 pc = .ok (.invokevirtual idx, 3)) (k : zMP G M' (.ref a :: [v0, v1, v2, v3, v4]) n h (fun r n' h' => zAW G M XF QF (pc + 3) lo (r.toList ++ st) n' h' (c + (zmr M').cells) (sl + (zmr M').slots))) : zAW G M XF QF pc lo (v4 :: v3 :: v2 :: v1 :: v0 :: .ref a :: st) n h c sl := zr_callV (As := [v0, v1, v2, v3, v4]) hC rfl hh hci hst hf hd k
theorem zi_call5 {v0 v1 v2 v3 v4 : Value} {a idx : Nat} (hC : zCI M idx M' 5) (hst : (st.map fun v => v.category).sum ≤ 8) (hf : c + (zmr M').cells ≤ (zmr M).cells ∧ sl + (zmr M').slots ≤ (zmr M).slots) (hd : decode M.2.1 pc = .ok (.invokespecial idx, 3)) (k : zMP G M' (.ref a :: [v0, v1, v2, v3, v4]) n h (fun r n' h' => zAW G M XF QF (pc + 3) lo (r.toList ++ st) n' h' (c + (zmr M').cells) (sl + (zmr M').slots))) : zAW G M XF QF pc lo (v4 :: v3 :: v2 :: v1 :: v0 :: .ref a :: st) n h c sl := zr_callI (As := [v0, v1, v2, v3, v4]) hC rfl hst hf hd k
theorem zc_call5 {v0 v1 v2 v3 v4 : Value} {idx : Nat} (hC : zCS M idx M' 5) (hst : (st.map fun v => v.category).sum ≤ 8) (hf : c + (zmr M').cells ≤ (zmr M).cells ∧ sl + (zmr M').slots ≤ (zmr M).slots) (hd : decode M.2.1 pc = .ok (.invokestatic idx, 3)) (k : zMP G M' [v0, v1, v2, v3, v4] n h (fun r n' h' => zAW G M XF QF (pc + 3) lo (r.toList ++ st) n' h' (c + (zmr M').cells) (sl + (zmr M').slots))) : zAW G M XF QF pc lo (v4 :: v3 :: v2 :: v1 :: v0 :: st) n h c sl := zr_callS (As := [v0, v1, v2, v3, v4]) hC rfl hst hf hd k
theorem zv_call6 {v0 v1 v2 v3 v4 v5 : Value} {a ci idx : Nat} {fs : List Value} (hC : zCV M idx M' 6) (hh : h a = some (.inr (ci, fs))) (hci : ∃ r, vwCl[ci]? = some r ∧ r.1 = M'.1.cls) (hst : (st.map fun v => v.category).sum ≤ 8) (hf : c + (zmr M').cells ≤ (zmr M).cells ∧ sl + (zmr M').slots ≤ (zmr M).slots) (hd : decode M.2.1 pc = .ok (.invokevirtual idx, 3)) (k : zMP G M' (.ref a :: [v0, v1, v2, v3, v4, v5]) n h (fun r n' h' => zAW G M XF QF (pc + 3) lo (r.toList ++ st) n' h' (c + (zmr M').cells) (sl + (zmr M').slots))) : zAW G M XF QF pc lo (v5 :: v4 :: v3 :: v2 :: v1 :: v0 :: .ref a :: st) n h c sl := zr_callV (As := [v0, v1, v2, v3, v4, v5]) hC rfl hh hci hst hf hd k
theorem zi_call6 {v0 v1 v2 v3 v4 v5 : Value} {a idx : Nat} (hC : zCI M idx M' 6) (hst : (st.map fun v => v.category).sum ≤ 8) (hf : c + (zmr M').cells ≤ (zmr M).cells ∧ sl + (zmr M').slots ≤ (zmr M).slots) (hd : decode M.2.1 pc = .ok (.invokespecial idx, 3)) (k : zMP G M' (.ref a :: [v0, v1, v2, v3, v4, v5]) n h (fun r n' h' => zAW G M XF QF (pc + 3) lo (r.toList ++ st) n' h' (c + (zmr M').cells) (sl + (zmr M').slots))) : zAW G M XF QF pc lo (v5 :: v4 :: v3 :: v2 :: v1 :: v0 :: .ref a :: st) n h c sl := zr_callI (As := [v0, v1, v2, v3, v4, v5]) hC rfl hst hf hd k
theorem zc_call6 {v0 v1 v2 v3 v4 v5 : Value} {idx : Nat} (hC : zCS M idx M' 6) (hst : (st.map fun v => v.category).sum ≤ 8) (hf : c + (zmr M').cells ≤ (zmr M).cells ∧ sl + (zmr M').slots ≤ (zmr M).slots) (hd : decode M.2.1 pc = .ok (.invokestatic idx, 3)) (k : zMP G M' [v0, v1, v2, v3, v4, v5] n h (fun r n' h' => zAW G M XF QF (pc + 3) lo (r.toList ++ st) n' h' (c + (zmr M').cells) (sl + (zmr M').slots))) : zAW G M XF QF pc lo (v5 :: v4 :: v3 :: v2 :: v1 :: v0 :: st) n h c sl := zr_callS (As := [v0, v1, v2, v3, v4, v5]) hC rfl hst hf hd k
end ZD
section ZE
variable {G : zG} {M : zM} {XF : Array Value → State → Code → Prop} {Post : Option Value → Nat → zH → Prop} {pc : Nat} {lo : List (Option Value)} {st : List Value} {n : Nat} {h : zH} {c sl : Nat}
/-! a method's end -/
theorem zr_ireturn {x : Int32} (hr : zmt M = some .int) (hc : c ≤ (zmr M).cells) (hsl : sl ≤ (zmr M).slots) (hd : decode M.2.1 pc = .ok (.ireturn, 1)) (hp : Post (some (.int x)) n h) : zAW G M XF (zF G M Post) pc lo [.int x] n h c sl := by
  intro p e s m args below meth cd F H locs ls hz hw hs hl
  refine W.widen hc hsl ?_
  exact W.iret F.1 F.2.1 (F.2.2.2.2.2.2.2.1.trans hr) (fun t ht hW => ⟨some (.int x), n, h, rfl, by rw [ht]; exact hz, by rw [ht]; exact hw, hp, hs.F ht⟩) (fun q hq => hs.2.2 q hq) hd F.2.2.2.2.2.2.1
theorem zr_zreturn {z : Int} (hr : zmt M = some .boolean) (hz01 : z = 0 ∨ z = 1) (hc : c ≤ (zmr M).cells) (hsl : sl ≤ (zmr M).slots) (hd : decode M.2.1 pc = .ok (.ireturn, 1)) (hp : Post (some (vi z)) n h) : zAW G M XF (zF G M Post) pc lo [vi z] n h c sl := by
  intro p e s m args below meth cd F H locs ls hz hw hs hl
  refine W.widen hc hsl ?_
  exact W.zret F.1 F.2.1 (F.2.2.2.2.2.2.2.1.trans hr) (by rcases hz01 with rfl | rfl <;> rfl) (fun t ht hW => ⟨some (vi z), n, h, rfl, by rw [ht]; exact hz, by rw [ht]; exact hw, hp, hs.F ht⟩) (fun q hq => hs.2.2 q hq) hd F.2.2.2.2.2.2.1
theorem zr_lreturn {x : Int64} (hr : zmt M = some .long) (hc : c ≤ (zmr M).cells) (hsl : sl ≤ (zmr M).slots) (hd : decode M.2.1 pc = .ok (.lreturn, 1)) (hp : Post (some (.long x)) n h) : zAW G M XF (zF G M Post) pc lo [.long x] n h c sl := by
  intro p e s m args below meth cd F H locs ls hz hw hs hl
  refine W.widen hc hsl ?_
  exact W.lret F.1 F.2.1 (F.2.2.2.2.2.2.2.1.trans hr) (fun t ht hW => ⟨some (.long x), n, h, rfl, by rw [ht]; exact hz, by rw [ht]; exact hw, hp, hs.F ht⟩) (fun q hq => hs.2.2 q hq) hd F.2.2.2.2.2.2.1
theorem zr_vreturn (hr : zmt M = none) (hc : c ≤ (zmr M).cells) (hsl : sl ≤ (zmr M).slots) (hd : decode M.2.1 pc = .ok (.return_, 1)) (hp : Post none n h) : zAW G M XF (zF G M Post) pc lo [] n h c sl := by
  intro p e s m args below meth cd F H locs ls hz hw hs hl
  refine W.widen hc hsl ?_
  exact W.vret F.1 F.2.1 (F.2.2.2.2.2.2.2.1.trans hr) (fun t ht hW => ⟨none, n, h, rfl, by rw [ht]; exact hz, by rw [ht]; exact hw, hp, hs.F ht⟩) (fun q hq => hs.2.2 q hq) hd F.2.2.2.2.2.2.1
end ZE
end
