section
-- ===== PART A: goes FIRST, ahead of the names: the tables' words, and 'selects' of the private methods out of them =====
/-- a private method of a class that the tables say can be made, by its rows of tables_1 -/
def lw_okq (q : MethodName × Nat) : Prop := (q.1.cls ≠ "java/lang/invoke/MethodHandle" ∧ q.1.cls ≠ "java/lang/invoke/VarHandle") ∧ Cond.instantiable q.1.cls q.2 ∈ tables_1 ∧ Cond.privateMethod q.1 ∈ tables_1 ∧ Cond.instanceMethod q.1 ∈ tables_1
theorem lw_p0 : lw_okq (⟨"MeanTown$Town", "besideSet", "(I)I"⟩, 9) := ⟨⟨by decide +kernel, by decide +kernel⟩, List.mem_of_getElem? (i := 19) (by decide +kernel), List.mem_of_getElem? (i := 241) (by decide +kernel), List.mem_of_getElem? (i := 242) (by decide +kernel)⟩
theorem lw_p1 : lw_okq (⟨"MeanTown$Tape", "readHouses", "(LMeanTown$Town;)I"⟩, 3) := ⟨⟨by decide +kernel, by decide +kernel⟩, List.mem_of_getElem? (i := 97) (by decide +kernel), List.mem_of_getElem? (i := 281) (by decide +kernel), List.mem_of_getElem? (i := 282) (by decide +kernel)⟩
theorem lw_p2 : lw_okq (⟨"MeanTown$Tape", "nextSign", "()I"⟩, 3) := ⟨⟨by decide +kernel, by decide +kernel⟩, List.mem_of_getElem? (i := 97) (by decide +kernel), List.mem_of_getElem? (i := 285) (by decide +kernel), List.mem_of_getElem? (i := 286) (by decide +kernel)⟩
theorem lw_p3 : lw_okq (⟨"MeanTown$Tape", "faultHere", "()I"⟩, 3) := ⟨⟨by decide +kernel, by decide +kernel⟩, List.mem_of_getElem? (i := 97) (by decide +kernel), List.mem_of_getElem? (i := 292) (by decide +kernel), List.mem_of_getElem? (i := 293) (by decide +kernel)⟩
theorem lw_p4 : lw_okq (⟨"MeanTown$Tape", "readNumber", "()I"⟩, 3) := ⟨⟨by decide +kernel, by decide +kernel⟩, List.mem_of_getElem? (i := 97) (by decide +kernel), List.mem_of_getElem? (i := 296) (by decide +kernel), List.mem_of_getElem? (i := 297) (by decide +kernel)⟩
theorem lw_p5 : lw_okq (⟨"MeanTown$Tape", "readShares", "(LMeanTown$Town;)I"⟩, 3) := ⟨⟨by decide +kernel, by decide +kernel⟩, List.mem_of_getElem? (i := 97) (by decide +kernel), List.mem_of_getElem? (i := 307) (by decide +kernel), List.mem_of_getElem? (i := 308) (by decide +kernel)⟩
theorem lw_p6 : lw_okq (⟨"MeanTown$Tape", "readDigit", "(I)I"⟩, 3) := ⟨⟨by decide +kernel, by decide +kernel⟩, List.mem_of_getElem? (i := 97) (by decide +kernel), List.mem_of_getElem? (i := 311) (by decide +kernel), List.mem_of_getElem? (i := 312) (by decide +kernel)⟩
theorem lw_p7 : lw_okq (⟨"MeanTown$Rents", "fillRows", "(LMeanTown$Town;)V"⟩, 7) := ⟨⟨by decide +kernel, by decide +kernel⟩, List.mem_of_getElem? (i := 66) (by decide +kernel), List.mem_of_getElem? (i := 351) (by decide +kernel), List.mem_of_getElem? (i := 352) (by decide +kernel)⟩
theorem lw_p8 : lw_okq (⟨"MeanTown$Rents", "clearRows", "()V"⟩, 7) := ⟨⟨by decide +kernel, by decide +kernel⟩, List.mem_of_getElem? (i := 66) (by decide +kernel), List.mem_of_getElem? (i := 358) (by decide +kernel), List.mem_of_getElem? (i := 359) (by decide +kernel)⟩
theorem lw_p9 : lw_okq (⟨"MeanTown$Rents", "clearRow", "(IIJ)V"⟩, 7) := ⟨⟨by decide +kernel, by decide +kernel⟩, List.mem_of_getElem? (i := 66) (by decide +kernel), List.mem_of_getElem? (i := 362) (by decide +kernel), List.mem_of_getElem? (i := 363) (by decide +kernel)⟩
theorem lw_p10 : lw_okq (⟨"MeanTown$Rents", "rentAbove", "(I)J"⟩, 7) := ⟨⟨by decide +kernel, by decide +kernel⟩, List.mem_of_getElem? (i := 66) (by decide +kernel), List.mem_of_getElem? (i := 371) (by decide +kernel), List.mem_of_getElem? (i := 372) (by decide +kernel)⟩
theorem lw_p11 : lw_okq (⟨"MeanTown", "trialLessNow", "(II)J"⟩, 9) := ⟨⟨by decide +kernel, by decide +kernel⟩, List.mem_of_getElem? (i := 11) (by decide +kernel), List.mem_of_getElem? (i := 410) (by decide +kernel), List.mem_of_getElem? (i := 411) (by decide +kernel)⟩
theorem lw_p12 : lw_okq (⟨"MeanTown$Town", "askingAfter", "(I)I"⟩, 9) := ⟨⟨by decide +kernel, by decide +kernel⟩, List.mem_of_getElem? (i := 19) (by decide +kernel), List.mem_of_getElem? (i := 432) (by decide +kernel), List.mem_of_getElem? (i := 433) (by decide +kernel)⟩
theorem lw_p13 : lw_okq (⟨"MeanTown", "fillIncomes", "(II)V"⟩, 9) := ⟨⟨by decide +kernel, by decide +kernel⟩, List.mem_of_getElem? (i := 11) (by decide +kernel), List.mem_of_getElem? (i := 467) (by decide +kernel), List.mem_of_getElem? (i := 468) (by decide +kernel)⟩
theorem lw_p14 : lw_okq (⟨"MeanTown", "isRest", "(I)Z"⟩, 9) := ⟨⟨by decide +kernel, by decide +kernel⟩, List.mem_of_getElem? (i := 11) (by decide +kernel), List.mem_of_getElem? (i := 471) (by decide +kernel), List.mem_of_getElem? (i := 472) (by decide +kernel)⟩
theorem lw_p15 : lw_okq (⟨"MeanTown", "isCheapWhenBought", "(IIII)Z"⟩, 9) := ⟨⟨by decide +kernel, by decide +kernel⟩, List.mem_of_getElem? (i := 11) (by decide +kernel), List.mem_of_getElem? (i := 479) (by decide +kernel), List.mem_of_getElem? (i := 480) (by decide +kernel)⟩
def lw_privs_1 : List (MethodName × Nat) := [(⟨"MeanTown$Town", "besideSet", "(I)I"⟩, 9), (⟨"MeanTown$Tape", "readHouses", "(LMeanTown$Town;)I"⟩, 3), (⟨"MeanTown$Tape", "nextSign", "()I"⟩, 3), (⟨"MeanTown$Tape", "faultHere", "()I"⟩, 3), (⟨"MeanTown$Tape", "readNumber", "()I"⟩, 3), (⟨"MeanTown$Tape", "readShares", "(LMeanTown$Town;)I"⟩, 3), (⟨"MeanTown$Tape", "readDigit", "(I)I"⟩, 3), (⟨"MeanTown$Rents", "fillRows", "(LMeanTown$Town;)V"⟩, 7), (⟨"MeanTown$Rents", "clearRows", "()V"⟩, 7), (⟨"MeanTown$Rents", "clearRow", "(IIJ)V"⟩, 7), (⟨"MeanTown$Rents", "rentAbove", "(I)J"⟩, 7), (⟨"MeanTown", "trialLessNow", "(II)J"⟩, 9), (⟨"MeanTown$Town", "askingAfter", "(I)I"⟩, 9), (⟨"MeanTown", "fillIncomes", "(II)V"⟩, 9), (⟨"MeanTown", "isRest", "(I)Z"⟩, 9), (⟨"MeanTown", "isCheapWhenBought", "(IIII)Z"⟩, 9)]
theorem lw_r1 : ∀ q ∈ lw_privs_1, lw_okq q := List.forall_mem_cons.mpr ⟨lw_p0, List.forall_mem_cons.mpr ⟨lw_p1, List.forall_mem_cons.mpr ⟨lw_p2, List.forall_mem_cons.mpr ⟨lw_p3, List.forall_mem_cons.mpr ⟨lw_p4, List.forall_mem_cons.mpr ⟨lw_p5, List.forall_mem_cons.mpr ⟨lw_p6, List.forall_mem_cons.mpr ⟨lw_p7, List.forall_mem_cons.mpr ⟨lw_p8, List.forall_mem_cons.mpr ⟨lw_p9, List.forall_mem_cons.mpr ⟨lw_p10, List.forall_mem_cons.mpr ⟨lw_p11, List.forall_mem_cons.mpr ⟨lw_p12, List.forall_mem_cons.mpr ⟨lw_p13, List.forall_mem_cons.mpr ⟨lw_p14, List.forall_mem_cons.mpr ⟨lw_p15, fun _ h => absurd h List.not_mem_nil⟩⟩⟩⟩⟩⟩⟩⟩⟩⟩⟩⟩⟩⟩⟩⟩
theorem lw_p16 : lw_okq (⟨"MeanTown", "refusal", "(IIII)I"⟩, 9) := ⟨⟨by decide +kernel, by decide +kernel⟩, List.mem_of_getElem? (i := 11) (by decide +kernel), List.mem_of_getElem? (i := 495) (by decide +kernel), List.mem_of_getElem? (i := 496) (by decide +kernel)⟩
theorem lw_p17 : lw_okq (⟨"MeanTownModel", "comes", "(II)V"⟩, 32) := ⟨⟨by decide +kernel, by decide +kernel⟩, List.mem_of_getElem? (i := 538) (by decide +kernel), List.mem_of_getElem? (i := 650) (by decide +kernel), List.mem_of_getElem? (i := 651) (by decide +kernel)⟩
theorem lw_p18 : lw_okq (⟨"MeanTownModel", "areTwo", "(II)Z"⟩, 32) := ⟨⟨by decide +kernel, by decide +kernel⟩, List.mem_of_getElem? (i := 538) (by decide +kernel), List.mem_of_getElem? (i := 658) (by decide +kernel), List.mem_of_getElem? (i := 659) (by decide +kernel)⟩
theorem lw_p19 : lw_okq (⟨"MeanTownModel", "isHouse", "(I)Z"⟩, 32) := ⟨⟨by decide +kernel, by decide +kernel⟩, List.mem_of_getElem? (i := 538) (by decide +kernel), List.mem_of_getElem? (i := 662) (by decide +kernel), List.mem_of_getElem? (i := 663) (by decide +kernel)⟩
theorem lw_p20 : lw_okq (⟨"MeanTownModel", "puts", "(III)V"⟩, 32) := ⟨⟨by decide +kernel, by decide +kernel⟩, List.mem_of_getElem? (i := 538) (by decide +kernel), List.mem_of_getElem? (i := 667) (by decide +kernel), List.mem_of_getElem? (i := 668) (by decide +kernel)⟩
theorem lw_p21 : lw_okq (⟨"MeanTownModel", "weight", "(I)I"⟩, 32) := ⟨⟨by decide +kernel, by decide +kernel⟩, List.mem_of_getElem? (i := 538) (by decide +kernel), List.mem_of_getElem? (i := 688) (by decide +kernel), List.mem_of_getElem? (i := 689) (by decide +kernel)⟩
theorem lw_p22 : lw_okq (⟨"MeanTownModel", "reached", "()I"⟩, 32) := ⟨⟨by decide +kernel, by decide +kernel⟩, List.mem_of_getElem? (i := 538) (by decide +kernel), List.mem_of_getElem? (i := 692) (by decide +kernel), List.mem_of_getElem? (i := 693) (by decide +kernel)⟩
theorem lw_p23 : lw_okq (⟨"MeanTownModel", "isFixed", "(I)Z"⟩, 32) := ⟨⟨by decide +kernel, by decide +kernel⟩, List.mem_of_getElem? (i := 538) (by decide +kernel), List.mem_of_getElem? (i := 696) (by decide +kernel), List.mem_of_getElem? (i := 697) (by decide +kernel)⟩
theorem lw_p24 : lw_okq (⟨"MeanTownModel", "readHouses", "()I"⟩, 32) := ⟨⟨by decide +kernel, by decide +kernel⟩, List.mem_of_getElem? (i := 538) (by decide +kernel), List.mem_of_getElem? (i := 719) (by decide +kernel), List.mem_of_getElem? (i := 720) (by decide +kernel)⟩
theorem lw_p25 : lw_okq (⟨"MeanTownModel", "here", "()I"⟩, 32) := ⟨⟨by decide +kernel, by decide +kernel⟩, List.mem_of_getElem? (i := 538) (by decide +kernel), List.mem_of_getElem? (i := 723) (by decide +kernel), List.mem_of_getElem? (i := 724) (by decide +kernel)⟩
theorem lw_p26 : lw_okq (⟨"MeanTownModel", "number", "(I)I"⟩, 32) := ⟨⟨by decide +kernel, by decide +kernel⟩, List.mem_of_getElem? (i := 538) (by decide +kernel), List.mem_of_getElem? (i := 730) (by decide +kernel), List.mem_of_getElem? (i := 731) (by decide +kernel)⟩
theorem lw_p27 : lw_okq (⟨"MeanTownModel", "has", "(I)Z"⟩, 32) := ⟨⟨by decide +kernel, by decide +kernel⟩, List.mem_of_getElem? (i := 538) (by decide +kernel), List.mem_of_getElem? (i := 736) (by decide +kernel), List.mem_of_getElem? (i := 737) (by decide +kernel)⟩
theorem lw_p28 : lw_okq (⟨"MeanTownModel", "readPairs", "(I)V"⟩, 32) := ⟨⟨by decide +kernel, by decide +kernel⟩, List.mem_of_getElem? (i := 538) (by decide +kernel), List.mem_of_getElem? (i := 740) (by decide +kernel), List.mem_of_getElem? (i := 741) (by decide +kernel)⟩
theorem lw_p29 : lw_okq (⟨"MeanTownModel", "must", "(II)I"⟩, 32) := ⟨⟨by decide +kernel, by decide +kernel⟩, List.mem_of_getElem? (i := 538) (by decide +kernel), List.mem_of_getElem? (i := 744) (by decide +kernel), List.mem_of_getElem? (i := 745) (by decide +kernel)⟩
theorem lw_p30 : lw_okq (⟨"MeanTownModel", "solves", "(I)V"⟩, 32) := ⟨⟨by decide +kernel, by decide +kernel⟩, List.mem_of_getElem? (i := 538) (by decide +kernel), List.mem_of_getElem? (i := 753) (by decide +kernel), List.mem_of_getElem? (i := 754) (by decide +kernel)⟩
theorem lw_p31 : lw_okq (⟨"MeanTownModel", "clears", "(IJ)V"⟩, 32) := ⟨⟨by decide +kernel, by decide +kernel⟩, List.mem_of_getElem? (i := 538) (by decide +kernel), List.mem_of_getElem? (i := 757) (by decide +kernel), List.mem_of_getElem? (i := 758) (by decide +kernel)⟩
def lw_privs_2 : List (MethodName × Nat) := [(⟨"MeanTown", "refusal", "(IIII)I"⟩, 9), (⟨"MeanTownModel", "comes", "(II)V"⟩, 32), (⟨"MeanTownModel", "areTwo", "(II)Z"⟩, 32), (⟨"MeanTownModel", "isHouse", "(I)Z"⟩, 32), (⟨"MeanTownModel", "puts", "(III)V"⟩, 32), (⟨"MeanTownModel", "weight", "(I)I"⟩, 32), (⟨"MeanTownModel", "reached", "()I"⟩, 32), (⟨"MeanTownModel", "isFixed", "(I)Z"⟩, 32), (⟨"MeanTownModel", "readHouses", "()I"⟩, 32), (⟨"MeanTownModel", "here", "()I"⟩, 32), (⟨"MeanTownModel", "number", "(I)I"⟩, 32), (⟨"MeanTownModel", "has", "(I)Z"⟩, 32), (⟨"MeanTownModel", "readPairs", "(I)V"⟩, 32), (⟨"MeanTownModel", "must", "(II)I"⟩, 32), (⟨"MeanTownModel", "solves", "(I)V"⟩, 32), (⟨"MeanTownModel", "clears", "(IJ)V"⟩, 32)]
theorem lw_r2 : ∀ q ∈ lw_privs_2, lw_okq q := List.forall_mem_cons.mpr ⟨lw_p16, List.forall_mem_cons.mpr ⟨lw_p17, List.forall_mem_cons.mpr ⟨lw_p18, List.forall_mem_cons.mpr ⟨lw_p19, List.forall_mem_cons.mpr ⟨lw_p20, List.forall_mem_cons.mpr ⟨lw_p21, List.forall_mem_cons.mpr ⟨lw_p22, List.forall_mem_cons.mpr ⟨lw_p23, List.forall_mem_cons.mpr ⟨lw_p24, List.forall_mem_cons.mpr ⟨lw_p25, List.forall_mem_cons.mpr ⟨lw_p26, List.forall_mem_cons.mpr ⟨lw_p27, List.forall_mem_cons.mpr ⟨lw_p28, List.forall_mem_cons.mpr ⟨lw_p29, List.forall_mem_cons.mpr ⟨lw_p30, List.forall_mem_cons.mpr ⟨lw_p31, fun _ h => absurd h List.not_mem_nil⟩⟩⟩⟩⟩⟩⟩⟩⟩⟩⟩⟩⟩⟩⟩⟩
theorem lw_p32 : lw_okq (⟨"MeanTownModel", "isKnown", "(I)Z"⟩, 32) := ⟨⟨by decide +kernel, by decide +kernel⟩, List.mem_of_getElem? (i := 538) (by decide +kernel), List.mem_of_getElem? (i := 761) (by decide +kernel), List.mem_of_getElem? (i := 762) (by decide +kernel)⟩
theorem lw_p33 : lw_okq (⟨"MeanTownModel", "keeps", "()V"⟩, 32) := ⟨⟨by decide +kernel, by decide +kernel⟩, List.mem_of_getElem? (i := 538) (by decide +kernel), List.mem_of_getElem? (i := 783) (by decide +kernel), List.mem_of_getElem? (i := 784) (by decide +kernel)⟩
theorem lw_p34 : lw_okq (⟨"MeanTownModel", "differs", "(IIJJZ)J"⟩, 32) := ⟨⟨by decide +kernel, by decide +kernel⟩, List.mem_of_getElem? (i := 538) (by decide +kernel), List.mem_of_getElem? (i := 787) (by decide +kernel), List.mem_of_getElem? (i := 788) (by decide +kernel)⟩
theorem lw_p35 : lw_okq (⟨"MeanTownModel", "goesOn", "([I)V"⟩, 32) := ⟨⟨by decide +kernel, by decide +kernel⟩, List.mem_of_getElem? (i := 538) (by decide +kernel), List.mem_of_getElem? (i := 800) (by decide +kernel), List.mem_of_getElem? (i := 801) (by decide +kernel)⟩
theorem lw_p36 : lw_okq (⟨"MeanTownModel", "incomeOf", "(I)J"⟩, 32) := ⟨⟨by decide +kernel, by decide +kernel⟩, List.mem_of_getElem? (i := 538) (by decide +kernel), List.mem_of_getElem? (i := 812) (by decide +kernel), List.mem_of_getElem? (i := 813) (by decide +kernel)⟩
theorem lw_p37 : lw_okq (⟨"MeanTownModel", "lay", "([II)I"⟩, 32) := ⟨⟨by decide +kernel, by decide +kernel⟩, List.mem_of_getElem? (i := 538) (by decide +kernel), List.mem_of_getElem? (i := 832) (by decide +kernel), List.mem_of_getElem? (i := 833) (by decide +kernel)⟩
theorem lw_p38 : lw_okq (⟨"MeanTownModel", "gives", "(I[I)I"⟩, 32) := ⟨⟨by decide +kernel, by decide +kernel⟩, List.mem_of_getElem? (i := 538) (by decide +kernel), List.mem_of_getElem? (i := 840) (by decide +kernel), List.mem_of_getElem? (i := 841) (by decide +kernel)⟩
theorem lw_p39 : lw_okq (⟨"MeanTownModel", "why", "(IIII)I"⟩, 32) := ⟨⟨by decide +kernel, by decide +kernel⟩, List.mem_of_getElem? (i := 538) (by decide +kernel), List.mem_of_getElem? (i := 854) (by decide +kernel), List.mem_of_getElem? (i := 855) (by decide +kernel)⟩
theorem lw_p40 : lw_okq (⟨"MeanTownModel", "comesTo", "(IIJ)V"⟩, 32) := ⟨⟨by decide +kernel, by decide +kernel⟩, List.mem_of_getElem? (i := 538) (by decide +kernel), List.mem_of_getElem? (i := 862) (by decide +kernel), List.mem_of_getElem? (i := 863) (by decide +kernel)⟩
def lw_privs_3 : List (MethodName × Nat) := [(⟨"MeanTownModel", "isKnown", "(I)Z"⟩, 32), (⟨"MeanTownModel", "keeps", "()V"⟩, 32), (⟨"MeanTownModel", "differs", "(IIJJZ)J"⟩, 32), (⟨"MeanTownModel", "goesOn", "([I)V"⟩, 32), (⟨"MeanTownModel", "incomeOf", "(I)J"⟩, 32), (⟨"MeanTownModel", "lay", "([II)I"⟩, 32), (⟨"MeanTownModel", "gives", "(I[I)I"⟩, 32), (⟨"MeanTownModel", "why", "(IIII)I"⟩, 32), (⟨"MeanTownModel", "comesTo", "(IIJ)V"⟩, 32)]
theorem lw_r3 : ∀ q ∈ lw_privs_3, lw_okq q := List.forall_mem_cons.mpr ⟨lw_p32, List.forall_mem_cons.mpr ⟨lw_p33, List.forall_mem_cons.mpr ⟨lw_p34, List.forall_mem_cons.mpr ⟨lw_p35, List.forall_mem_cons.mpr ⟨lw_p36, List.forall_mem_cons.mpr ⟨lw_p37, List.forall_mem_cons.mpr ⟨lw_p38, List.forall_mem_cons.mpr ⟨lw_p39, List.forall_mem_cons.mpr ⟨lw_p40, fun _ h => absurd h List.not_mem_nil⟩⟩⟩⟩⟩⟩⟩⟩⟩
def lw_privs : List (MethodName × Nat) := lw_privs_1 ++ (lw_privs_2 ++ (lw_privs_3))
def lw_tbl : List Cond := k2_sels lw_privs ++ tables_1
theorem lw_privs_ok : ∀ q ∈ lw_privs, lw_okq q := by
  show ∀ q ∈ lw_privs_1 ++ (lw_privs_2 ++ (lw_privs_3)), lw_okq q
  exact List.forall_mem_append.mpr ⟨lw_r1, List.forall_mem_append.mpr ⟨lw_r2, lw_r3⟩⟩
-- ===== end of PART A; then your names; then what follows =====
/-! ===== BEGIN printed: names, fields, word lists, decode rows ===== -/
def RX0 : String := "MeanTown$Rents"
def TX0 : u_T := fun k => match k with
  | 0 => ("MeanTown$Rents", "above", "[J", true)
  | 1 => ("MeanTown$Rents", "below", "J", false)
  | 2 => ("MeanTown$Rents", "reached", "I", false)
  | 3 => ("MeanTown$Rents", "open", "I", false)
  | 4 => ("MeanTown$Rents", "size", "I", false)
  | 5 => ("MeanTown$Rents", "asked", "[I", true)
  | _ => ("MeanTown$Rents", "rows", "[J", true)
def tyX0 : Nat → FieldType := fun k => match k with
  | 0 => .array .long
  | 1 => .long
  | 2 => .int
  | 3 => .int
  | 4 => .int
  | 5 => .array .int
  | _ => .array .long
abbrev wsX00 : List Cond := u_ws RX0 TX0 7
theorem nmX0 : ∀ a, a < 7 → ∀ b, b < 7 → a ≠ b → (TX0 a).2.1 ≠ (TX0 b).2.1 := by decide +kernel
theorem tyX0_ok : ∀ k, k < 7 → parseFieldDescriptor (TX0 k).2.2.1 = some (tyX0 k) := by decide +kernel
abbrev cX0_init : ByteArray := prog_2_method_1_code
def yX0_init : MethodName := ⟨RX0, "<init>", "()V"⟩
abbrev cX0_reaches : ByteArray := prog_2_method_2_code
def yX0_reaches : MethodName := ⟨RX0, "reaches", "(I)Z"⟩
abbrev cX0_solve : ByteArray := prog_2_method_3_code
def yX0_solve : MethodName := ⟨RX0, "solve", "(LMeanTown$Town;)V"⟩
abbrev cX0_fillRows : ByteArray := prog_2_method_4_code
def yX0_fillRows : MethodName := ⟨RX0, "fillRows", "(LMeanTown$Town;)V"⟩
abbrev cX0_clearRows : ByteArray := prog_2_method_5_code
def yX0_clearRows : MethodName := ⟨RX0, "clearRows", "()V"⟩
abbrev cX0_clearRow : ByteArray := prog_2_method_6_code
def yX0_clearRow : MethodName := ⟨RX0, "clearRow", "(IIJ)V"⟩
abbrev cX0_rentAbove : ByteArray := prog_2_method_7_code
def yX0_rentAbove : MethodName := ⟨RX0, "rentAbove", "(I)J"⟩
abbrev cX0_movesAbove : ByteArray := prog_2_method_8_code
def yX0_movesAbove : MethodName := ⟨RX0, "movesAbove", "(II)J"⟩
abbrev cX0_stepsAbove : ByteArray := prog_2_method_9_code
def yX0_stepsAbove : MethodName := ⟨RX0, "stepsAbove", "(I)J"⟩
abbrev cX0_reprice : ByteArray := prog_2_method_10_code
def yX0_reprice : MethodName := ⟨RX0, "reprice", "(II)V"⟩
abbrev cX0_incomeAbove : ByteArray := prog_2_method_11_code
def yX0_incomeAbove : MethodName := ⟨RX0, "incomeAbove", "(LMeanTown$Town;I)J"⟩
abbrev cX0_areNear : ByteArray := prog_2_method_12_code
def yX0_areNear : MethodName := ⟨RX0, "areNear", "(LMeanTown$Town;I)Z"⟩
def RX1 : String := "MeanTown$Sheet"
def TX1 : u_T := fun k => match k with
  | 0 => ("MeanTown$Sheet", "isThere", "Z", false)
  | 1 => ("MeanTown$Sheet", "lane", "I", false)
  | 2 => ("MeanTown$Sheet", "length", "I", false)
  | _ => ("MeanTown$Sheet", "items", "[J", true)
def tyX1 : Nat → FieldType := fun k => match k with
  | 0 => .boolean
  | 1 => .int
  | 2 => .int
  | _ => .array .long
abbrev wsX10 : List Cond := u_ws RX1 TX1 4
theorem nmX1 : ∀ a, a < 4 → ∀ b, b < 4 → a ≠ b → (TX1 a).2.1 ≠ (TX1 b).2.1 := by decide +kernel
theorem tyX1_ok : ∀ k, k < 4 → parseFieldDescriptor (TX1 k).2.2.1 = some (tyX1 k) := by decide +kernel
abbrev cX1_init : ByteArray := prog_3_method_1_code
def yX1_init : MethodName := ⟨RX1, "<init>", "()V"⟩
abbrev cX1_renew : ByteArray := prog_3_method_2_code
def yX1_renew : MethodName := ⟨RX1, "renew", "(II)V"⟩
abbrev cX1_holds : ByteArray := prog_3_method_3_code
def yX1_holds : MethodName := ⟨RX1, "holds", "(II)Z"⟩
def RX2 : String := "MeanTown$Tape"
def TX2 : u_T := fun k => match k with
  | 0 => ("MeanTown$Tape", "bytes", "[B", true)
  | 1 => ("MeanTown$Tape", "length", "I", false)
  | _ => ("MeanTown$Tape", "at", "I", false)
def tyX2 : Nat → FieldType := fun k => match k with
  | 0 => .array .byte
  | 1 => .int
  | _ => .int
abbrev wsX20 : List Cond := u_ws RX2 TX2 3
theorem nmX2 : ∀ a, a < 3 → ∀ b, b < 3 → a ≠ b → (TX2 a).2.1 ≠ (TX2 b).2.1 := by decide +kernel
theorem tyX2_ok : ∀ k, k < 3 → parseFieldDescriptor (TX2 k).2.2.1 = some (tyX2 k) := by decide +kernel
abbrev cX2_init : ByteArray := prog_4_method_1_code
def yX2_init : MethodName := ⟨RX2, "<init>", "()V"⟩
abbrev cX2_append : ByteArray := prog_4_method_2_code
def yX2_append : MethodName := ⟨RX2, "append", "(JI)V"⟩
abbrev cX2_readTown : ByteArray := prog_4_method_3_code
def yX2_readTown : MethodName := ⟨RX2, "readTown", "(LMeanTown$Town;)I"⟩
abbrev cX2_readHouses : ByteArray := prog_4_method_4_code
def yX2_readHouses : MethodName := ⟨RX2, "readHouses", "(LMeanTown$Town;)I"⟩
abbrev cX2_readShares : ByteArray := prog_4_method_5_code
def yX2_readShares : MethodName := ⟨RX2, "readShares", "(LMeanTown$Town;)I"⟩
abbrev cX2_faultHere : ByteArray := prog_4_method_6_code
def yX2_faultHere : MethodName := ⟨RX2, "faultHere", "()I"⟩
abbrev cX2_pairPlace : ByteArray := prog_4_method_7_code
def yX2_pairPlace : MethodName := ⟨RX2, "pairPlace", "(II)I"⟩
abbrev cX2_nextSign : ByteArray := prog_4_method_8_code
def yX2_nextSign : MethodName := ⟨RX2, "nextSign", "()I"⟩
abbrev cX2_kindOf : ByteArray := prog_4_method_9_code
def yX2_kindOf : MethodName := ⟨RX2, "kindOf", "(I)I"⟩
abbrev cX2_digitOf : ByteArray := prog_4_method_10_code
def yX2_digitOf : MethodName := ⟨RX2, "digitOf", "(II)I"⟩
abbrev cX2_readDigit : ByteArray := prog_4_method_11_code
def yX2_readDigit : MethodName := ⟨RX2, "readDigit", "(I)I"⟩
abbrev cX2_readNumber : ByteArray := prog_4_method_12_code
def yX2_readNumber : MethodName := ⟨RX2, "readNumber", "()I"⟩
def RX3 : String := "MeanTown$Town"
def TX3 : u_T := fun k => match k with
  | 0 => ("MeanTown$Town", "size", "I", false)
  | 1 => ("MeanTown$Town", "kinds", "[I", true)
  | 2 => ("MeanTown$Town", "asks", "[I", true)
  | 3 => ("MeanTown$Town", "owners", "[I", true)
  | 4 => ("MeanTown$Town", "caps", "[I", true)
  | 5 => ("MeanTown$Town", "shares", "[I", true)
  | 6 => ("MeanTown$Town", "purse", "I", false)
  | 7 => ("MeanTown$Town", "years", "I", false)
  | _ => ("MeanTown$Town", "askedAhead", "[I", true)
def tyX3 : Nat → FieldType := fun k => match k with
  | 0 => .int
  | 1 => .array .int
  | 2 => .array .int
  | 3 => .array .int
  | 4 => .array .int
  | 5 => .array .int
  | 6 => .int
  | 7 => .int
  | _ => .array .int
abbrev wsX30 : List Cond := u_ws RX3 TX3 9
theorem nmX3 : ∀ a, a < 9 → ∀ b, b < 9 → a ≠ b → (TX3 a).2.1 ≠ (TX3 b).2.1 := by decide +kernel
theorem tyX3_ok : ∀ k, k < 9 → parseFieldDescriptor (TX3 k).2.2.1 = some (tyX3 k) := by decide +kernel
abbrev cX3_init : ByteArray := prog_5_method_1_code
def yX3_init : MethodName := ⟨RX3, "<init>", "()V"⟩
abbrev cX3_has : ByteArray := prog_5_method_2_code
def yX3_has : MethodName := ⟨RX3, "has", "(I)Z"⟩
abbrev cX3_hasTwo : ByteArray := prog_5_method_3_code
def yX3_hasTwo : MethodName := ⟨RX3, "hasTwo", "(II)Z"⟩
abbrev cX3_isFixed : ByteArray := prog_5_method_4_code
def yX3_isFixed : MethodName := ⟨RX3, "isFixed", "(I)Z"⟩
abbrev cX3_build : ByteArray := prog_5_method_5_code
def yX3_build : MethodName := ⟨RX3, "build", "(II)I"⟩
abbrev cX3_shareOf : ByteArray := prog_5_method_6_code
def yX3_shareOf : MethodName := ⟨RX3, "shareOf", "(II)I"⟩
abbrev cX3_putShare : ByteArray := prog_5_method_7_code
def yX3_putShare : MethodName := ⟨RX3, "putShare", "(III)V"⟩
abbrev cX3_pullDown : ByteArray := prog_5_method_8_code
def yX3_pullDown : MethodName := ⟨RX3, "pullDown", "(I)V"⟩
abbrev cX3_clear : ByteArray := prog_5_method_9_code
def yX3_clear : MethodName := ⟨RX3, "clear", "()V"⟩
abbrev cX3_weight : ByteArray := prog_5_method_10_code
def yX3_weight : MethodName := ⟨RX3, "weight", "(I)I"⟩
abbrev cX3_pairs : ByteArray := prog_5_method_11_code
def yX3_pairs : MethodName := ⟨RX3, "pairs", "()I"⟩
abbrev cX3_fixedSet : ByteArray := prog_5_method_12_code
def yX3_fixedSet : MethodName := ⟨RX3, "fixedSet", "()I"⟩
abbrev cX3_reachedSet : ByteArray := prog_5_method_13_code
def yX3_reachedSet : MethodName := ⟨RX3, "reachedSet", "()I"⟩
abbrev cX3_besideSet : ByteArray := prog_5_method_14_code
def yX3_besideSet : MethodName := ⟨RX3, "besideSet", "(I)I"⟩
abbrev cX3_passYear : ByteArray := prog_5_method_15_code
def yX3_passYear : MethodName := ⟨RX3, "passYear", "()I"⟩
abbrev cX3_askingAfter : ByteArray := prog_5_method_16_code
def yX3_askingAfter : MethodName := ⟨RX3, "askingAfter", "(I)I"⟩
abbrev cX3_takeFrom : ByteArray := prog_5_method_17_code
def yX3_takeFrom : MethodName := ⟨RX3, "takeFrom", "(LMeanTown$Town;)V"⟩
def RX4 : String := "MeanTown"
def TX4 : u_T := fun k => match k with
  | 0 => ("MeanTown", "now", "LMeanTown$Town;", true)
  | 1 => ("MeanTown", "kept", "LMeanTown$Town;", true)
  | 2 => ("MeanTown", "trial", "LMeanTown$Town;", true)
  | 3 => ("MeanTown", "rents", "LMeanTown$Rents;", true)
  | 4 => ("MeanTown", "tape", "LMeanTown$Tape;", true)
  | 5 => ("MeanTown", "sheets", "[LMeanTown$Sheet;", true)
  | 6 => ("MeanTown", "firstIncomes", "[J", true)
  | 7 => ("MeanTown", "secondIncomes", "[J", true)
  | _ => ("MeanTown", "isKept", "Z", false)
def tyX4 : Nat → FieldType := fun k => match k with
  | 0 => .object "MeanTown$Town"
  | 1 => .object "MeanTown$Town"
  | 2 => .object "MeanTown$Town"
  | 3 => .object "MeanTown$Rents"
  | 4 => .object "MeanTown$Tape"
  | 5 => .array (.object "MeanTown$Sheet")
  | 6 => .array .long
  | 7 => .array .long
  | _ => .boolean
abbrev wsX40 : List Cond := u_ws RX4 TX4 9
theorem nmX4 : ∀ a, a < 9 → ∀ b, b < 9 → a ≠ b → (TX4 a).2.1 ≠ (TX4 b).2.1 := by decide +kernel
theorem tyX4_ok : ∀ k, k < 9 → parseFieldDescriptor (TX4 k).2.2.1 = some (tyX4 k) := by decide +kernel
abbrev cX4_init : ByteArray := prog_1_method_1_code
def yX4_init : MethodName := ⟨RX4, "<init>", "()V"⟩
abbrev cX4_house : ByteArray := prog_1_method_2_code
def yX4_house : MethodName := ⟨RX4, "house", "(II)I"⟩
abbrev cX4_share : ByteArray := prog_1_method_3_code
def yX4_share : MethodName := ⟨RX4, "share", "(III)I"⟩
abbrev cX4_ask : ByteArray := prog_1_method_4_code
def yX4_ask : MethodName := ⟨RX4, "ask", "(II)I"⟩
abbrev cX4_set : ByteArray := prog_1_method_5_code
def yX4_set : MethodName := ⟨RX4, "set", "(III)I"⟩
abbrev cX4_purse : ByteArray := prog_1_method_6_code
def yX4_purse : MethodName := ⟨RX4, "purse", "(I)I"⟩
abbrev cX4_told : ByteArray := prog_1_method_7_code
def yX4_told : MethodName := ⟨RX4, "told", "(II)I"⟩
abbrev cX4_type : ByteArray := prog_1_method_8_code
def yX4_type : MethodName := ⟨RX4, "type", "(JI)I"⟩
abbrev cX4_town : ByteArray := prog_1_method_9_code
def yX4_town : MethodName := ⟨RX4, "town", "()I"⟩
abbrev cX4_count : ByteArray := prog_1_method_10_code
def yX4_count : MethodName := ⟨RX4, "count", "(I)I"⟩
abbrev cX4_rent : ByteArray := prog_1_method_11_code
def yX4_rent : MethodName := ⟨RX4, "rent", "(II)J"⟩
abbrev cX4_moves : ByteArray := prog_1_method_12_code
def yX4_moves : MethodName := ⟨RX4, "moves", "(III)J"⟩
abbrev cX4_walk : ByteArray := prog_1_method_13_code
def yX4_walk : MethodName := ⟨RX4, "walk", "(II)J"⟩
abbrev cX4_change : ByteArray := prog_1_method_14_code
def yX4_change : MethodName := ⟨RX4, "change", "(IIIII)J"⟩
abbrev cX4_pulled : ByteArray := prog_1_method_15_code
def yX4_pulled : MethodName := ⟨RX4, "pulled", "(III)J"⟩
abbrev cX4_year : ByteArray := prog_1_method_16_code
def yX4_year : MethodName := ⟨RX4, "year", "()I"⟩
abbrev cX4_near : ByteArray := prog_1_method_17_code
def yX4_near : MethodName := ⟨RX4, "near", "(I)I"⟩
abbrev cX4_income : ByteArray := prog_1_method_18_code
def yX4_income : MethodName := ⟨RX4, "income", "(II)J"⟩
abbrev cX4_best : ByteArray := prog_1_method_19_code
def yX4_best : MethodName := ⟨RX4, "best", "(I)I"⟩
abbrev cX4_rests : ByteArray := prog_1_method_20_code
def yX4_rests : MethodName := ⟨RX4, "rests", "(III)I"⟩
abbrev cX4_bought : ByteArray := prog_1_method_21_code
def yX4_bought : MethodName := ⟨RX4, "bought", "(III)I"⟩
abbrev cX4_image : ByteArray := prog_1_method_22_code
def yX4_image : MethodName := ⟨RX4, "image", "()I"⟩
abbrev cX4_restore : ByteArray := prog_1_method_23_code
def yX4_restore : MethodName := ⟨RX4, "restore", "()I"⟩
abbrev cX4_book : ByteArray := prog_1_method_24_code
def yX4_book : MethodName := ⟨RX4, "book", "(III)I"⟩
abbrev cX4_film : ByteArray := prog_1_method_25_code
def yX4_film : MethodName := ⟨RX4, "film", "(III)I"⟩
abbrev cX4_sheet : ByteArray := prog_1_method_26_code
def yX4_sheet : MethodName := ⟨RX4, "sheet", "(III)I"⟩
abbrev cX4_drop : ByteArray := prog_1_method_27_code
def yX4_drop : MethodName := ⟨RX4, "drop", "(I)I"⟩
abbrev cX4_item : ByteArray := prog_1_method_28_code
def yX4_item : MethodName := ⟨RX4, "item", "(IIIJ)I"⟩
abbrev cX4_copy : ByteArray := prog_1_method_29_code
def yX4_copy : MethodName := ⟨RX4, "copy", "(IIIII)I"⟩
abbrev cX4_isPence : ByteArray := prog_1_method_30_code
def yX4_isPence : MethodName := ⟨RX4, "isPence", "(I)Z"⟩
abbrev cX4_isShare : ByteArray := prog_1_method_31_code
def yX4_isShare : MethodName := ⟨RX4, "isShare", "(I)Z"⟩
abbrev cX4_isOwner : ByteArray := prog_1_method_32_code
def yX4_isOwner : MethodName := ⟨RX4, "isOwner", "(I)Z"⟩
abbrev cX4_isPart : ByteArray := prog_1_method_33_code
def yX4_isPart : MethodName := ⟨RX4, "isPart", "(I)Z"⟩
abbrev cX4_isSheet : ByteArray := prog_1_method_34_code
def yX4_isSheet : MethodName := ⟨RX4, "isSheet", "(I)Z"⟩
abbrev cX4_isLane : ByteArray := prog_1_method_35_code
def yX4_isLane : MethodName := ⟨RX4, "isLane", "(I)Z"⟩
abbrev cX4_isIn : ByteArray := prog_1_method_36_code
def yX4_isIn : MethodName := ⟨RX4, "isIn", "(II)Z"⟩
abbrev cX4_areSigns : ByteArray := prog_1_method_37_code
def yX4_areSigns : MethodName := ⟨RX4, "areSigns", "(JI)Z"⟩
abbrev cX4_byteOf : ByteArray := prog_1_method_38_code
def yX4_byteOf : MethodName := ⟨RX4, "byteOf", "(JI)I"⟩
abbrev cX4_lowestBits : ByteArray := prog_1_method_39_code
def yX4_lowestBits : MethodName := ⟨RX4, "lowestBits", "(IJ)J"⟩
abbrev cX4_lowest : ByteArray := prog_1_method_40_code
def yX4_lowest : MethodName := ⟨RX4, "lowest", "(JJI)J"⟩
abbrev cX4_commonDivisor : ByteArray := prog_1_method_41_code
def yX4_commonDivisor : MethodName := ⟨RX4, "commonDivisor", "(JJ)J"⟩
abbrev cX4_trialLessNow : ByteArray := prog_1_method_42_code
def yX4_trialLessNow : MethodName := ⟨RX4, "trialLessNow", "(II)J"⟩
abbrev cX4_fillIncomes : ByteArray := prog_1_method_43_code
def yX4_fillIncomes : MethodName := ⟨RX4, "fillIncomes", "(II)V"⟩
abbrev cX4_isRest : ByteArray := prog_1_method_44_code
def yX4_isRest : MethodName := ⟨RX4, "isRest", "(I)Z"⟩
abbrev cX4_isCheapWhenBought : ByteArray := prog_1_method_45_code
def yX4_isCheapWhenBought : MethodName := ⟨RX4, "isCheapWhenBought", "(IIII)Z"⟩
abbrev cX4_refusal : ByteArray := prog_1_method_46_code
def yX4_refusal : MethodName := ⟨RX4, "refusal", "(IIII)I"⟩
def RX5 : String := "MeanTownModel"
def TX5 : u_T := fun k => match k with
  | 0 => ("MeanTownModel", "houses", "I", false)
  | 1 => ("MeanTownModel", "kinds", "[I", true)
  | 2 => ("MeanTownModel", "asks", "[I", true)
  | 3 => ("MeanTownModel", "owners", "[I", true)
  | 4 => ("MeanTownModel", "caps", "[I", true)
  | 5 => ("MeanTownModel", "shares", "[I", true)
  | 6 => ("MeanTownModel", "purse", "I", false)
  | 7 => ("MeanTownModel", "years", "I", false)
  | 8 => ("MeanTownModel", "bought", "I", false)
  | 9 => ("MeanTownModel", "tape", "[I", true)
  | 10 => ("MeanTownModel", "taped", "I", false)
  | 11 => ("MeanTownModel", "at", "I", false)
  | 12 => ("MeanTownModel", "wrong", "Z", false)
  | 13 => ("MeanTownModel", "read", "[I", true)
  | 14 => ("MeanTownModel", "readShares", "[I", true)
  | 15 => ("MeanTownModel", "rows", "[J", true)
  | 16 => ("MeanTownModel", "sums", "[J", true)
  | 17 => ("MeanTownModel", "above", "[J", true)
  | 18 => ("MeanTownModel", "below", "J", false)
  | 19 => ("MeanTownModel", "known", "I", false)
  | 20 => ("MeanTownModel", "price", "I", false)
  | 21 => ("MeanTownModel", "kept", "[I", true)
  | 22 => ("MeanTownModel", "then", "[I", true)
  | 23 => ("MeanTownModel", "tried", "[I", true)
  | 24 => ("MeanTownModel", "firsts", "[J", true)
  | 25 => ("MeanTownModel", "seconds", "[J", true)
  | 26 => ("MeanTownModel", "image", "[I", true)
  | 27 => ("MeanTownModel", "isImage", "Z", false)
  | 28 => ("MeanTownModel", "lanes", "[I", true)
  | 29 => ("MeanTownModel", "sizes", "[I", true)
  | 30 => ("MeanTownModel", "items", "[J", true)
  | _ => ("MeanTownModel", "moved", "[J", true)
def tyX5 : Nat → FieldType := fun k => match k with
  | 0 => .int
  | 1 => .array .int
  | 2 => .array .int
  | 3 => .array .int
  | 4 => .array .int
  | 5 => .array .int
  | 6 => .int
  | 7 => .int
  | 8 => .int
  | 9 => .array .int
  | 10 => .int
  | 11 => .int
  | 12 => .boolean
  | 13 => .array .int
  | 14 => .array .int
  | 15 => .array .long
  | 16 => .array .long
  | 17 => .array .long
  | 18 => .long
  | 19 => .int
  | 20 => .int
  | 21 => .array .int
  | 22 => .array .int
  | 23 => .array .int
  | 24 => .array .long
  | 25 => .array .long
  | 26 => .array .int
  | 27 => .boolean
  | 28 => .array .int
  | 29 => .array .int
  | 30 => .array .long
  | _ => .array .long
abbrev wsX50 : List Cond := u_ws RX5 TX5 32
theorem nmX5 : ∀ a, a < 32 → ∀ b, b < 32 → a ≠ b → (TX5 a).2.1 ≠ (TX5 b).2.1 := by decide +kernel
theorem tyX5_ok : ∀ k, k < 32 → parseFieldDescriptor (TX5 k).2.2.1 = some (tyX5 k) := by decide +kernel
abbrev cX5_in : ByteArray := prog_7_method_2_code
def yX5_in : MethodName := ⟨RX5, "in", "(JJJ)Z"⟩
abbrev cX5_init : ByteArray := prog_7_method_3_code
def yX5_init : MethodName := ⟨RX5, "<init>", "()V"⟩
abbrev cX5_isHouse : ByteArray := prog_7_method_4_code
def yX5_isHouse : MethodName := ⟨RX5, "isHouse", "(I)Z"⟩
abbrev cX5_areTwo : ByteArray := prog_7_method_5_code
def yX5_areTwo : MethodName := ⟨RX5, "areTwo", "(II)Z"⟩
abbrev cX5_comes : ByteArray := prog_7_method_6_code
def yX5_comes : MethodName := ⟨RX5, "comes", "(II)V"⟩
abbrev cX5_house : ByteArray := prog_7_method_7_code
def yX5_house : MethodName := ⟨RX5, "house", "(II)I"⟩
abbrev cX5_puts : ByteArray := prog_7_method_8_code
def yX5_puts : MethodName := ⟨RX5, "puts", "(III)V"⟩
abbrev cX5_share : ByteArray := prog_7_method_9_code
def yX5_share : MethodName := ⟨RX5, "share", "(III)I"⟩
abbrev cX5_ask : ByteArray := prog_7_method_10_code
def yX5_ask : MethodName := ⟨RX5, "ask", "(II)I"⟩
abbrev cX5_set : ByteArray := prog_7_method_11_code
def yX5_set : MethodName := ⟨RX5, "set", "(III)I"⟩
abbrev cX5_purse : ByteArray := prog_7_method_12_code
def yX5_purse : MethodName := ⟨RX5, "purse", "(I)I"⟩
abbrev cX5_weight : ByteArray := prog_7_method_13_code
def yX5_weight : MethodName := ⟨RX5, "weight", "(I)I"⟩
abbrev cX5_isFixed : ByteArray := prog_7_method_14_code
def yX5_isFixed : MethodName := ⟨RX5, "isFixed", "(I)Z"⟩
abbrev cX5_reached : ByteArray := prog_7_method_15_code
def yX5_reached : MethodName := ⟨RX5, "reached", "()I"⟩
abbrev cX5_told : ByteArray := prog_7_method_16_code
def yX5_told : MethodName := ⟨RX5, "told", "(II)I"⟩
abbrev cX5_count : ByteArray := prog_7_method_17_code
def yX5_count : MethodName := ⟨RX5, "count", "(I)I"⟩
abbrev cX5_size : ByteArray := prog_7_method_18_code
def yX5_size : MethodName := ⟨RX5, "size", "(I)I"⟩
abbrev cX5_type : ByteArray := prog_7_method_19_code
def yX5_type : MethodName := ⟨RX5, "type", "(JI)I"⟩
abbrev cX5_here : ByteArray := prog_7_method_20_code
def yX5_here : MethodName := ⟨RX5, "here", "()I"⟩
abbrev cX5_has : ByteArray := prog_7_method_21_code
def yX5_has : MethodName := ⟨RX5, "has", "(I)Z"⟩
abbrev cX5_must : ByteArray := prog_7_method_22_code
def yX5_must : MethodName := ⟨RX5, "must", "(II)I"⟩
abbrev cX5_number : ByteArray := prog_7_method_23_code
def yX5_number : MethodName := ⟨RX5, "number", "(I)I"⟩
abbrev cX5_kindOf : ByteArray := prog_7_method_24_code
def yX5_kindOf : MethodName := ⟨RX5, "kindOf", "(I)I"⟩
abbrev cX5_readHouses : ByteArray := prog_7_method_25_code
def yX5_readHouses : MethodName := ⟨RX5, "readHouses", "()I"⟩
abbrev cX5_readPairs : ByteArray := prog_7_method_26_code
def yX5_readPairs : MethodName := ⟨RX5, "readPairs", "(I)V"⟩
abbrev cX5_town : ByteArray := prog_7_method_27_code
def yX5_town : MethodName := ⟨RX5, "town", "()I"⟩
abbrev cX5_solves : ByteArray := prog_7_method_28_code
def yX5_solves : MethodName := ⟨RX5, "solves", "(I)V"⟩
abbrev cX5_clears : ByteArray := prog_7_method_29_code
def yX5_clears : MethodName := ⟨RX5, "clears", "(IJ)V"⟩
abbrev cX5_lowest : ByteArray := prog_7_method_30_code
def yX5_lowest : MethodName := ⟨RX5, "lowest", "(JJI)J"⟩
abbrev cX5_isKnown : ByteArray := prog_7_method_31_code
def yX5_isKnown : MethodName := ⟨RX5, "isKnown", "(I)Z"⟩
abbrev cX5_rent : ByteArray := prog_7_method_32_code
def yX5_rent : MethodName := ⟨RX5, "rent", "(II)J"⟩
abbrev cX5_moves : ByteArray := prog_7_method_33_code
def yX5_moves : MethodName := ⟨RX5, "moves", "(III)J"⟩
abbrev cX5_walk : ByteArray := prog_7_method_34_code
def yX5_walk : MethodName := ⟨RX5, "walk", "(II)J"⟩
abbrev cX5_differs : ByteArray := prog_7_method_35_code
def yX5_differs : MethodName := ⟨RX5, "differs", "(IIJJZ)J"⟩
abbrev cX5_keeps : ByteArray := prog_7_method_36_code
def yX5_keeps : MethodName := ⟨RX5, "keeps", "()V"⟩
abbrev cX5_change : ByteArray := prog_7_method_37_code
def yX5_change : MethodName := ⟨RX5, "change", "(IIIII)J"⟩
abbrev cX5_pulled : ByteArray := prog_7_method_38_code
def yX5_pulled : MethodName := ⟨RX5, "pulled", "(III)J"⟩
abbrev cX5_goesOn : ByteArray := prog_7_method_39_code
def yX5_goesOn : MethodName := ⟨RX5, "goesOn", "([I)V"⟩
abbrev cX5_year : ByteArray := prog_7_method_40_code
def yX5_year : MethodName := ⟨RX5, "year", "()I"⟩
abbrev cX5_near : ByteArray := prog_7_method_41_code
def yX5_near : MethodName := ⟨RX5, "near", "(I)I"⟩
abbrev cX5_incomeOf : ByteArray := prog_7_method_42_code
def yX5_incomeOf : MethodName := ⟨RX5, "incomeOf", "(I)J"⟩
abbrev cX5_income : ByteArray := prog_7_method_43_code
def yX5_income : MethodName := ⟨RX5, "income", "(II)J"⟩
abbrev cX5_best : ByteArray := prog_7_method_44_code
def yX5_best : MethodName := ⟨RX5, "best", "(I)I"⟩
abbrev cX5_rests : ByteArray := prog_7_method_45_code
def yX5_rests : MethodName := ⟨RX5, "rests", "(III)I"⟩
abbrev cX5_bought : ByteArray := prog_7_method_46_code
def yX5_bought : MethodName := ⟨RX5, "bought", "(III)I"⟩
abbrev cX5_lay : ByteArray := prog_7_method_47_code
def yX5_lay : MethodName := ⟨RX5, "lay", "([II)I"⟩
abbrev cX5_gives : ByteArray := prog_7_method_48_code
def yX5_gives : MethodName := ⟨RX5, "gives", "(I[I)I"⟩
abbrev cX5_image : ByteArray := prog_7_method_49_code
def yX5_image : MethodName := ⟨RX5, "image", "()I"⟩
abbrev cX5_restore : ByteArray := prog_7_method_50_code
def yX5_restore : MethodName := ⟨RX5, "restore", "()I"⟩
abbrev cX5_isSheet : ByteArray := prog_7_method_51_code
def yX5_isSheet : MethodName := ⟨RX5, "isSheet", "(I)Z"⟩
abbrev cX5_isLane : ByteArray := prog_7_method_52_code
def yX5_isLane : MethodName := ⟨RX5, "isLane", "(I)Z"⟩
abbrev cX5_why : ByteArray := prog_7_method_53_code
def yX5_why : MethodName := ⟨RX5, "why", "(IIII)I"⟩
abbrev cX5_book : ByteArray := prog_7_method_54_code
def yX5_book : MethodName := ⟨RX5, "book", "(III)I"⟩
abbrev cX5_comesTo : ByteArray := prog_7_method_55_code
def yX5_comesTo : MethodName := ⟨RX5, "comesTo", "(IIJ)V"⟩
abbrev cX5_film : ByteArray := prog_7_method_56_code
def yX5_film : MethodName := ⟨RX5, "film", "(III)I"⟩
abbrev cX5_sheet : ByteArray := prog_7_method_57_code
def yX5_sheet : MethodName := ⟨RX5, "sheet", "(III)I"⟩
abbrev cX5_drop : ByteArray := prog_7_method_58_code
def yX5_drop : MethodName := ⟨RX5, "drop", "(I)I"⟩
abbrev cX5_item : ByteArray := prog_7_method_59_code
def yX5_item : MethodName := ⟨RX5, "item", "(IIIJ)I"⟩
abbrev cX5_copy : ByteArray := prog_7_method_60_code
def yX5_copy : MethodName := ⟨RX5, "copy", "(IIIII)I"⟩
def RJ6 : String := "java/lang/Integer"
def TJ6 : u_T := fun k => match k with
  | _ => ("", "", "", false)
def tyJ6 : Nat → FieldType := fun k => match k with
  | _ => .int
abbrev wsJ60 : List Cond := u_ws RJ6 TJ6 0
theorem nmJ6 : ∀ a, a < 0 → ∀ b, b < 0 → a ≠ b → (TJ6 a).2.1 ≠ (TJ6 b).2.1 := by decide +kernel
theorem tyJ6_ok : ∀ k, k < 0 → parseFieldDescriptor (TJ6 k).2.2.1 = some (tyJ6 k) := by decide +kernel
abbrev cJ6_bitCount_0f7a4 : ByteArray := prog_8_method_49_code
def yJ6_bitCount_0f7a4 : MethodName := ⟨RJ6, "bitCount", "(I)I"⟩
def RJ9 : String := "java/lang/Math"
def TJ9 : u_T := fun k => match k with
  | _ => ("", "", "", false)
def tyJ9 : Nat → FieldType := fun k => match k with
  | _ => .int
abbrev wsJ90 : List Cond := u_ws RJ9 TJ9 0
theorem nmJ9 : ∀ a, a < 0 → ∀ b, b < 0 → a ≠ b → (TJ9 a).2.1 ≠ (TJ9 b).2.1 := by decide +kernel
theorem tyJ9_ok : ∀ k, k < 0 → parseFieldDescriptor (TJ9 k).2.2.1 = some (tyJ9 k) := by decide +kernel
abbrev cJ9_abs_067f4 : ByteArray := prog_9_method_61_code
def yJ9_abs_067f4 : MethodName := ⟨RJ9, "abs", "(J)J"⟩
abbrev cJ9_max_7cf53 : ByteArray := prog_9_method_65_code
def yJ9_max_7cf53 : MethodName := ⟨RJ9, "max", "(II)I"⟩
abbrev cJ9_min_7cf53 : ByteArray := prog_9_method_69_code
def yJ9_min_7cf53 : MethodName := ⟨RJ9, "min", "(II)I"⟩
def RJ10 : String := "java/lang/System"
def TJ10 : u_T := fun k => match k with
  | _ => ("", "", "", false)
def tyJ10 : Nat → FieldType := fun k => match k with
  | _ => .int
abbrev wsJ100 : List Cond := u_ws RJ10 TJ10 0
theorem nmJ10 : ∀ a, a < 0 → ∀ b, b < 0 → a ≠ b → (TJ10 a).2.1 ≠ (TJ10 b).2.1 := by decide +kernel
theorem tyJ10_ok : ∀ k, k < 0 → parseFieldDescriptor (TJ10 k).2.2.1 = some (tyJ10 k) := by decide +kernel
def RL : String := "MeanTownLaw"
abbrev cL_law : ByteArray := code
def yL_law : MethodName := ⟨RL, "law", "([I)Z"⟩
abbrev vwCl : List vw_C := [(RX0, TX0, 7), (RX1, TX1, 4), (RX2, TX2, 3), (RX3, TX3, 9), (RX4, TX4, 9), (RX5, TX5, 32)]
end
section
/-! THE OWN ABSTRACT MACHINE: code tables (written by wip/whole/emit.py out of the listing). An entry: (pc, length, operation, a, b, value, cases). -/
abbrev CE : Type := Nat × Nat × Nat × Nat × Nat × Value × List (Int32 × Nat)
def qJI_bitCount_0 : List CE := (0, 1, 1, 0, 0, .null, []) :: (1, 1, 1, 0, 0, .null, []) :: (2, 1, 0, 0, 0, .int 1, []) :: (3, 1, 5, 0, 8, .null, []) :: (4, 3, 0, 0, 0, .int 1431655765, []) :: (7, 1, 5, 0, 3, .null, []) :: (8, 1, 5, 0, 1, .null, []) :: (9, 1, 2, 0, 0, .null, []) :: (10, 1, 1, 0, 0, .null, []) :: (11, 3, 0, 0, 0, .int 858993459, []) :: (14, 1, 5, 0, 3, .null, []) :: (15, 1, 1, 0, 0, .null, []) :: (16, 1, 0, 0, 0, .int 2, []) :: (17, 1, 5, 0, 8, .null, []) :: (18, 3, 0, 0, 0, .int 858993459, []) :: (21, 1, 5, 0, 3, .null, []) :: (22, 1, 5, 0, 0, .null, []) :: (23, 1, 2, 0, 0, .null, []) :: (24, 1, 1, 0, 0, .null, []) :: (25, 1, 1, 0, 0, .null, []) :: (26, 1, 0, 0, 0, .int 4, []) :: (27, 1, 5, 0, 8, .null, []) :: (28, 1, 5, 0, 0, .null, []) :: (29, 3, 0, 0, 0, .int 252645135, []) :: (32, 1, 5, 0, 3, .null, []) :: (33, 1, 2, 0, 0, .null, []) :: (34, 1, 1, 0, 0, .null, []) :: (35, 1, 1, 0, 0, .null, []) :: (36, 2, 0, 0, 0, .int 8, []) :: (38, 1, 5, 0, 8, .null, []) :: (39, 1, 5, 0, 0, .null, []) :: (40, 1, 2, 0, 0, .null, []) :: (41, 1, 1, 0, 0, .null, []) :: (42, 1, 1, 0, 0, .null, []) :: (43, 2, 0, 0, 0, .int 16, []) :: (45, 1, 5, 0, 8, .null, []) :: (46, 1, 5, 0, 0, .null, []) :: (47, 1, 2, 0, 0, .null, []) :: (48, 1, 1, 0, 0, .null, []) :: (49, 2, 0, 0, 0, .int 63, []) :: (51, 1, 5, 0, 3, .null, []) :: (52, 1, 30, 0, 0, .null, []) :: []
def qR_reaches_0 : List CE := (0, 1, 1, 0, 2, .null, []) :: (1, 3, 18, 0, 2, .null, []) :: (4, 1, 1, 1, 0, .null, []) :: (5, 3, 28, 75, 2, .null, []) :: (8, 1, 30, 0, 1, .null, []) :: []
def qR_solve_94 : List CE := (94, 1, 32, 0, 0, .null, []) :: []
def qR_solve_87 : List CE := (87, 1, 25, 0, 0, .null, []) :: (88, 3, 4, 2, 0, .int 1, []) :: (91, 3, 14, 57, 0, .null, []) :: []
def qR_solve_86 : List CE := (86, 1, 0, 0, 0, .long 0, []) :: qR_solve_87
def qR_solve_57 : List CE := (57, 1, 1, 2, 0, .null, []) :: (58, 1, 1, 0, 2, .null, []) :: (59, 3, 18, 0, 4, .null, []) :: (62, 3, 13, 94, 3, .null, []) :: (65, 1, 1, 0, 2, .null, []) :: (66, 3, 18, 0, 0, .null, []) :: (69, 1, 1, 2, 0, .null, []) :: (70, 1, 1, 0, 2, .null, []) :: (71, 1, 1, 2, 0, .null, []) :: (72, 3, 37, 1, 2, .null, [(0, 0)]) :: (75, 3, 12, 86, 0, .null, []) :: (78, 1, 1, 0, 2, .null, []) :: (79, 1, 1, 2, 0, .null, []) :: (80, 3, 37, 6, 2, .null, [(0, 0)]) :: (83, 3, 14, 87, 0, .null, []) :: []
def qR_solve_0 : List CE := (0, 1, 1, 0, 2, .null, []) :: (1, 1, 1, 1, 2, .null, []) :: (2, 3, 18, 3, 0, .null, []) :: (5, 3, 19, 0, 4, .int 0, []) :: (8, 1, 1, 0, 2, .null, []) :: (9, 1, 1, 1, 2, .null, []) :: (10, 3, 37, 36, 1, .null, [(0, 3)]) :: (13, 3, 19, 0, 2, .int 0, []) :: (16, 1, 1, 0, 2, .null, []) :: (17, 1, 1, 0, 2, .null, []) :: (18, 3, 18, 0, 2, .null, []) :: (21, 1, 1, 1, 2, .null, []) :: (22, 3, 37, 35, 1, .null, [(0, 3)]) :: (25, 1, 0, 0, 0, .int (-1), []) :: (26, 1, 5, 0, 5, .null, []) :: (27, 1, 5, 0, 3, .null, []) :: (28, 3, 19, 0, 3, .int 0, []) :: (31, 1, 1, 0, 2, .null, []) :: (32, 1, 1, 1, 2, .null, []) :: (33, 3, 37, 3, 2, .null, [(0, 0)]) :: (36, 1, 1, 0, 2, .null, []) :: (37, 3, 37, 4, 1, .null, [(0, 0)]) :: (40, 1, 1, 1, 2, .null, []) :: (41, 3, 18, 3, 2, .null, []) :: (44, 1, 0, 0, 0, .int 0, []) :: (45, 1, 1, 0, 2, .null, []) :: (46, 3, 18, 0, 5, .null, []) :: (49, 1, 0, 0, 0, .int 0, []) :: (50, 2, 0, 0, 0, .int 8, []) :: (52, 3, 29, 0, 0, .null, []) :: (55, 1, 0, 0, 0, .int 0, []) :: (56, 1, 2, 2, 0, .null, []) :: qR_solve_57
def qR_fillRows_96 : List CE := (96, 1, 32, 0, 0, .null, []) :: []
def qR_fillRows_90 : List CE := (90, 3, 4, 2, 0, .int 1, []) :: (93, 3, 14, 2, 0, .null, []) :: []
def qR_fillRows_60 : List CE := (60, 1, 1, 1, 2, .null, []) :: (61, 1, 1, 2, 0, .null, []) :: (62, 3, 37, 33, 2, .null, [(0, 3)]) :: (65, 2, 2, 4, 0, .null, []) :: (67, 1, 1, 0, 2, .null, []) :: (68, 3, 18, 0, 6, .null, []) :: (71, 1, 1, 3, 0, .null, []) :: (72, 1, 1, 2, 0, .null, []) :: (73, 1, 5, 0, 0, .null, []) :: (74, 2, 1, 4, 0, .null, []) :: (76, 1, 10, 0, 2, .null, []) :: (77, 1, 25, 0, 0, .null, []) :: (78, 1, 1, 0, 2, .null, []) :: (79, 3, 18, 0, 6, .null, []) :: (82, 1, 1, 3, 0, .null, []) :: (83, 2, 0, 0, 0, .int 8, []) :: (85, 1, 5, 0, 0, .null, []) :: (86, 2, 1, 4, 0, .null, []) :: (88, 1, 10, 0, 2, .null, []) :: (89, 1, 25, 0, 0, .null, []) :: qR_fillRows_90
def qR_fillRows_29 : List CE := (29, 2, 1, 4, 0, .null, []) :: (31, 2, 0, 0, 0, .int 8, []) :: (33, 3, 13, 60, 3, .null, []) :: (36, 1, 1, 0, 2, .null, []) :: (37, 3, 18, 0, 6, .null, []) :: (40, 1, 1, 3, 0, .null, []) :: (41, 2, 1, 4, 0, .null, []) :: (43, 1, 5, 0, 0, .null, []) :: (44, 1, 1, 1, 2, .null, []) :: (45, 1, 1, 2, 0, .null, []) :: (46, 2, 1, 4, 0, .null, []) :: (48, 3, 37, 29, 3, .null, [(0, 3)]) :: (51, 1, 10, 0, 0, .null, []) :: (52, 1, 10, 0, 2, .null, []) :: (53, 1, 25, 0, 0, .null, []) :: (54, 3, 4, 4, 0, .int 1, []) :: (57, 3, 14, 29, 0, .null, []) :: []
def qR_fillRows_2 : List CE := (2, 1, 1, 2, 0, .null, []) :: (3, 1, 1, 0, 2, .null, []) :: (4, 3, 18, 0, 4, .null, []) :: (7, 3, 13, 96, 3, .null, []) :: (10, 1, 1, 0, 2, .null, []) :: (11, 3, 18, 0, 3, .null, []) :: (14, 1, 1, 2, 0, .null, []) :: (15, 3, 28, 75, 2, .null, []) :: (18, 3, 12, 90, 0, .null, []) :: (21, 2, 0, 0, 0, .int 9, []) :: (23, 1, 1, 2, 0, .null, []) :: (24, 1, 5, 0, 2, .null, []) :: (25, 1, 2, 3, 0, .null, []) :: (26, 1, 0, 0, 0, .int 0, []) :: (27, 2, 2, 4, 0, .null, []) :: qR_fillRows_29
def qR_fillRows_0 : List CE := (0, 1, 0, 0, 0, .int 0, []) :: (1, 1, 2, 2, 0, .null, []) :: qR_fillRows_2
def qR_clearRows_85 : List CE := (85, 1, 1, 0, 2, .null, []) :: (86, 1, 1, 1, 1, .null, []) :: (87, 3, 19, 0, 1, .long 0, []) :: (90, 1, 32, 0, 0, .null, []) :: []
def qR_clearRows_79 : List CE := (79, 3, 4, 3, 0, .int 1, []) :: (82, 3, 14, 4, 0, .null, []) :: []
def qR_clearRows_67 : List CE := (67, 1, 1, 0, 2, .null, []) :: (68, 3, 18, 0, 6, .null, []) :: (71, 2, 0, 0, 0, .int 9, []) :: (73, 1, 1, 3, 0, .null, []) :: (74, 1, 5, 0, 2, .null, []) :: (75, 1, 1, 3, 0, .null, []) :: (76, 1, 5, 0, 0, .null, []) :: (77, 1, 21, 0, 0, .null, []) :: (78, 1, 3, 1, 0, .null, []) :: qR_clearRows_79
def qR_clearRows_61 : List CE := (61, 3, 4, 4, 0, .int 1, []) :: (64, 3, 14, 26, 0, .null, []) :: []
def qR_clearRows_26 : List CE := (26, 2, 1, 4, 0, .null, []) :: (28, 1, 1, 0, 2, .null, []) :: (29, 3, 18, 0, 4, .null, []) :: (32, 3, 13, 67, 3, .null, []) :: (35, 2, 1, 4, 0, .null, []) :: (37, 1, 1, 3, 0, .null, []) :: (38, 3, 13, 61, 0, .null, []) :: (41, 1, 1, 0, 2, .null, []) :: (42, 3, 18, 0, 3, .null, []) :: (45, 2, 1, 4, 0, .null, []) :: (47, 3, 28, 75, 2, .null, []) :: (50, 3, 12, 61, 0, .null, []) :: (53, 1, 1, 0, 2, .null, []) :: (54, 2, 1, 4, 0, .null, []) :: (56, 1, 1, 3, 0, .null, []) :: (57, 1, 1, 1, 1, .null, []) :: (58, 3, 37, 5, 4, .null, [(0, 0)]) :: qR_clearRows_61
def qR_clearRows_4 : List CE := (4, 1, 1, 3, 0, .null, []) :: (5, 1, 1, 0, 2, .null, []) :: (6, 3, 18, 0, 4, .null, []) :: (9, 3, 13, 85, 3, .null, []) :: (12, 1, 1, 0, 2, .null, []) :: (13, 3, 18, 0, 3, .null, []) :: (16, 1, 1, 3, 0, .null, []) :: (17, 3, 28, 75, 2, .null, []) :: (20, 3, 12, 79, 0, .null, []) :: (23, 1, 0, 0, 0, .int 0, []) :: (24, 2, 2, 4, 0, .null, []) :: qR_clearRows_26
def qR_clearRows_0 : List CE := (0, 1, 0, 0, 0, .long 1, []) :: (1, 1, 3, 1, 0, .null, []) :: (2, 1, 0, 0, 0, .int 0, []) :: (3, 1, 2, 3, 0, .null, []) :: qR_clearRows_4
def qR_clearRow_96 : List CE := (96, 1, 32, 0, 0, .null, []) :: []
def qR_clearRow_44 : List CE := (44, 2, 1, 11, 0, .null, []) :: (46, 2, 0, 0, 0, .int 9, []) :: (48, 3, 13, 96, 3, .null, []) :: (51, 1, 1, 0, 2, .null, []) :: (52, 3, 18, 0, 6, .null, []) :: (55, 2, 1, 5, 0, .null, []) :: (57, 2, 1, 11, 0, .null, []) :: (59, 1, 5, 0, 0, .null, []) :: (60, 2, 1, 7, 1, .null, []) :: (62, 1, 1, 0, 2, .null, []) :: (63, 3, 18, 0, 6, .null, []) :: (66, 2, 1, 5, 0, .null, []) :: (68, 2, 1, 11, 0, .null, []) :: (70, 1, 5, 0, 0, .null, []) :: (71, 1, 21, 0, 0, .null, []) :: (72, 1, 7, 0, 2, .null, []) :: (73, 2, 1, 9, 1, .null, []) :: (75, 1, 1, 0, 2, .null, []) :: (76, 3, 18, 0, 6, .null, []) :: (79, 2, 1, 6, 0, .null, []) :: (81, 2, 1, 11, 0, .null, []) :: (83, 1, 5, 0, 0, .null, []) :: (84, 1, 21, 0, 0, .null, []) :: (85, 1, 7, 0, 2, .null, []) :: (86, 1, 7, 0, 1, .null, []) :: (87, 1, 1, 3, 1, .null, []) :: (88, 1, 8, 0, 0, .null, []) :: (89, 1, 25, 0, 0, .null, []) :: (90, 3, 4, 11, 0, .int 1, []) :: (93, 3, 14, 44, 0, .null, []) :: []
def qR_clearRow_7 : List CE := (7, 2, 0, 0, 0, .int 9, []) :: (9, 1, 1, 1, 0, .null, []) :: (10, 1, 5, 0, 2, .null, []) :: (11, 2, 2, 5, 0, .null, []) :: (13, 2, 0, 0, 0, .int 9, []) :: (15, 1, 1, 2, 0, .null, []) :: (16, 1, 5, 0, 2, .null, []) :: (17, 2, 2, 6, 0, .null, []) :: (19, 1, 1, 0, 2, .null, []) :: (20, 3, 18, 0, 6, .null, []) :: (23, 2, 1, 6, 0, .null, []) :: (25, 1, 1, 2, 0, .null, []) :: (26, 1, 5, 0, 0, .null, []) :: (27, 1, 21, 0, 0, .null, []) :: (28, 2, 3, 7, 0, .null, []) :: (30, 1, 1, 0, 2, .null, []) :: (31, 3, 18, 0, 6, .null, []) :: (34, 2, 1, 5, 0, .null, []) :: (36, 1, 1, 2, 0, .null, []) :: (37, 1, 5, 0, 0, .null, []) :: (38, 1, 21, 0, 0, .null, []) :: (39, 2, 3, 9, 0, .null, []) :: (41, 1, 0, 0, 0, .int 0, []) :: (42, 2, 2, 11, 0, .null, []) :: qR_clearRow_44
def qR_clearRow_0 : List CE := (0, 1, 1, 3, 1, .null, []) :: (1, 1, 0, 0, 0, .long 0, []) :: (2, 1, 11, 0, 0, .null, []) :: (3, 3, 12, 7, 1, .null, []) :: (6, 1, 32, 0, 0, .null, []) :: []
def qR_rentAbove_58 : List CE := (58, 1, 1, 2, 1, .null, []) :: (59, 1, 31, 0, 0, .null, []) :: []
def qR_rentAbove_52 : List CE := (52, 3, 4, 4, 0, .int 1, []) :: (55, 3, 14, 5, 0, .null, []) :: []
def qR_rentAbove_5 : List CE := (5, 2, 1, 4, 0, .null, []) :: (7, 1, 1, 0, 2, .null, []) :: (8, 3, 18, 0, 4, .null, []) :: (11, 3, 13, 58, 3, .null, []) :: (14, 1, 1, 0, 2, .null, []) :: (15, 3, 18, 0, 2, .null, []) :: (18, 1, 1, 0, 2, .null, []) :: (19, 3, 18, 0, 3, .null, []) :: (22, 1, 0, 0, 0, .int (-1), []) :: (23, 1, 5, 0, 5, .null, []) :: (24, 1, 5, 0, 3, .null, []) :: (25, 2, 1, 4, 0, .null, []) :: (27, 3, 28, 75, 2, .null, []) :: (30, 3, 12, 52, 0, .null, []) :: (33, 1, 1, 2, 1, .null, []) :: (34, 1, 1, 0, 2, .null, []) :: (35, 1, 1, 1, 0, .null, []) :: (36, 2, 1, 4, 0, .null, []) :: (38, 3, 37, 7, 3, .null, [(0, 0)]) :: (41, 1, 1, 0, 2, .null, []) :: (42, 3, 18, 0, 5, .null, []) :: (45, 2, 1, 4, 0, .null, []) :: (47, 1, 20, 0, 0, .null, []) :: (48, 1, 10, 0, 2, .null, []) :: (49, 1, 7, 0, 2, .null, []) :: (50, 1, 7, 0, 0, .null, []) :: (51, 1, 3, 2, 0, .null, []) :: qR_rentAbove_52
def qR_rentAbove_0 : List CE := (0, 1, 0, 0, 0, .long 0, []) :: (1, 1, 3, 2, 0, .null, []) :: (2, 1, 0, 0, 0, .int 0, []) :: (3, 2, 2, 4, 0, .null, []) :: qR_rentAbove_5
def qR_movesAbove_37 : List CE := (37, 1, 31, 0, 0, .null, []) :: []
def qR_movesAbove_36 : List CE := (36, 1, 0, 0, 0, .long 0, []) :: qR_movesAbove_37
def qR_movesAbove_24 : List CE := (24, 1, 1, 1, 0, .null, []) :: (25, 1, 1, 2, 0, .null, []) :: (26, 3, 13, 36, 1, .null, []) :: (29, 1, 1, 0, 2, .null, []) :: (30, 3, 18, 0, 1, .null, []) :: (33, 3, 14, 37, 0, .null, []) :: []
def qR_movesAbove_0 : List CE := (0, 1, 1, 0, 2, .null, []) :: (1, 3, 18, 0, 3, .null, []) :: (4, 1, 1, 1, 0, .null, []) :: (5, 3, 28, 75, 2, .null, []) :: (8, 3, 12, 24, 0, .null, []) :: (11, 1, 1, 0, 2, .null, []) :: (12, 3, 18, 0, 6, .null, []) :: (15, 2, 0, 0, 0, .int 9, []) :: (17, 1, 1, 1, 0, .null, []) :: (18, 1, 5, 0, 2, .null, []) :: (19, 1, 1, 2, 0, .null, []) :: (20, 1, 5, 0, 0, .null, []) :: (21, 1, 21, 0, 0, .null, []) :: (22, 1, 10, 0, 1, .null, []) :: (23, 1, 31, 0, 0, .null, []) :: []
def qR_stepsAbove_27 : List CE := (27, 1, 31, 0, 0, .null, []) :: []
def qR_stepsAbove_26 : List CE := (26, 1, 0, 0, 0, .long 0, []) :: qR_stepsAbove_27
def qR_stepsAbove_0 : List CE := (0, 1, 1, 0, 2, .null, []) :: (1, 3, 18, 0, 3, .null, []) :: (4, 1, 1, 1, 0, .null, []) :: (5, 3, 28, 75, 2, .null, []) :: (8, 3, 12, 26, 0, .null, []) :: (11, 1, 1, 0, 2, .null, []) :: (12, 3, 18, 0, 6, .null, []) :: (15, 2, 0, 0, 0, .int 9, []) :: (17, 1, 1, 1, 0, .null, []) :: (18, 1, 5, 0, 2, .null, []) :: (19, 2, 0, 0, 0, .int 8, []) :: (21, 1, 5, 0, 0, .null, []) :: (22, 1, 21, 0, 0, .null, []) :: (23, 3, 14, 27, 0, .null, []) :: []
def qR_reprice_56 : List CE := (56, 1, 1, 0, 2, .null, []) :: (57, 3, 18, 0, 5, .null, []) :: (60, 1, 1, 1, 0, .null, []) :: (61, 1, 1, 2, 0, .null, []) :: (62, 1, 24, 0, 0, .null, []) :: (63, 1, 32, 0, 0, .null, []) :: []
def qR_reprice_50 : List CE := (50, 3, 4, 4, 0, .int 1, []) :: (53, 3, 14, 12, 0, .null, []) :: []
def qR_reprice_12 : List CE := (12, 2, 1, 4, 0, .null, []) :: (14, 1, 1, 0, 2, .null, []) :: (15, 3, 18, 0, 4, .null, []) :: (18, 3, 13, 56, 3, .null, []) :: (21, 1, 1, 0, 2, .null, []) :: (22, 2, 1, 4, 0, .null, []) :: (24, 3, 37, 1, 2, .null, [(0, 0)]) :: (27, 3, 12, 50, 0, .null, []) :: (30, 1, 1, 0, 2, .null, []) :: (31, 3, 18, 0, 0, .null, []) :: (34, 2, 1, 4, 0, .null, []) :: (36, 1, 17, 0, 0, .null, []) :: (37, 1, 21, 0, 0, .null, []) :: (38, 1, 1, 3, 0, .null, []) :: (39, 1, 10, 0, 2, .null, []) :: (40, 1, 1, 0, 2, .null, []) :: (41, 2, 1, 4, 0, .null, []) :: (43, 1, 1, 1, 0, .null, []) :: (44, 3, 37, 7, 3, .null, [(0, 0)]) :: (47, 1, 7, 0, 2, .null, []) :: (48, 1, 7, 0, 0, .null, []) :: (49, 1, 25, 0, 0, .null, []) :: qR_reprice_50
def qR_reprice_0 : List CE := (0, 1, 1, 2, 0, .null, []) :: (1, 1, 1, 0, 2, .null, []) :: (2, 3, 18, 0, 5, .null, []) :: (5, 1, 1, 1, 0, .null, []) :: (6, 1, 20, 0, 0, .null, []) :: (7, 1, 5, 0, 1, .null, []) :: (8, 1, 2, 3, 0, .null, []) :: (9, 1, 0, 0, 0, .int 0, []) :: (10, 2, 2, 4, 0, .null, []) :: qR_reprice_12
def qR_incomeAbove_71 : List CE := (71, 1, 1, 3, 1, .null, []) :: (72, 1, 31, 0, 0, .null, []) :: []
def qR_incomeAbove_65 : List CE := (65, 3, 4, 5, 0, .int 1, []) :: (68, 3, 14, 5, 0, .null, []) :: []
def qR_incomeAbove_5 : List CE := (5, 2, 1, 5, 0, .null, []) :: (7, 1, 1, 0, 2, .null, []) :: (8, 3, 18, 0, 4, .null, []) :: (11, 3, 13, 71, 3, .null, []) :: (14, 1, 1, 1, 2, .null, []) :: (15, 3, 18, 3, 3, .null, []) :: (18, 2, 1, 5, 0, .null, []) :: (20, 1, 20, 0, 0, .null, []) :: (21, 1, 1, 2, 0, .null, []) :: (22, 3, 13, 65, 1, .null, []) :: (25, 1, 1, 0, 2, .null, []) :: (26, 2, 1, 5, 0, .null, []) :: (28, 3, 37, 1, 2, .null, [(0, 0)]) :: (31, 3, 12, 65, 0, .null, []) :: (34, 1, 1, 0, 2, .null, []) :: (35, 3, 18, 0, 0, .null, []) :: (38, 2, 1, 5, 0, .null, []) :: (40, 1, 21, 0, 0, .null, []) :: (41, 1, 1, 1, 2, .null, []) :: (42, 3, 18, 3, 6, .null, []) :: (45, 1, 10, 0, 2, .null, []) :: (46, 1, 1, 0, 2, .null, []) :: (47, 3, 18, 0, 1, .null, []) :: (50, 1, 7, 0, 2, .null, []) :: (51, 1, 11, 0, 0, .null, []) :: (52, 3, 12, 65, 4, .null, []) :: (55, 1, 1, 3, 1, .null, []) :: (56, 1, 1, 0, 2, .null, []) :: (57, 3, 18, 0, 0, .null, []) :: (60, 2, 1, 5, 0, .null, []) :: (62, 1, 21, 0, 0, .null, []) :: (63, 1, 7, 0, 0, .null, []) :: (64, 1, 3, 3, 0, .null, []) :: qR_incomeAbove_65
def qR_incomeAbove_0 : List CE := (0, 1, 0, 0, 0, .long 0, []) :: (1, 1, 3, 3, 0, .null, []) :: (2, 1, 0, 0, 0, .int 0, []) :: (3, 2, 2, 5, 0, .null, []) :: qR_incomeAbove_5
def qR_areNear_59 : List CE := (59, 1, 0, 0, 0, .int 1, []) :: (60, 1, 30, 0, 1, .null, []) :: []
def qR_areNear_53 : List CE := (53, 3, 4, 3, 0, .int 1, []) :: (56, 3, 14, 2, 0, .null, []) :: []
def qR_areNear_2 : List CE := (2, 1, 1, 3, 0, .null, []) :: (3, 1, 1, 0, 2, .null, []) :: (4, 3, 18, 0, 4, .null, []) :: (7, 3, 13, 59, 3, .null, []) :: (10, 1, 1, 0, 2, .null, []) :: (11, 1, 1, 3, 0, .null, []) :: (12, 3, 37, 1, 2, .null, [(0, 0)]) :: (15, 3, 12, 53, 0, .null, []) :: (18, 1, 1, 1, 2, .null, []) :: (19, 3, 18, 3, 2, .null, []) :: (22, 1, 1, 3, 0, .null, []) :: (23, 1, 20, 0, 0, .null, []) :: (24, 1, 10, 0, 2, .null, []) :: (25, 1, 1, 0, 2, .null, []) :: (26, 3, 18, 0, 1, .null, []) :: (29, 1, 7, 0, 2, .null, []) :: (30, 1, 1, 0, 2, .null, []) :: (31, 3, 18, 0, 0, .null, []) :: (34, 1, 1, 3, 0, .null, []) :: (35, 1, 21, 0, 0, .null, []) :: (36, 1, 7, 0, 1, .null, []) :: (37, 3, 36, 0, 0, .null, []) :: (40, 1, 1, 2, 0, .null, []) :: (41, 1, 10, 0, 2, .null, []) :: (42, 1, 1, 0, 2, .null, []) :: (43, 3, 18, 0, 1, .null, []) :: (46, 1, 7, 0, 2, .null, []) :: (47, 1, 11, 0, 0, .null, []) :: (48, 3, 12, 53, 5, .null, []) :: (51, 1, 0, 0, 0, .int 0, []) :: (52, 1, 30, 0, 1, .null, []) :: []
def qR_areNear_0 : List CE := (0, 1, 0, 0, 0, .int 0, []) :: (1, 1, 2, 3, 0, .null, []) :: qR_areNear_2
def qS_renew_36 : List CE := (36, 1, 32, 0, 0, .null, []) :: []
def qS_renew_17 : List CE := (17, 1, 1, 3, 0, .null, []) :: (18, 2, 0, 0, 0, .int 20, []) :: (20, 3, 13, 36, 3, .null, []) :: (23, 1, 1, 0, 2, .null, []) :: (24, 3, 18, 1, 3, .null, []) :: (27, 1, 1, 3, 0, .null, []) :: (28, 1, 0, 0, 0, .long 0, []) :: (29, 1, 25, 0, 0, .null, []) :: (30, 3, 4, 3, 0, .int 1, []) :: (33, 3, 14, 17, 0, .null, []) :: []
def qS_renew_0 : List CE := (0, 1, 1, 0, 2, .null, []) :: (1, 1, 0, 0, 0, .int 1, []) :: (2, 3, 19, 1, 0, .int 1, []) :: (5, 1, 1, 0, 2, .null, []) :: (6, 1, 1, 1, 0, .null, []) :: (7, 3, 19, 1, 1, .int 0, []) :: (10, 1, 1, 0, 2, .null, []) :: (11, 1, 1, 2, 0, .null, []) :: (12, 3, 19, 1, 2, .int 0, []) :: (15, 1, 0, 0, 0, .int 0, []) :: (16, 1, 2, 3, 0, .null, []) :: qS_renew_17
def qS_holds_23 : List CE := (23, 1, 30, 0, 1, .null, []) :: []
def qS_holds_22 : List CE := (22, 1, 0, 0, 0, .int 0, []) :: qS_holds_23
def qS_holds_0 : List CE := (0, 1, 1, 1, 0, .null, []) :: (1, 3, 12, 22, 2, .null, []) :: (4, 1, 1, 2, 0, .null, []) :: (5, 3, 12, 22, 2, .null, []) :: (8, 1, 1, 1, 0, .null, []) :: (9, 1, 1, 0, 2, .null, []) :: (10, 3, 18, 1, 2, .null, []) :: (13, 1, 1, 2, 0, .null, []) :: (14, 1, 5, 0, 1, .null, []) :: (15, 3, 13, 22, 4, .null, []) :: (18, 1, 0, 0, 0, .int 1, []) :: (19, 3, 14, 23, 0, .null, []) :: []
def qP_append_42 : List CE := (42, 1, 32, 0, 0, .null, []) :: []
def qP_append_5 : List CE := (5, 2, 1, 4, 0, .null, []) :: (7, 3, 12, 42, 2, .null, []) :: (10, 1, 1, 0, 2, .null, []) :: (11, 3, 18, 2, 0, .null, []) :: (14, 1, 1, 0, 2, .null, []) :: (15, 3, 18, 2, 1, .null, []) :: (18, 1, 1, 1, 1, .null, []) :: (19, 2, 1, 4, 0, .null, []) :: (21, 3, 28, 77, 2, .null, []) :: (24, 1, 10, 0, 4, .null, []) :: (25, 1, 26, 0, 0, .null, []) :: (26, 1, 1, 0, 2, .null, []) :: (27, 1, 15, 0, 0, .null, []) :: (28, 3, 18, 2, 1, .null, []) :: (31, 1, 0, 0, 0, .int 1, []) :: (32, 1, 5, 0, 0, .null, []) :: (33, 3, 19, 2, 1, .int 0, []) :: (36, 3, 4, 4, 0, .int (-1), []) :: (39, 3, 14, 5, 0, .null, []) :: []
def qP_append_0 : List CE := (0, 1, 1, 3, 0, .null, []) :: (1, 1, 0, 0, 0, .int 1, []) :: (2, 1, 5, 0, 1, .null, []) :: (3, 2, 2, 4, 0, .null, []) :: qP_append_5
def qP_readTown_54 : List CE := (54, 1, 30, 0, 0, .null, []) :: []
def qP_readTown_53 : List CE := (53, 1, 1, 2, 0, .null, []) :: qP_readTown_54
def qP_readTown_42 : List CE := (42, 1, 1, 2, 0, .null, []) :: (43, 3, 12, 53, 1, .null, []) :: (46, 1, 1, 1, 2, .null, []) :: (47, 3, 18, 3, 0, .null, []) :: (50, 3, 14, 54, 0, .null, []) :: []
def qP_readTown_0 : List CE := (0, 1, 1, 0, 2, .null, []) :: (1, 1, 0, 0, 0, .int 0, []) :: (2, 3, 19, 2, 2, .int 0, []) :: (5, 1, 1, 0, 2, .null, []) :: (6, 1, 1, 1, 2, .null, []) :: (7, 3, 37, 16, 2, .null, [(0, 2)]) :: (10, 1, 2, 2, 0, .null, []) :: (11, 1, 1, 2, 0, .null, []) :: (12, 3, 12, 42, 1, .null, []) :: (15, 1, 1, 0, 2, .null, []) :: (16, 3, 18, 2, 2, .null, []) :: (19, 1, 1, 0, 2, .null, []) :: (20, 3, 18, 2, 1, .null, []) :: (23, 3, 13, 42, 3, .null, []) :: (26, 1, 1, 0, 2, .null, []) :: (27, 1, 15, 0, 0, .null, []) :: (28, 3, 18, 2, 2, .null, []) :: (31, 1, 0, 0, 0, .int 1, []) :: (32, 1, 5, 0, 0, .null, []) :: (33, 3, 19, 2, 2, .int 0, []) :: (36, 1, 1, 0, 2, .null, []) :: (37, 1, 1, 1, 2, .null, []) :: (38, 3, 37, 17, 2, .null, [(0, 2)]) :: (41, 1, 2, 2, 0, .null, []) :: qP_readTown_42
def qP_readHouses_118 : List CE := (118, 1, 1, 0, 2, .null, []) :: (119, 3, 37, 18, 1, .null, [(0, 2)]) :: (122, 1, 30, 0, 0, .null, []) :: []
def qP_readHouses_102 : List CE := (102, 1, 1, 0, 2, .null, []) :: (103, 1, 15, 0, 0, .null, []) :: (104, 3, 18, 2, 2, .null, []) :: (107, 1, 0, 0, 0, .int 1, []) :: (108, 1, 5, 0, 0, .null, []) :: (109, 3, 19, 2, 2, .int 0, []) :: (112, 3, 4, 2, 0, .int 1, []) :: (115, 3, 14, 2, 0, .null, []) :: []
def qP_readHouses_97 : List CE := (97, 1, 1, 0, 2, .null, []) :: (98, 3, 37, 18, 1, .null, [(0, 2)]) :: (101, 1, 30, 0, 0, .null, []) :: []
def qP_readHouses_84 : List CE := (84, 2, 1, 5, 0, .null, []) :: (86, 2, 0, 0, 0, .int 44, []) :: (88, 3, 13, 97, 1, .null, []) :: (91, 1, 1, 2, 0, .null, []) :: (92, 2, 0, 0, 0, .int 7, []) :: (94, 3, 13, 102, 1, .null, []) :: qP_readHouses_97
def qP_readHouses_82 : List CE := (82, 1, 0, 0, 0, .int 0, []) :: (83, 1, 30, 0, 0, .null, []) :: []
def qP_readHouses_55 : List CE := (55, 1, 1, 1, 2, .null, []) :: (56, 1, 1, 3, 0, .null, []) :: (57, 2, 1, 4, 0, .null, []) :: (59, 3, 37, 28, 3, .null, [(0, 3)]) :: (62, 1, 16, 0, 0, .null, []) :: (63, 1, 1, 0, 2, .null, []) :: (64, 3, 37, 20, 1, .null, [(0, 2)]) :: (67, 2, 2, 5, 0, .null, []) :: (69, 2, 1, 5, 0, .null, []) :: (71, 1, 0, 0, 0, .int (-1), []) :: (72, 3, 13, 82, 0, .null, []) :: (75, 2, 1, 5, 0, .null, []) :: (77, 2, 0, 0, 0, .int 59, []) :: (79, 3, 13, 84, 1, .null, []) :: qP_readHouses_82
def qP_readHouses_27 : List CE := (27, 1, 1, 0, 2, .null, []) :: (28, 1, 15, 0, 0, .null, []) :: (29, 3, 18, 2, 2, .null, []) :: (32, 1, 0, 0, 0, .int 1, []) :: (33, 1, 5, 0, 0, .null, []) :: (34, 3, 19, 2, 2, .int 0, []) :: (37, 1, 1, 0, 2, .null, []) :: (38, 3, 37, 24, 1, .null, [(0, 2)]) :: (41, 2, 2, 4, 0, .null, []) :: (43, 2, 1, 4, 0, .null, []) :: (45, 2, 0, 0, 0, .int (-4), []) :: (47, 3, 13, 55, 1, .null, []) :: (50, 1, 1, 0, 2, .null, []) :: (51, 3, 37, 18, 1, .null, [(0, 2)]) :: (54, 1, 30, 0, 0, .null, []) :: []
def qP_readHouses_2 : List CE := (2, 1, 1, 2, 0, .null, []) :: (3, 2, 0, 0, 0, .int 8, []) :: (5, 3, 13, 118, 3, .null, []) :: (8, 1, 1, 0, 2, .null, []) :: (9, 3, 37, 20, 1, .null, [(0, 2)]) :: (12, 3, 28, 21, 1, .null, []) :: (15, 1, 2, 3, 0, .null, []) :: (16, 1, 1, 3, 0, .null, []) :: (17, 2, 0, 0, 0, .int (-4), []) :: (19, 3, 13, 27, 1, .null, []) :: (22, 1, 1, 0, 2, .null, []) :: (23, 3, 37, 18, 1, .null, [(0, 2)]) :: (26, 1, 30, 0, 0, .null, []) :: []
def qP_readHouses_0 : List CE := (0, 1, 0, 0, 0, .int 0, []) :: (1, 1, 2, 2, 0, .null, []) :: qP_readHouses_2
def qP_readShares_206 : List CE := (206, 1, 1, 0, 2, .null, []) :: (207, 3, 37, 18, 1, .null, [(0, 2)]) :: (210, 1, 30, 0, 0, .null, []) :: []
def qP_readShares_190 : List CE := (190, 1, 1, 0, 2, .null, []) :: (191, 1, 15, 0, 0, .null, []) :: (192, 3, 18, 2, 2, .null, []) :: (195, 1, 0, 0, 0, .int 1, []) :: (196, 1, 5, 0, 0, .null, []) :: (197, 3, 19, 2, 2, .int 0, []) :: (200, 3, 4, 4, 0, .int 1, []) :: (203, 3, 14, 5, 0, .null, []) :: []
def qP_readShares_185 : List CE := (185, 1, 1, 0, 2, .null, []) :: (186, 3, 37, 18, 1, .null, [(0, 2)]) :: (189, 1, 30, 0, 0, .null, []) :: []
def qP_readShares_171 : List CE := (171, 2, 1, 8, 0, .null, []) :: (173, 2, 0, 0, 0, .int 44, []) :: (175, 3, 13, 185, 1, .null, []) :: (178, 2, 1, 4, 0, .null, []) :: (180, 2, 0, 0, 0, .int 11, []) :: (182, 3, 13, 190, 1, .null, []) :: qP_readShares_185
def qP_readShares_147 : List CE := (147, 1, 1, 1, 2, .null, []) :: (148, 2, 1, 5, 0, .null, []) :: (150, 2, 1, 6, 0, .null, []) :: (152, 2, 1, 7, 0, .null, []) :: (154, 3, 37, 30, 4, .null, [(0, 3)]) :: (157, 1, 1, 0, 2, .null, []) :: (158, 3, 37, 20, 1, .null, [(0, 2)]) :: (161, 2, 2, 8, 0, .null, []) :: (163, 2, 1, 8, 0, .null, []) :: (165, 1, 0, 0, 0, .int (-1), []) :: (166, 3, 13, 171, 1, .null, []) :: (169, 1, 0, 0, 0, .int 0, []) :: (170, 1, 30, 0, 0, .null, []) :: []
def qP_readShares_118 : List CE := (118, 1, 1, 0, 2, .null, []) :: (119, 1, 15, 0, 0, .null, []) :: (120, 3, 18, 2, 2, .null, []) :: (123, 1, 0, 0, 0, .int 1, []) :: (124, 1, 5, 0, 0, .null, []) :: (125, 3, 19, 2, 2, .int 0, []) :: (128, 1, 1, 0, 2, .null, []) :: (129, 1, 0, 0, 0, .int 3, []) :: (130, 3, 37, 23, 2, .null, [(0, 2)]) :: (133, 2, 2, 7, 0, .null, []) :: (135, 2, 1, 7, 0, .null, []) :: (137, 2, 0, 0, 0, .int (-4), []) :: (139, 3, 13, 147, 1, .null, []) :: (142, 1, 1, 0, 2, .null, []) :: (143, 3, 37, 18, 1, .null, [(0, 2)]) :: (146, 1, 30, 0, 0, .null, []) :: []
def qP_readShares_82 : List CE := (82, 1, 1, 2, 1, .null, []) :: (83, 1, 0, 0, 0, .long 1, []) :: (84, 2, 1, 5, 0, .null, []) :: (86, 2, 1, 6, 0, .null, []) :: (88, 3, 28, 19, 2, .null, []) :: (91, 1, 9, 0, 0, .null, []) :: (92, 1, 7, 0, 4, .null, []) :: (93, 1, 3, 2, 0, .null, []) :: (94, 1, 1, 0, 2, .null, []) :: (95, 1, 15, 0, 0, .null, []) :: (96, 3, 18, 2, 2, .null, []) :: (99, 1, 0, 0, 0, .int 1, []) :: (100, 1, 5, 0, 0, .null, []) :: (101, 3, 19, 2, 2, .int 0, []) :: (104, 1, 1, 0, 2, .null, []) :: (105, 3, 37, 20, 1, .null, [(0, 2)]) :: (108, 2, 0, 0, 0, .int 61, []) :: (110, 3, 13, 118, 0, .null, []) :: (113, 1, 1, 0, 2, .null, []) :: (114, 3, 37, 18, 1, .null, [(0, 2)]) :: (117, 1, 30, 0, 0, .null, []) :: []
def qP_readShares_77 : List CE := (77, 1, 1, 0, 2, .null, []) :: (78, 3, 37, 18, 1, .null, [(0, 2)]) :: (81, 1, 30, 0, 0, .null, []) :: []
def qP_readShares_34 : List CE := (34, 1, 1, 0, 2, .null, []) :: (35, 3, 37, 20, 1, .null, [(0, 2)]) :: (38, 1, 1, 1, 2, .null, []) :: (39, 3, 18, 3, 0, .null, []) :: (42, 3, 28, 22, 2, .null, []) :: (45, 2, 2, 6, 0, .null, []) :: (47, 2, 1, 6, 0, .null, []) :: (49, 2, 0, 0, 0, .int (-4), []) :: (51, 3, 13, 77, 0, .null, []) :: (54, 2, 1, 5, 0, .null, []) :: (56, 2, 1, 6, 0, .null, []) :: (58, 3, 13, 77, 0, .null, []) :: (61, 1, 1, 2, 1, .null, []) :: (62, 2, 1, 5, 0, .null, []) :: (64, 2, 1, 6, 0, .null, []) :: (66, 3, 28, 19, 2, .null, []) :: (69, 1, 9, 0, 1, .null, []) :: (70, 1, 0, 0, 0, .long 1, []) :: (71, 1, 7, 0, 3, .null, []) :: (72, 1, 0, 0, 0, .long 1, []) :: (73, 1, 11, 0, 0, .null, []) :: (74, 3, 12, 82, 1, .null, []) :: qP_readShares_77
def qP_readShares_5 : List CE := (5, 2, 1, 4, 0, .null, []) :: (7, 2, 0, 0, 0, .int 12, []) :: (9, 3, 13, 206, 3, .null, []) :: (12, 1, 1, 0, 2, .null, []) :: (13, 1, 1, 1, 2, .null, []) :: (14, 3, 18, 3, 0, .null, []) :: (17, 3, 37, 23, 2, .null, [(0, 2)]) :: (20, 2, 2, 5, 0, .null, []) :: (22, 2, 1, 5, 0, .null, []) :: (24, 2, 0, 0, 0, .int (-4), []) :: (26, 3, 13, 34, 1, .null, []) :: (29, 1, 1, 0, 2, .null, []) :: (30, 3, 37, 18, 1, .null, [(0, 2)]) :: (33, 1, 30, 0, 0, .null, []) :: []
def qP_readShares_0 : List CE := (0, 1, 0, 0, 0, .long 0, []) :: (1, 1, 3, 2, 0, .null, []) :: (2, 1, 0, 0, 0, .int 0, []) :: (3, 2, 2, 4, 0, .null, []) :: qP_readShares_5
def qP_faultHere_0 : List CE := (0, 2, 0, 0, 0, .int (-20), []) :: (2, 1, 1, 0, 2, .null, []) :: (3, 3, 18, 2, 2, .null, []) :: (6, 1, 5, 0, 1, .null, []) :: (7, 1, 30, 0, 0, .null, []) :: []
def qP_pairPlace_0 : List CE := (0, 2, 0, 0, 0, .int 8, []) :: (2, 1, 1, 0, 0, .null, []) :: (3, 1, 1, 1, 0, .null, []) :: (4, 3, 34, 0, 0, .null, []) :: (7, 1, 5, 0, 2, .null, []) :: (8, 1, 1, 0, 0, .null, []) :: (9, 1, 1, 1, 0, .null, []) :: (10, 3, 35, 0, 0, .null, []) :: (13, 1, 5, 0, 0, .null, []) :: (14, 1, 30, 0, 0, .null, []) :: []
def qP_nextSign_62 : List CE := (62, 1, 30, 0, 0, .null, []) :: []
def qP_nextSign_61 : List CE := (61, 1, 0, 0, 0, .int (-1), []) :: qP_nextSign_62
def qP_nextSign_38 : List CE := (38, 1, 1, 0, 2, .null, []) :: (39, 3, 18, 2, 2, .null, []) :: (42, 1, 1, 0, 2, .null, []) :: (43, 3, 18, 2, 1, .null, []) :: (46, 3, 13, 61, 3, .null, []) :: (49, 1, 1, 0, 2, .null, []) :: (50, 3, 18, 2, 0, .null, []) :: (53, 1, 1, 0, 2, .null, []) :: (54, 3, 18, 2, 2, .null, []) :: (57, 1, 22, 0, 0, .null, []) :: (58, 3, 14, 62, 0, .null, []) :: []
def qP_nextSign_0 : List CE := (0, 1, 1, 0, 2, .null, []) :: (1, 3, 18, 2, 2, .null, []) :: (4, 1, 1, 0, 2, .null, []) :: (5, 3, 18, 2, 1, .null, []) :: (8, 3, 13, 38, 3, .null, []) :: (11, 1, 1, 0, 2, .null, []) :: (12, 3, 18, 2, 0, .null, []) :: (15, 1, 1, 0, 2, .null, []) :: (16, 3, 18, 2, 2, .null, []) :: (19, 1, 22, 0, 0, .null, []) :: (20, 2, 0, 0, 0, .int 32, []) :: (22, 3, 13, 38, 1, .null, []) :: (25, 1, 1, 0, 2, .null, []) :: (26, 1, 15, 0, 0, .null, []) :: (27, 3, 18, 2, 2, .null, []) :: (30, 1, 0, 0, 0, .int 1, []) :: (31, 1, 5, 0, 0, .null, []) :: (32, 3, 19, 2, 2, .int 0, []) :: (35, 3, 14, 0, 0, .null, []) :: []
def qP_kindOf_52 : List CE := (52, 2, 0, 0, 0, .int (-4), []) :: (54, 1, 30, 0, 0, .null, []) :: []
def qP_kindOf_50 : List CE := (50, 1, 0, 0, 0, .int 3, []) :: (51, 1, 30, 0, 0, .null, []) :: []
def qP_kindOf_48 : List CE := (48, 1, 0, 0, 0, .int 2, []) :: (49, 1, 30, 0, 0, .null, []) :: []
def qP_kindOf_46 : List CE := (46, 1, 0, 0, 0, .int 1, []) :: (47, 1, 30, 0, 0, .null, []) :: []
def qP_kindOf_44 : List CE := (44, 1, 0, 0, 0, .int 0, []) :: (45, 1, 30, 0, 0, .null, []) :: []
def qP_kindOf_0 : List CE := (0, 1, 1, 0, 0, .null, []) :: (1, 43, 33, 52, 0, .null, [(99, 48), (102, 50), (103, 46), (112, 44)]) :: []
def qP_digitOf_20 : List CE := (20, 1, 30, 0, 0, .null, []) :: []
def qP_digitOf_18 : List CE := (18, 2, 0, 0, 0, .int (-4), []) :: qP_digitOf_20
def qP_digitOf_0 : List CE := (0, 1, 1, 0, 0, .null, []) :: (1, 2, 0, 0, 0, .int 48, []) :: (3, 1, 5, 0, 1, .null, []) :: (4, 1, 2, 2, 0, .null, []) :: (5, 1, 1, 2, 0, .null, []) :: (6, 3, 12, 18, 2, .null, []) :: (9, 1, 1, 2, 0, .null, []) :: (10, 1, 1, 1, 0, .null, []) :: (11, 3, 13, 18, 3, .null, []) :: (14, 1, 1, 2, 0, .null, []) :: (15, 3, 14, 20, 0, .null, []) :: []
def qP_readDigit_25 : List CE := (25, 1, 1, 2, 0, .null, []) :: (26, 1, 30, 0, 0, .null, []) :: []
def qP_readDigit_0 : List CE := (0, 1, 1, 0, 2, .null, []) :: (1, 3, 37, 20, 1, .null, [(0, 2)]) :: (4, 1, 1, 1, 0, .null, []) :: (5, 3, 28, 22, 2, .null, []) :: (8, 1, 2, 2, 0, .null, []) :: (9, 1, 1, 2, 0, .null, []) :: (10, 2, 0, 0, 0, .int (-4), []) :: (12, 3, 13, 25, 0, .null, []) :: (15, 1, 1, 0, 2, .null, []) :: (16, 1, 15, 0, 0, .null, []) :: (17, 3, 18, 2, 2, .null, []) :: (20, 1, 0, 0, 0, .int 1, []) :: (21, 1, 5, 0, 0, .null, []) :: (22, 3, 19, 2, 2, .int 0, []) :: qP_readDigit_25
def qP_readNumber_81 : List CE := (81, 1, 1, 0, 2, .null, []) :: (82, 1, 1, 2, 0, .null, []) :: (83, 3, 19, 2, 2, .int 0, []) :: (86, 1, 1, 1, 0, .null, []) :: (87, 1, 30, 0, 0, .null, []) :: []
def qP_readNumber_78 : List CE := (78, 2, 0, 0, 0, .int (-4), []) :: (80, 1, 30, 0, 0, .null, []) :: []
def qP_readNumber_64 : List CE := (64, 1, 1, 2, 0, .null, []) :: (65, 1, 1, 0, 2, .null, []) :: (66, 3, 18, 2, 2, .null, []) :: (69, 3, 13, 78, 0, .null, []) :: (72, 1, 1, 1, 0, .null, []) :: (73, 2, 0, 0, 0, .int 99, []) :: (75, 3, 13, 81, 5, .null, []) :: qP_readNumber_78
def qP_readNumber_12 : List CE := (12, 1, 1, 2, 0, .null, []) :: (13, 1, 1, 0, 2, .null, []) :: (14, 3, 18, 2, 1, .null, []) :: (17, 3, 13, 64, 3, .null, []) :: (20, 1, 1, 0, 2, .null, []) :: (21, 3, 18, 2, 0, .null, []) :: (24, 1, 1, 2, 0, .null, []) :: (25, 1, 22, 0, 0, .null, []) :: (26, 2, 0, 0, 0, .int 10, []) :: (28, 3, 28, 22, 2, .null, []) :: (31, 2, 0, 0, 0, .int (-4), []) :: (33, 3, 13, 64, 0, .null, []) :: (36, 2, 0, 0, 0, .int 10, []) :: (38, 1, 1, 1, 0, .null, []) :: (39, 1, 5, 0, 2, .null, []) :: (40, 1, 1, 0, 2, .null, []) :: (41, 3, 18, 2, 0, .null, []) :: (44, 1, 1, 2, 0, .null, []) :: (45, 1, 22, 0, 0, .null, []) :: (46, 2, 0, 0, 0, .int 10, []) :: (48, 3, 28, 22, 2, .null, []) :: (51, 1, 5, 0, 0, .null, []) :: (52, 2, 0, 0, 0, .int 100, []) :: (54, 3, 34, 0, 0, .null, []) :: (57, 1, 2, 1, 0, .null, []) :: (58, 3, 4, 2, 0, .int 1, []) :: (61, 3, 14, 12, 0, .null, []) :: []
def qP_readNumber_0 : List CE := (0, 1, 1, 0, 2, .null, []) :: (1, 3, 37, 20, 1, .null, [(0, 2)]) :: (4, 1, 16, 0, 0, .null, []) :: (5, 1, 0, 0, 0, .int 0, []) :: (6, 1, 2, 1, 0, .null, []) :: (7, 1, 1, 0, 2, .null, []) :: (8, 3, 18, 2, 2, .null, []) :: (11, 1, 2, 2, 0, .null, []) :: qP_readNumber_12
def qT_has_17 : List CE := (17, 1, 30, 0, 1, .null, []) :: []
def qT_has_16 : List CE := (16, 1, 0, 0, 0, .int 0, []) :: qT_has_17
def qT_has_0 : List CE := (0, 1, 1, 1, 0, .null, []) :: (1, 3, 12, 16, 2, .null, []) :: (4, 1, 1, 1, 0, .null, []) :: (5, 1, 1, 0, 2, .null, []) :: (6, 3, 18, 3, 0, .null, []) :: (9, 3, 13, 16, 3, .null, []) :: (12, 1, 0, 0, 0, .int 1, []) :: (13, 3, 14, 17, 0, .null, []) :: []
def qT_hasTwo_26 : List CE := (26, 1, 30, 0, 1, .null, []) :: []
def qT_hasTwo_25 : List CE := (25, 1, 0, 0, 0, .int 0, []) :: qT_hasTwo_26
def qT_hasTwo_0 : List CE := (0, 1, 1, 0, 2, .null, []) :: (1, 1, 1, 1, 0, .null, []) :: (2, 3, 37, 25, 2, .null, [(0, 3)]) :: (5, 3, 12, 25, 0, .null, []) :: (8, 1, 1, 0, 2, .null, []) :: (9, 1, 1, 2, 0, .null, []) :: (10, 3, 37, 25, 2, .null, [(0, 3)]) :: (13, 3, 12, 25, 0, .null, []) :: (16, 1, 1, 1, 0, .null, []) :: (17, 1, 1, 2, 0, .null, []) :: (18, 3, 13, 25, 0, .null, []) :: (21, 1, 0, 0, 0, .int 1, []) :: (22, 3, 14, 26, 0, .null, []) :: []
def qT_isFixed_25 : List CE := (25, 1, 30, 0, 1, .null, []) :: []
def qT_isFixed_24 : List CE := (24, 1, 0, 0, 0, .int 0, []) :: qT_isFixed_25
def qT_isFixed_20 : List CE := (20, 1, 0, 0, 0, .int 1, []) :: (21, 3, 14, 25, 0, .null, []) :: []
def qT_isFixed_0 : List CE := (0, 1, 1, 0, 2, .null, []) :: (1, 3, 18, 3, 1, .null, []) :: (4, 1, 1, 1, 0, .null, []) :: (5, 1, 20, 0, 0, .null, []) :: (6, 1, 0, 0, 0, .int 1, []) :: (7, 3, 13, 20, 0, .null, []) :: (10, 1, 1, 0, 2, .null, []) :: (11, 3, 18, 3, 1, .null, []) :: (14, 1, 1, 1, 0, .null, []) :: (15, 1, 20, 0, 0, .null, []) :: (16, 1, 0, 0, 0, .int 3, []) :: (17, 3, 13, 24, 1, .null, []) :: qT_isFixed_20
def qT_build_0 : List CE := (0, 1, 1, 0, 2, .null, []) :: (1, 3, 18, 3, 0, .null, []) :: (4, 1, 2, 3, 0, .null, []) :: (5, 1, 1, 0, 2, .null, []) :: (6, 3, 18, 3, 1, .null, []) :: (9, 1, 1, 3, 0, .null, []) :: (10, 1, 1, 1, 0, .null, []) :: (11, 1, 24, 0, 0, .null, []) :: (12, 1, 1, 0, 2, .null, []) :: (13, 3, 18, 3, 2, .null, []) :: (16, 1, 1, 3, 0, .null, []) :: (17, 1, 1, 2, 0, .null, []) :: (18, 1, 24, 0, 0, .null, []) :: (19, 1, 1, 0, 2, .null, []) :: (20, 3, 18, 3, 3, .null, []) :: (23, 1, 1, 3, 0, .null, []) :: (24, 1, 0, 0, 0, .int 0, []) :: (25, 1, 24, 0, 0, .null, []) :: (26, 1, 1, 0, 2, .null, []) :: (27, 3, 18, 3, 4, .null, []) :: (30, 1, 1, 3, 0, .null, []) :: (31, 2, 0, 0, 0, .int 99, []) :: (33, 1, 24, 0, 0, .null, []) :: (34, 1, 1, 0, 2, .null, []) :: (35, 1, 15, 0, 0, .null, []) :: (36, 3, 18, 3, 0, .null, []) :: (39, 1, 0, 0, 0, .int 1, []) :: (40, 1, 5, 0, 0, .null, []) :: (41, 3, 19, 3, 0, .int 0, []) :: (44, 1, 1, 3, 0, .null, []) :: (45, 1, 30, 0, 0, .null, []) :: []
def qT_shareOf_0 : List CE := (0, 1, 1, 0, 2, .null, []) :: (1, 3, 18, 3, 5, .null, []) :: (4, 2, 0, 0, 0, .int 8, []) :: (6, 1, 1, 1, 0, .null, []) :: (7, 1, 5, 0, 2, .null, []) :: (8, 1, 1, 2, 0, .null, []) :: (9, 1, 5, 0, 0, .null, []) :: (10, 1, 20, 0, 0, .null, []) :: (11, 1, 30, 0, 0, .null, []) :: []
def qT_putShare_0 : List CE := (0, 1, 1, 0, 2, .null, []) :: (1, 3, 18, 3, 5, .null, []) :: (4, 2, 0, 0, 0, .int 8, []) :: (6, 1, 1, 1, 0, .null, []) :: (7, 1, 5, 0, 2, .null, []) :: (8, 1, 1, 2, 0, .null, []) :: (9, 1, 5, 0, 0, .null, []) :: (10, 1, 1, 3, 0, .null, []) :: (11, 1, 24, 0, 0, .null, []) :: (12, 1, 1, 0, 2, .null, []) :: (13, 3, 18, 3, 5, .null, []) :: (16, 2, 0, 0, 0, .int 8, []) :: (18, 1, 1, 2, 0, .null, []) :: (19, 1, 5, 0, 2, .null, []) :: (20, 1, 1, 1, 0, .null, []) :: (21, 1, 5, 0, 0, .null, []) :: (22, 1, 1, 3, 0, .null, []) :: (23, 1, 24, 0, 0, .null, []) :: (24, 1, 32, 0, 0, .null, []) :: []
def qT_pullDown_21 : List CE := (21, 1, 32, 0, 0, .null, []) :: []
def qT_pullDown_2 : List CE := (2, 1, 1, 2, 0, .null, []) :: (3, 2, 0, 0, 0, .int 8, []) :: (5, 3, 13, 21, 3, .null, []) :: (8, 1, 1, 0, 2, .null, []) :: (9, 1, 1, 1, 0, .null, []) :: (10, 1, 1, 2, 0, .null, []) :: (11, 1, 0, 0, 0, .int 0, []) :: (12, 3, 37, 30, 4, .null, [(0, 3)]) :: (15, 3, 4, 2, 0, .int 1, []) :: (18, 3, 14, 2, 0, .null, []) :: []
def qT_pullDown_0 : List CE := (0, 1, 0, 0, 0, .int 0, []) :: (1, 1, 2, 2, 0, .null, []) :: qT_pullDown_2
def qT_clear_26 : List CE := (26, 1, 32, 0, 0, .null, []) :: []
def qT_clear_7 : List CE := (7, 1, 1, 1, 0, .null, []) :: (8, 2, 0, 0, 0, .int 64, []) :: (10, 3, 13, 26, 3, .null, []) :: (13, 1, 1, 0, 2, .null, []) :: (14, 3, 18, 3, 5, .null, []) :: (17, 1, 1, 1, 0, .null, []) :: (18, 1, 0, 0, 0, .int 0, []) :: (19, 1, 24, 0, 0, .null, []) :: (20, 3, 4, 1, 0, .int 1, []) :: (23, 3, 14, 7, 0, .null, []) :: []
def qT_clear_0 : List CE := (0, 1, 1, 0, 2, .null, []) :: (1, 1, 0, 0, 0, .int 0, []) :: (2, 3, 19, 3, 0, .int 0, []) :: (5, 1, 0, 0, 0, .int 0, []) :: (6, 1, 2, 1, 0, .null, []) :: qT_clear_7
def qT_weight_27 : List CE := (27, 1, 1, 2, 0, .null, []) :: (28, 1, 30, 0, 0, .null, []) :: []
def qT_weight_4 : List CE := (4, 1, 1, 3, 0, .null, []) :: (5, 1, 1, 0, 2, .null, []) :: (6, 3, 18, 3, 0, .null, []) :: (9, 3, 13, 27, 3, .null, []) :: (12, 1, 1, 2, 0, .null, []) :: (13, 1, 1, 0, 2, .null, []) :: (14, 1, 1, 1, 0, .null, []) :: (15, 1, 1, 3, 0, .null, []) :: (16, 3, 37, 29, 3, .null, [(0, 3)]) :: (19, 1, 5, 0, 0, .null, []) :: (20, 1, 2, 2, 0, .null, []) :: (21, 3, 4, 3, 0, .int 1, []) :: (24, 3, 14, 4, 0, .null, []) :: []
def qT_weight_0 : List CE := (0, 1, 0, 0, 0, .int 0, []) :: (1, 1, 2, 2, 0, .null, []) :: (2, 1, 0, 0, 0, .int 0, []) :: (3, 1, 2, 3, 0, .null, []) :: qT_weight_4
def qT_pairs_43 : List CE := (43, 1, 1, 1, 0, .null, []) :: (44, 1, 30, 0, 0, .null, []) :: []
def qT_pairs_37 : List CE := (37, 3, 4, 2, 0, .int 1, []) :: (40, 3, 14, 4, 0, .null, []) :: []
def qT_pairs_31 : List CE := (31, 3, 4, 3, 0, .int 1, []) :: (34, 3, 14, 14, 0, .null, []) :: []
def qT_pairs_14 : List CE := (14, 1, 1, 3, 0, .null, []) :: (15, 1, 1, 2, 0, .null, []) :: (16, 3, 13, 37, 3, .null, []) :: (19, 1, 1, 0, 2, .null, []) :: (20, 1, 1, 2, 0, .null, []) :: (21, 1, 1, 3, 0, .null, []) :: (22, 3, 37, 29, 3, .null, [(0, 3)]) :: (25, 3, 12, 31, 5, .null, []) :: (28, 3, 4, 1, 0, .int 1, []) :: qT_pairs_31
def qT_pairs_4 : List CE := (4, 1, 1, 2, 0, .null, []) :: (5, 1, 1, 0, 2, .null, []) :: (6, 3, 18, 3, 0, .null, []) :: (9, 3, 13, 43, 3, .null, []) :: (12, 1, 0, 0, 0, .int 0, []) :: (13, 1, 2, 3, 0, .null, []) :: qT_pairs_14
def qT_pairs_0 : List CE := (0, 1, 0, 0, 0, .int 0, []) :: (1, 1, 2, 1, 0, .null, []) :: (2, 1, 0, 0, 0, .int 0, []) :: (3, 1, 2, 2, 0, .null, []) :: qT_pairs_4
def qT_fixedSet_32 : List CE := (32, 1, 1, 1, 0, .null, []) :: (33, 1, 30, 0, 0, .null, []) :: []
def qT_fixedSet_26 : List CE := (26, 3, 4, 2, 0, .int 1, []) :: (29, 3, 14, 4, 0, .null, []) :: []
def qT_fixedSet_4 : List CE := (4, 1, 1, 2, 0, .null, []) :: (5, 1, 1, 0, 2, .null, []) :: (6, 3, 18, 3, 0, .null, []) :: (9, 3, 13, 32, 3, .null, []) :: (12, 1, 1, 0, 2, .null, []) :: (13, 1, 1, 2, 0, .null, []) :: (14, 3, 37, 27, 2, .null, [(0, 3)]) :: (17, 3, 12, 26, 0, .null, []) :: (20, 1, 1, 1, 0, .null, []) :: (21, 1, 0, 0, 0, .int 1, []) :: (22, 1, 1, 2, 0, .null, []) :: (23, 1, 5, 0, 6, .null, []) :: (24, 1, 5, 0, 4, .null, []) :: (25, 1, 2, 1, 0, .null, []) :: qT_fixedSet_26
def qT_fixedSet_0 : List CE := (0, 1, 0, 0, 0, .int 0, []) :: (1, 1, 2, 1, 0, .null, []) :: (2, 1, 0, 0, 0, .int 0, []) :: (3, 1, 2, 2, 0, .null, []) :: qT_fixedSet_4
def qT_reachedSet_79 : List CE := (79, 1, 1, 1, 0, .null, []) :: (80, 1, 30, 0, 0, .null, []) :: []
def qT_reachedSet_62 : List CE := (62, 2, 1, 4, 0, .null, []) :: (64, 1, 1, 1, 0, .null, []) :: (65, 1, 0, 0, 0, .int (-1), []) :: (66, 1, 5, 0, 5, .null, []) :: (67, 1, 5, 0, 3, .null, []) :: (68, 1, 2, 2, 0, .null, []) :: (69, 1, 1, 1, 0, .null, []) :: (70, 1, 1, 2, 0, .null, []) :: (71, 1, 5, 0, 4, .null, []) :: (72, 1, 2, 1, 0, .null, []) :: (73, 3, 4, 3, 0, .int 1, []) :: (76, 3, 14, 9, 0, .null, []) :: []
def qT_reachedSet_56 : List CE := (56, 3, 4, 5, 0, .int 1, []) :: (59, 3, 14, 27, 0, .null, []) :: []
def qT_reachedSet_27 : List CE := (27, 2, 1, 5, 0, .null, []) :: (29, 1, 1, 0, 2, .null, []) :: (30, 3, 18, 3, 0, .null, []) :: (33, 3, 13, 62, 3, .null, []) :: (36, 1, 1, 2, 0, .null, []) :: (37, 2, 1, 5, 0, .null, []) :: (39, 3, 28, 75, 2, .null, []) :: (42, 3, 12, 56, 0, .null, []) :: (45, 2, 1, 4, 0, .null, []) :: (47, 1, 1, 0, 2, .null, []) :: (48, 2, 1, 5, 0, .null, []) :: (50, 3, 37, 37, 2, .null, [(0, 3)]) :: (53, 1, 5, 0, 4, .null, []) :: (54, 2, 2, 4, 0, .null, []) :: qT_reachedSet_56
def qT_reachedSet_9 : List CE := (9, 1, 1, 3, 0, .null, []) :: (10, 1, 1, 0, 2, .null, []) :: (11, 3, 18, 3, 0, .null, []) :: (14, 3, 13, 79, 3, .null, []) :: (17, 1, 1, 2, 0, .null, []) :: (18, 3, 12, 79, 0, .null, []) :: (21, 1, 0, 0, 0, .int 0, []) :: (22, 2, 2, 4, 0, .null, []) :: (24, 1, 0, 0, 0, .int 0, []) :: (25, 2, 2, 5, 0, .null, []) :: qT_reachedSet_27
def qT_reachedSet_0 : List CE := (0, 1, 1, 0, 2, .null, []) :: (1, 3, 37, 35, 1, .null, [(0, 3)]) :: (4, 1, 2, 1, 0, .null, []) :: (5, 1, 1, 1, 0, .null, []) :: (6, 1, 2, 2, 0, .null, []) :: (7, 1, 0, 0, 0, .int 0, []) :: (8, 1, 2, 3, 0, .null, []) :: qT_reachedSet_9
def qT_besideSet_33 : List CE := (33, 1, 1, 2, 0, .null, []) :: (34, 1, 30, 0, 0, .null, []) :: []
def qT_besideSet_27 : List CE := (27, 3, 4, 3, 0, .int 1, []) :: (30, 3, 14, 4, 0, .null, []) :: []
def qT_besideSet_4 : List CE := (4, 1, 1, 3, 0, .null, []) :: (5, 1, 1, 0, 2, .null, []) :: (6, 3, 18, 3, 0, .null, []) :: (9, 3, 13, 33, 3, .null, []) :: (12, 1, 1, 0, 2, .null, []) :: (13, 1, 1, 1, 0, .null, []) :: (14, 1, 1, 3, 0, .null, []) :: (15, 3, 37, 29, 3, .null, [(0, 3)]) :: (18, 3, 12, 27, 5, .null, []) :: (21, 1, 1, 2, 0, .null, []) :: (22, 1, 0, 0, 0, .int 1, []) :: (23, 1, 1, 3, 0, .null, []) :: (24, 1, 5, 0, 6, .null, []) :: (25, 1, 5, 0, 4, .null, []) :: (26, 1, 2, 2, 0, .null, []) :: qT_besideSet_27
def qT_besideSet_0 : List CE := (0, 1, 0, 0, 0, .int 0, []) :: (1, 1, 2, 2, 0, .null, []) :: (2, 1, 0, 0, 0, .int 0, []) :: (3, 1, 2, 3, 0, .null, []) :: qT_besideSet_4
def qT_passYear_70 : List CE := (70, 1, 1, 1, 0, .null, []) :: (71, 1, 30, 0, 0, .null, []) :: []
def qT_passYear_64 : List CE := (64, 3, 4, 2, 0, .int 1, []) :: (67, 3, 14, 19, 0, .null, []) :: []
def qT_passYear_46 : List CE := (46, 1, 1, 0, 2, .null, []) :: (47, 3, 18, 3, 2, .null, []) :: (50, 1, 1, 2, 0, .null, []) :: (51, 1, 20, 0, 0, .null, []) :: (52, 1, 1, 0, 2, .null, []) :: (53, 3, 18, 3, 8, .null, []) :: (56, 1, 1, 2, 0, .null, []) :: (57, 1, 20, 0, 0, .null, []) :: (58, 3, 13, 64, 0, .null, []) :: (61, 3, 4, 1, 0, .int 1, []) :: qT_passYear_64
def qT_passYear_19 : List CE := (19, 1, 1, 2, 0, .null, []) :: (20, 1, 1, 0, 2, .null, []) :: (21, 3, 18, 3, 0, .null, []) :: (24, 3, 13, 70, 3, .null, []) :: (27, 1, 1, 0, 2, .null, []) :: (28, 1, 1, 2, 0, .null, []) :: (29, 3, 37, 27, 2, .null, [(0, 3)]) :: (32, 3, 12, 46, 1, .null, []) :: (35, 1, 1, 0, 2, .null, []) :: (36, 3, 18, 3, 2, .null, []) :: (39, 1, 1, 2, 0, .null, []) :: (40, 1, 1, 0, 2, .null, []) :: (41, 1, 1, 2, 0, .null, []) :: (42, 3, 37, 39, 2, .null, [(0, 3)]) :: (45, 1, 24, 0, 0, .null, []) :: qT_passYear_46
def qT_passYear_0 : List CE := (0, 1, 1, 0, 2, .null, []) :: (1, 3, 18, 3, 2, .null, []) :: (4, 1, 0, 0, 0, .int 0, []) :: (5, 1, 1, 0, 2, .null, []) :: (6, 3, 18, 3, 8, .null, []) :: (9, 1, 0, 0, 0, .int 0, []) :: (10, 2, 0, 0, 0, .int 8, []) :: (12, 3, 29, 0, 0, .null, []) :: (15, 1, 0, 0, 0, .int 0, []) :: (16, 1, 2, 1, 0, .null, []) :: (17, 1, 0, 0, 0, .int 0, []) :: (18, 1, 2, 2, 0, .null, []) :: qT_passYear_19
def qT_askingAfter_86 : List CE := (86, 1, 30, 0, 0, .null, []) :: []
def qT_askingAfter_84 : List CE := (84, 2, 1, 4, 0, .null, []) :: qT_askingAfter_86
def qT_askingAfter_55 : List CE := (55, 1, 1, 3, 0, .null, []) :: (56, 1, 1, 2, 0, .null, []) :: (57, 1, 6, 0, 0, .null, []) :: (58, 2, 2, 4, 0, .null, []) :: (60, 1, 1, 0, 2, .null, []) :: (61, 3, 18, 3, 1, .null, []) :: (64, 1, 1, 1, 0, .null, []) :: (65, 1, 20, 0, 0, .null, []) :: (66, 1, 0, 0, 0, .int 2, []) :: (67, 3, 13, 84, 1, .null, []) :: (70, 2, 1, 4, 0, .null, []) :: (72, 1, 1, 0, 2, .null, []) :: (73, 3, 18, 3, 4, .null, []) :: (76, 1, 1, 1, 0, .null, []) :: (77, 1, 20, 0, 0, .null, []) :: (78, 3, 34, 0, 0, .null, []) :: (81, 3, 14, 86, 0, .null, []) :: []
def qT_askingAfter_22 : List CE := (22, 2, 1, 4, 0, .null, []) :: (24, 1, 1, 0, 2, .null, []) :: (25, 3, 18, 3, 0, .null, []) :: (28, 3, 13, 55, 3, .null, []) :: (31, 1, 1, 3, 0, .null, []) :: (32, 1, 1, 0, 2, .null, []) :: (33, 1, 1, 1, 0, .null, []) :: (34, 2, 1, 4, 0, .null, []) :: (36, 3, 37, 29, 3, .null, [(0, 3)]) :: (39, 1, 1, 0, 2, .null, []) :: (40, 3, 18, 3, 8, .null, []) :: (43, 2, 1, 4, 0, .null, []) :: (45, 1, 20, 0, 0, .null, []) :: (46, 1, 5, 0, 2, .null, []) :: (47, 1, 5, 0, 0, .null, []) :: (48, 1, 2, 3, 0, .null, []) :: (49, 3, 4, 4, 0, .int 1, []) :: (52, 3, 14, 22, 0, .null, []) :: []
def qT_askingAfter_17 : List CE := (17, 1, 0, 0, 0, .int 0, []) :: (18, 1, 2, 3, 0, .null, []) :: (19, 1, 0, 0, 0, .int 0, []) :: (20, 2, 2, 4, 0, .null, []) :: qT_askingAfter_22
def qT_askingAfter_0 : List CE := (0, 1, 1, 0, 2, .null, []) :: (1, 1, 1, 1, 0, .null, []) :: (2, 3, 37, 33, 2, .null, [(0, 3)]) :: (5, 1, 2, 2, 0, .null, []) :: (6, 1, 1, 2, 0, .null, []) :: (7, 3, 12, 17, 1, .null, []) :: (10, 1, 1, 0, 2, .null, []) :: (11, 3, 18, 3, 8, .null, []) :: (14, 1, 1, 1, 0, .null, []) :: (15, 1, 20, 0, 0, .null, []) :: (16, 1, 30, 0, 0, .null, []) :: []
def qT_takeFrom_0 : List CE := (0, 1, 1, 0, 2, .null, []) :: (1, 1, 1, 1, 2, .null, []) :: (2, 3, 18, 3, 0, .null, []) :: (5, 3, 19, 3, 0, .int 0, []) :: (8, 1, 1, 0, 2, .null, []) :: (9, 1, 1, 1, 2, .null, []) :: (10, 3, 18, 3, 6, .null, []) :: (13, 3, 19, 3, 6, .int 0, []) :: (16, 1, 1, 0, 2, .null, []) :: (17, 1, 1, 1, 2, .null, []) :: (18, 3, 18, 3, 7, .null, []) :: (21, 3, 19, 3, 7, .int 0, []) :: (24, 1, 1, 1, 2, .null, []) :: (25, 3, 18, 3, 1, .null, []) :: (28, 1, 0, 0, 0, .int 0, []) :: (29, 1, 1, 0, 2, .null, []) :: (30, 3, 18, 3, 1, .null, []) :: (33, 1, 0, 0, 0, .int 0, []) :: (34, 2, 0, 0, 0, .int 8, []) :: (36, 3, 29, 0, 0, .null, []) :: (39, 1, 1, 1, 2, .null, []) :: (40, 3, 18, 3, 2, .null, []) :: (43, 1, 0, 0, 0, .int 0, []) :: (44, 1, 1, 0, 2, .null, []) :: (45, 3, 18, 3, 2, .null, []) :: (48, 1, 0, 0, 0, .int 0, []) :: (49, 2, 0, 0, 0, .int 8, []) :: (51, 3, 29, 0, 0, .null, []) :: (54, 1, 1, 1, 2, .null, []) :: (55, 3, 18, 3, 3, .null, []) :: (58, 1, 0, 0, 0, .int 0, []) :: (59, 1, 1, 0, 2, .null, []) :: (60, 3, 18, 3, 3, .null, []) :: (63, 1, 0, 0, 0, .int 0, []) :: (64, 2, 0, 0, 0, .int 8, []) :: (66, 3, 29, 0, 0, .null, []) :: (69, 1, 1, 1, 2, .null, []) :: (70, 3, 18, 3, 4, .null, []) :: (73, 1, 0, 0, 0, .int 0, []) :: (74, 1, 1, 0, 2, .null, []) :: (75, 3, 18, 3, 4, .null, []) :: (78, 1, 0, 0, 0, .int 0, []) :: (79, 2, 0, 0, 0, .int 8, []) :: (81, 3, 29, 0, 0, .null, []) :: (84, 1, 1, 1, 2, .null, []) :: (85, 3, 18, 3, 5, .null, []) :: (88, 1, 0, 0, 0, .int 0, []) :: (89, 1, 1, 0, 2, .null, []) :: (90, 3, 18, 3, 5, .null, []) :: (93, 1, 0, 0, 0, .int 0, []) :: (94, 2, 0, 0, 0, .int 64, []) :: (96, 3, 29, 0, 0, .null, []) :: (99, 1, 32, 0, 0, .null, []) :: []
def qC_house_33 : List CE := (33, 1, 1, 0, 2, .null, []) :: (34, 3, 18, 4, 0, .null, []) :: (37, 1, 1, 1, 0, .null, []) :: (38, 1, 1, 2, 0, .null, []) :: (39, 3, 37, 28, 3, .null, [(0, 3)]) :: (42, 1, 30, 0, 0, .null, []) :: []
def qC_house_18 : List CE := (18, 1, 1, 0, 2, .null, []) :: (19, 3, 18, 4, 0, .null, []) :: (22, 3, 18, 3, 0, .null, []) :: (25, 2, 0, 0, 0, .int 8, []) :: (27, 3, 13, 33, 2, .null, []) :: (30, 2, 0, 0, 0, .int (-3), []) :: (32, 1, 30, 0, 0, .null, []) :: []
def qC_house_16 : List CE := (16, 1, 0, 0, 0, .int (-1), []) :: (17, 1, 30, 0, 0, .null, []) :: []
def qC_house_0 : List CE := (0, 1, 1, 1, 0, .null, []) :: (1, 3, 12, 16, 2, .null, []) :: (4, 1, 1, 1, 0, .null, []) :: (5, 1, 0, 0, 0, .int 3, []) :: (6, 3, 13, 16, 4, .null, []) :: (9, 1, 1, 2, 0, .null, []) :: (10, 3, 28, 69, 1, .null, []) :: (13, 3, 12, 18, 1, .null, []) :: qC_house_16
def qC_share_21 : List CE := (21, 1, 1, 0, 2, .null, []) :: (22, 3, 18, 4, 0, .null, []) :: (25, 1, 1, 1, 0, .null, []) :: (26, 1, 1, 2, 0, .null, []) :: (27, 3, 37, 29, 3, .null, [(0, 3)]) :: (30, 2, 2, 4, 0, .null, []) :: (32, 1, 1, 0, 2, .null, []) :: (33, 3, 18, 4, 0, .null, []) :: (36, 1, 1, 1, 0, .null, []) :: (37, 1, 1, 2, 0, .null, []) :: (38, 1, 1, 3, 0, .null, []) :: (39, 3, 37, 30, 4, .null, [(0, 3)]) :: (42, 2, 1, 4, 0, .null, []) :: (44, 1, 30, 0, 0, .null, []) :: []
def qC_share_19 : List CE := (19, 1, 0, 0, 0, .int (-1), []) :: (20, 1, 30, 0, 0, .null, []) :: []
def qC_share_0 : List CE := (0, 1, 1, 0, 2, .null, []) :: (1, 3, 18, 4, 0, .null, []) :: (4, 1, 1, 1, 0, .null, []) :: (5, 1, 1, 2, 0, .null, []) :: (6, 3, 37, 26, 3, .null, [(0, 3)]) :: (9, 3, 12, 19, 0, .null, []) :: (12, 1, 1, 3, 0, .null, []) :: (13, 3, 28, 70, 1, .null, []) :: (16, 3, 12, 21, 1, .null, []) :: qC_share_19
def qC_ask_36 : List CE := (36, 1, 1, 0, 2, .null, []) :: (37, 3, 18, 4, 0, .null, []) :: (40, 3, 18, 3, 2, .null, []) :: (43, 1, 1, 1, 0, .null, []) :: (44, 1, 20, 0, 0, .null, []) :: (45, 1, 2, 3, 0, .null, []) :: (46, 1, 1, 0, 2, .null, []) :: (47, 3, 18, 4, 0, .null, []) :: (50, 3, 18, 3, 2, .null, []) :: (53, 1, 1, 1, 0, .null, []) :: (54, 1, 1, 2, 0, .null, []) :: (55, 1, 24, 0, 0, .null, []) :: (56, 1, 1, 3, 0, .null, []) :: (57, 1, 30, 0, 0, .null, []) :: []
def qC_ask_20 : List CE := (20, 1, 1, 0, 2, .null, []) :: (21, 3, 18, 4, 0, .null, []) :: (24, 3, 18, 3, 1, .null, []) :: (27, 1, 1, 1, 0, .null, []) :: (28, 1, 20, 0, 0, .null, []) :: (29, 1, 0, 0, 0, .int 3, []) :: (30, 3, 13, 36, 1, .null, []) :: (33, 2, 0, 0, 0, .int (-2), []) :: (35, 1, 30, 0, 0, .null, []) :: []
def qC_ask_18 : List CE := (18, 1, 0, 0, 0, .int (-1), []) :: (19, 1, 30, 0, 0, .null, []) :: []
def qC_ask_0 : List CE := (0, 1, 1, 0, 2, .null, []) :: (1, 3, 18, 4, 0, .null, []) :: (4, 1, 1, 1, 0, .null, []) :: (5, 3, 37, 25, 2, .null, [(0, 3)]) :: (8, 3, 12, 18, 0, .null, []) :: (11, 1, 1, 2, 0, .null, []) :: (12, 3, 28, 69, 1, .null, []) :: (15, 3, 12, 20, 1, .null, []) :: qC_ask_18
def qC_set_84 : List CE := (84, 1, 0, 0, 0, .int (-1), []) :: (85, 1, 30, 0, 0, .null, []) :: []
def qC_set_48 : List CE := (48, 1, 1, 2, 0, .null, []) :: (49, 1, 0, 0, 0, .int 1, []) :: (50, 3, 13, 84, 1, .null, []) :: (53, 1, 1, 3, 0, .null, []) :: (54, 3, 28, 69, 1, .null, []) :: (57, 3, 12, 84, 0, .null, []) :: (60, 1, 1, 0, 2, .null, []) :: (61, 3, 18, 4, 0, .null, []) :: (64, 3, 18, 3, 4, .null, []) :: (67, 1, 1, 1, 0, .null, []) :: (68, 1, 20, 0, 0, .null, []) :: (69, 2, 2, 4, 0, .null, []) :: (71, 1, 1, 0, 2, .null, []) :: (72, 3, 18, 4, 0, .null, []) :: (75, 3, 18, 3, 4, .null, []) :: (78, 1, 1, 1, 0, .null, []) :: (79, 1, 1, 3, 0, .null, []) :: (80, 1, 24, 0, 0, .null, []) :: (81, 2, 1, 4, 0, .null, []) :: (83, 1, 30, 0, 0, .null, []) :: []
def qC_set_13 : List CE := (13, 1, 1, 2, 0, .null, []) :: (14, 3, 12, 48, 1, .null, []) :: (17, 1, 1, 3, 0, .null, []) :: (18, 3, 28, 71, 1, .null, []) :: (21, 3, 12, 48, 0, .null, []) :: (24, 1, 1, 0, 2, .null, []) :: (25, 3, 18, 4, 0, .null, []) :: (28, 3, 18, 3, 3, .null, []) :: (31, 1, 1, 1, 0, .null, []) :: (32, 1, 20, 0, 0, .null, []) :: (33, 2, 2, 4, 0, .null, []) :: (35, 1, 1, 0, 2, .null, []) :: (36, 3, 18, 4, 0, .null, []) :: (39, 3, 18, 3, 3, .null, []) :: (42, 1, 1, 1, 0, .null, []) :: (43, 1, 1, 3, 0, .null, []) :: (44, 1, 24, 0, 0, .null, []) :: (45, 2, 1, 4, 0, .null, []) :: (47, 1, 30, 0, 0, .null, []) :: []
def qC_set_0 : List CE := (0, 1, 1, 0, 2, .null, []) :: (1, 3, 18, 4, 0, .null, []) :: (4, 1, 1, 1, 0, .null, []) :: (5, 3, 37, 25, 2, .null, [(0, 3)]) :: (8, 3, 12, 13, 1, .null, []) :: (11, 1, 0, 0, 0, .int (-1), []) :: (12, 1, 30, 0, 0, .null, []) :: []
def qC_purse_9 : List CE := (9, 1, 1, 0, 2, .null, []) :: (10, 3, 18, 4, 0, .null, []) :: (13, 3, 18, 3, 6, .null, []) :: (16, 1, 2, 2, 0, .null, []) :: (17, 1, 1, 0, 2, .null, []) :: (18, 3, 18, 4, 0, .null, []) :: (21, 1, 1, 1, 0, .null, []) :: (22, 3, 19, 3, 6, .int 0, []) :: (25, 1, 1, 2, 0, .null, []) :: (26, 1, 30, 0, 0, .null, []) :: []
def qC_purse_0 : List CE := (0, 1, 1, 1, 0, .null, []) :: (1, 3, 28, 69, 1, .null, []) :: (4, 3, 12, 9, 1, .null, []) :: (7, 1, 0, 0, 0, .int (-1), []) :: (8, 1, 30, 0, 0, .null, []) :: []
def qC_told_121 : List CE := (121, 1, 0, 0, 0, .int (-1), []) :: (122, 1, 30, 0, 0, .null, []) :: []
def qC_told_120 : List CE := (120, 1, 30, 0, 0, .null, []) :: []
def qC_told_119 : List CE := (119, 1, 0, 0, 0, .int 0, []) :: qC_told_120
def qC_told_101 : List CE := (101, 1, 1, 0, 2, .null, []) :: (102, 3, 18, 4, 0, .null, []) :: (105, 3, 37, 36, 1, .null, [(0, 3)]) :: (108, 1, 1, 1, 0, .null, []) :: (109, 3, 28, 75, 2, .null, []) :: (112, 3, 12, 119, 0, .null, []) :: (115, 1, 0, 0, 0, .int 1, []) :: (116, 3, 14, 120, 0, .null, []) :: []
def qC_told_92 : List CE := (92, 1, 1, 0, 2, .null, []) :: (93, 3, 18, 4, 0, .null, []) :: (96, 1, 1, 1, 0, .null, []) :: (97, 3, 37, 33, 2, .null, [(0, 3)]) :: (100, 1, 30, 0, 0, .null, []) :: []
def qC_told_82 : List CE := (82, 1, 1, 0, 2, .null, []) :: (83, 3, 18, 4, 0, .null, []) :: (86, 3, 18, 3, 4, .null, []) :: (89, 1, 1, 1, 0, .null, []) :: (90, 1, 20, 0, 0, .null, []) :: (91, 1, 30, 0, 0, .null, []) :: []
def qC_told_72 : List CE := (72, 1, 1, 0, 2, .null, []) :: (73, 3, 18, 4, 0, .null, []) :: (76, 3, 18, 3, 3, .null, []) :: (79, 1, 1, 1, 0, .null, []) :: (80, 1, 20, 0, 0, .null, []) :: (81, 1, 30, 0, 0, .null, []) :: []
def qC_told_62 : List CE := (62, 1, 1, 0, 2, .null, []) :: (63, 3, 18, 4, 0, .null, []) :: (66, 3, 18, 3, 2, .null, []) :: (69, 1, 1, 1, 0, .null, []) :: (70, 1, 20, 0, 0, .null, []) :: (71, 1, 30, 0, 0, .null, []) :: []
def qC_told_52 : List CE := (52, 1, 1, 0, 2, .null, []) :: (53, 3, 18, 4, 0, .null, []) :: (56, 3, 18, 3, 1, .null, []) :: (59, 1, 1, 1, 0, .null, []) :: (60, 1, 20, 0, 0, .null, []) :: (61, 1, 30, 0, 0, .null, []) :: []
def qC_told_13 : List CE := (13, 1, 1, 2, 0, .null, []) :: (14, 38, 33, 121, 0, .null, [(0, 52), (1, 62), (2, 72), (3, 82), (4, 92), (5, 101)]) :: []
def qC_told_0 : List CE := (0, 1, 1, 0, 2, .null, []) :: (1, 3, 18, 4, 0, .null, []) :: (4, 1, 1, 1, 0, .null, []) :: (5, 3, 37, 25, 2, .null, [(0, 3)]) :: (8, 3, 12, 13, 1, .null, []) :: (11, 1, 0, 0, 0, .int (-1), []) :: (12, 1, 30, 0, 0, .null, []) :: []
def qC_type_38 : List CE := (38, 1, 1, 0, 2, .null, []) :: (39, 3, 18, 4, 4, .null, []) :: (42, 1, 1, 1, 1, .null, []) :: (43, 1, 1, 3, 0, .null, []) :: (44, 3, 37, 14, 3, .null, [(0, 2)]) :: (47, 1, 1, 0, 2, .null, []) :: (48, 3, 18, 4, 4, .null, []) :: (51, 3, 18, 2, 1, .null, []) :: (54, 1, 30, 0, 0, .null, []) :: []
def qC_type_21 : List CE := (21, 1, 1, 3, 0, .null, []) :: (22, 2, 0, 0, 0, .int 100, []) :: (24, 1, 1, 0, 2, .null, []) :: (25, 3, 18, 4, 4, .null, []) :: (28, 3, 18, 2, 1, .null, []) :: (31, 1, 5, 0, 1, .null, []) :: (32, 3, 13, 38, 5, .null, []) :: (35, 2, 0, 0, 0, .int (-3), []) :: (37, 1, 30, 0, 0, .null, []) :: []
def qC_type_19 : List CE := (19, 1, 0, 0, 0, .int (-1), []) :: (20, 1, 30, 0, 0, .null, []) :: []
def qC_type_0 : List CE := (0, 1, 1, 3, 0, .null, []) :: (1, 1, 0, 0, 0, .int 1, []) :: (2, 3, 13, 19, 2, .null, []) :: (5, 1, 1, 3, 0, .null, []) :: (6, 2, 0, 0, 0, .int 8, []) :: (8, 3, 13, 19, 4, .null, []) :: (11, 1, 1, 1, 1, .null, []) :: (12, 1, 1, 3, 0, .null, []) :: (13, 3, 28, 76, 2, .null, []) :: (16, 3, 12, 21, 1, .null, []) :: qC_type_19
def qC_town_53 : List CE := (53, 1, 1, 1, 0, .null, []) :: (54, 1, 30, 0, 0, .null, []) :: []
def qC_town_0 : List CE := (0, 1, 1, 0, 2, .null, []) :: (1, 3, 18, 4, 2, .null, []) :: (4, 1, 1, 0, 2, .null, []) :: (5, 3, 18, 4, 0, .null, []) :: (8, 3, 37, 40, 2, .null, [(0, 3)]) :: (11, 1, 1, 0, 2, .null, []) :: (12, 3, 18, 4, 2, .null, []) :: (15, 3, 37, 32, 1, .null, [(0, 3)]) :: (18, 1, 1, 0, 2, .null, []) :: (19, 3, 18, 4, 4, .null, []) :: (22, 1, 1, 0, 2, .null, []) :: (23, 3, 18, 4, 2, .null, []) :: (26, 3, 37, 15, 2, .null, [(0, 2)]) :: (29, 1, 2, 1, 0, .null, []) :: (30, 1, 1, 0, 2, .null, []) :: (31, 3, 18, 4, 4, .null, []) :: (34, 1, 0, 0, 0, .int 0, []) :: (35, 3, 19, 2, 1, .int 0, []) :: (38, 1, 1, 1, 0, .null, []) :: (39, 3, 12, 53, 5, .null, []) :: (42, 1, 1, 0, 2, .null, []) :: (43, 3, 18, 4, 0, .null, []) :: (46, 1, 1, 0, 2, .null, []) :: (47, 3, 18, 4, 2, .null, []) :: (50, 3, 37, 40, 2, .null, [(0, 3)]) :: qC_town_53
def qC_count_82 : List CE := (82, 1, 0, 0, 0, .int (-1), []) :: (83, 1, 30, 0, 0, .null, []) :: []
def qC_count_74 : List CE := (74, 1, 1, 0, 2, .null, []) :: (75, 3, 18, 4, 0, .null, []) :: (78, 3, 18, 3, 7, .null, []) :: (81, 1, 30, 0, 0, .null, []) :: []
def qC_count_66 : List CE := (66, 1, 1, 0, 2, .null, []) :: (67, 3, 18, 4, 0, .null, []) :: (70, 3, 37, 34, 1, .null, [(0, 3)]) :: (73, 1, 30, 0, 0, .null, []) :: []
def qC_count_55 : List CE := (55, 1, 1, 0, 2, .null, []) :: (56, 3, 18, 4, 0, .null, []) :: (59, 3, 37, 36, 1, .null, [(0, 3)]) :: (62, 3, 28, 0, 1, .null, []) :: (65, 1, 30, 0, 0, .null, []) :: []
def qC_count_44 : List CE := (44, 1, 1, 0, 2, .null, []) :: (45, 3, 18, 4, 0, .null, []) :: (48, 3, 37, 35, 1, .null, [(0, 3)]) :: (51, 3, 28, 0, 1, .null, []) :: (54, 1, 30, 0, 0, .null, []) :: []
def qC_count_36 : List CE := (36, 1, 1, 0, 2, .null, []) :: (37, 3, 18, 4, 0, .null, []) :: (40, 3, 18, 3, 0, .null, []) :: (43, 1, 30, 0, 0, .null, []) :: []
def qC_count_0 : List CE := (0, 1, 1, 1, 0, .null, []) :: (1, 35, 33, 82, 0, .null, [(0, 36), (1, 44), (2, 55), (3, 66), (4, 74)]) :: []
def qC_rent_48 : List CE := (48, 1, 1, 0, 2, .null, []) :: (49, 3, 18, 4, 3, .null, []) :: (52, 3, 18, 0, 0, .null, []) :: (55, 1, 1, 1, 0, .null, []) :: (56, 1, 21, 0, 0, .null, []) :: (57, 1, 1, 0, 2, .null, []) :: (58, 3, 18, 4, 3, .null, []) :: (61, 3, 18, 0, 1, .null, []) :: (64, 1, 1, 2, 0, .null, []) :: (65, 3, 28, 79, 3, .null, []) :: (68, 1, 31, 0, 0, .null, []) :: []
def qC_rent_22 : List CE := (22, 1, 1, 0, 2, .null, []) :: (23, 3, 18, 4, 3, .null, []) :: (26, 1, 1, 0, 2, .null, []) :: (27, 3, 18, 4, 0, .null, []) :: (30, 3, 37, 2, 2, .null, [(0, 0)]) :: (33, 1, 1, 0, 2, .null, []) :: (34, 3, 18, 4, 3, .null, []) :: (37, 1, 1, 1, 0, .null, []) :: (38, 3, 37, 1, 2, .null, [(0, 0)]) :: (41, 3, 12, 48, 1, .null, []) :: (44, 3, 0, 0, 0, .long (-4), []) :: (47, 1, 31, 0, 0, .null, []) :: []
def qC_rent_18 : List CE := (18, 3, 0, 0, 0, .long (-1), []) :: (21, 1, 31, 0, 0, .null, []) :: []
def qC_rent_0 : List CE := (0, 1, 1, 0, 2, .null, []) :: (1, 3, 18, 4, 0, .null, []) :: (4, 1, 1, 1, 0, .null, []) :: (5, 3, 37, 25, 2, .null, [(0, 3)]) :: (8, 3, 12, 18, 0, .null, []) :: (11, 1, 1, 2, 0, .null, []) :: (12, 3, 28, 72, 1, .null, []) :: (15, 3, 12, 22, 1, .null, []) :: qC_rent_18
def qC_moves_74 : List CE := (74, 1, 1, 0, 2, .null, []) :: (75, 3, 18, 4, 3, .null, []) :: (78, 1, 1, 1, 0, .null, []) :: (79, 1, 1, 2, 0, .null, []) :: (80, 3, 37, 7, 3, .null, [(0, 0)]) :: (83, 1, 1, 0, 2, .null, []) :: (84, 3, 18, 4, 3, .null, []) :: (87, 3, 18, 0, 1, .null, []) :: (90, 1, 1, 3, 0, .null, []) :: (91, 3, 28, 79, 3, .null, []) :: (94, 1, 31, 0, 0, .null, []) :: []
def qC_moves_48 : List CE := (48, 1, 1, 0, 2, .null, []) :: (49, 3, 18, 4, 3, .null, []) :: (52, 1, 1, 0, 2, .null, []) :: (53, 3, 18, 4, 0, .null, []) :: (56, 3, 37, 2, 2, .null, [(0, 0)]) :: (59, 1, 1, 0, 2, .null, []) :: (60, 3, 18, 4, 3, .null, []) :: (63, 1, 1, 1, 0, .null, []) :: (64, 3, 37, 1, 2, .null, [(0, 0)]) :: (67, 3, 12, 74, 1, .null, []) :: (70, 3, 0, 0, 0, .long (-4), []) :: (73, 1, 31, 0, 0, .null, []) :: []
def qC_moves_33 : List CE := (33, 1, 1, 0, 2, .null, []) :: (34, 3, 18, 4, 0, .null, []) :: (37, 1, 1, 2, 0, .null, []) :: (38, 3, 37, 27, 2, .null, [(0, 3)]) :: (41, 3, 12, 48, 1, .null, []) :: (44, 3, 0, 0, 0, .long (-2), []) :: (47, 1, 31, 0, 0, .null, []) :: []
def qC_moves_29 : List CE := (29, 3, 0, 0, 0, .long (-1), []) :: (32, 1, 31, 0, 0, .null, []) :: []
def qC_moves_0 : List CE := (0, 1, 1, 0, 2, .null, []) :: (1, 3, 18, 4, 0, .null, []) :: (4, 1, 1, 1, 0, .null, []) :: (5, 3, 37, 25, 2, .null, [(0, 3)]) :: (8, 3, 12, 29, 0, .null, []) :: (11, 1, 1, 0, 2, .null, []) :: (12, 3, 18, 4, 0, .null, []) :: (15, 1, 1, 2, 0, .null, []) :: (16, 3, 37, 25, 2, .null, [(0, 3)]) :: (19, 3, 12, 29, 0, .null, []) :: (22, 1, 1, 3, 0, .null, []) :: (23, 3, 28, 72, 1, .null, []) :: (26, 3, 12, 33, 1, .null, []) :: qC_moves_29
def qC_walk_48 : List CE := (48, 1, 1, 0, 2, .null, []) :: (49, 3, 18, 4, 3, .null, []) :: (52, 1, 1, 1, 0, .null, []) :: (53, 3, 37, 8, 2, .null, [(0, 0)]) :: (56, 1, 1, 0, 2, .null, []) :: (57, 3, 18, 4, 3, .null, []) :: (60, 3, 18, 0, 1, .null, []) :: (63, 1, 1, 2, 0, .null, []) :: (64, 3, 28, 79, 3, .null, []) :: (67, 1, 31, 0, 0, .null, []) :: []
def qC_walk_22 : List CE := (22, 1, 1, 0, 2, .null, []) :: (23, 3, 18, 4, 3, .null, []) :: (26, 1, 1, 0, 2, .null, []) :: (27, 3, 18, 4, 0, .null, []) :: (30, 3, 37, 2, 2, .null, [(0, 0)]) :: (33, 1, 1, 0, 2, .null, []) :: (34, 3, 18, 4, 3, .null, []) :: (37, 1, 1, 1, 0, .null, []) :: (38, 3, 37, 1, 2, .null, [(0, 0)]) :: (41, 3, 12, 48, 1, .null, []) :: (44, 3, 0, 0, 0, .long (-4), []) :: (47, 1, 31, 0, 0, .null, []) :: []
def qC_walk_18 : List CE := (18, 3, 0, 0, 0, .long (-1), []) :: (21, 1, 31, 0, 0, .null, []) :: []
def qC_walk_0 : List CE := (0, 1, 1, 0, 2, .null, []) :: (1, 3, 18, 4, 0, .null, []) :: (4, 1, 1, 1, 0, .null, []) :: (5, 3, 37, 25, 2, .null, [(0, 3)]) :: (8, 3, 12, 18, 0, .null, []) :: (11, 1, 1, 2, 0, .null, []) :: (12, 3, 28, 72, 1, .null, []) :: (15, 3, 12, 22, 1, .null, []) :: qC_walk_18
def qC_change_43 : List CE := (43, 1, 1, 0, 2, .null, []) :: (44, 3, 18, 4, 2, .null, []) :: (47, 1, 1, 0, 2, .null, []) :: (48, 3, 18, 4, 0, .null, []) :: (51, 3, 37, 40, 2, .null, [(0, 3)]) :: (54, 1, 1, 0, 2, .null, []) :: (55, 3, 18, 4, 2, .null, []) :: (58, 1, 1, 1, 0, .null, []) :: (59, 1, 1, 2, 0, .null, []) :: (60, 1, 1, 3, 0, .null, []) :: (61, 3, 37, 30, 4, .null, [(0, 3)]) :: (64, 1, 1, 0, 2, .null, []) :: (65, 2, 1, 4, 0, .null, []) :: (67, 2, 1, 5, 0, .null, []) :: (69, 3, 37, 81, 3, .null, [(0, 4)]) :: (72, 1, 31, 0, 0, .null, []) :: []
def qC_change_39 : List CE := (39, 3, 0, 0, 0, .long (-1000000000000000001), []) :: (42, 1, 31, 0, 0, .null, []) :: []
def qC_change_0 : List CE := (0, 1, 1, 0, 2, .null, []) :: (1, 3, 18, 4, 0, .null, []) :: (4, 1, 1, 1, 0, .null, []) :: (5, 1, 1, 2, 0, .null, []) :: (6, 3, 37, 26, 3, .null, [(0, 3)]) :: (9, 3, 12, 39, 0, .null, []) :: (12, 1, 1, 3, 0, .null, []) :: (13, 3, 28, 70, 1, .null, []) :: (16, 3, 12, 39, 0, .null, []) :: (19, 1, 1, 0, 2, .null, []) :: (20, 3, 18, 4, 0, .null, []) :: (23, 2, 1, 4, 0, .null, []) :: (25, 3, 37, 25, 2, .null, [(0, 3)]) :: (28, 3, 12, 39, 0, .null, []) :: (31, 2, 1, 5, 0, .null, []) :: (33, 3, 28, 72, 1, .null, []) :: (36, 3, 12, 43, 1, .null, []) :: qC_change_39
def qC_pulled_23 : List CE := (23, 1, 1, 0, 2, .null, []) :: (24, 3, 18, 4, 2, .null, []) :: (27, 1, 1, 0, 2, .null, []) :: (28, 3, 18, 4, 0, .null, []) :: (31, 3, 37, 40, 2, .null, [(0, 3)]) :: (34, 1, 1, 0, 2, .null, []) :: (35, 3, 18, 4, 2, .null, []) :: (38, 1, 1, 1, 0, .null, []) :: (39, 3, 37, 31, 2, .null, [(0, 3)]) :: (42, 1, 1, 0, 2, .null, []) :: (43, 1, 1, 2, 0, .null, []) :: (44, 1, 1, 3, 0, .null, []) :: (45, 3, 37, 81, 3, .null, [(0, 4)]) :: (48, 1, 31, 0, 0, .null, []) :: []
def qC_pulled_19 : List CE := (19, 3, 0, 0, 0, .long (-1000000000000000001), []) :: (22, 1, 31, 0, 0, .null, []) :: []
def qC_pulled_0 : List CE := (0, 1, 1, 0, 2, .null, []) :: (1, 3, 18, 4, 0, .null, []) :: (4, 1, 1, 1, 0, .null, []) :: (5, 1, 1, 2, 0, .null, []) :: (6, 3, 37, 26, 3, .null, [(0, 3)]) :: (9, 3, 12, 19, 0, .null, []) :: (12, 1, 1, 3, 0, .null, []) :: (13, 3, 28, 72, 1, .null, []) :: (16, 3, 12, 23, 1, .null, []) :: qC_pulled_19
def qC_year_16 : List CE := (16, 1, 1, 0, 2, .null, []) :: (17, 3, 18, 4, 0, .null, []) :: (20, 1, 15, 0, 0, .null, []) :: (21, 3, 18, 3, 7, .null, []) :: (24, 1, 0, 0, 0, .int 1, []) :: (25, 1, 5, 0, 0, .null, []) :: (26, 3, 19, 3, 7, .int 0, []) :: (29, 1, 1, 0, 2, .null, []) :: (30, 3, 18, 4, 0, .null, []) :: (33, 3, 37, 38, 1, .null, [(0, 3)]) :: (36, 1, 30, 0, 0, .null, []) :: []
def qC_year_0 : List CE := (0, 1, 1, 0, 2, .null, []) :: (1, 3, 18, 4, 0, .null, []) :: (4, 3, 18, 3, 7, .null, []) :: (7, 3, 0, 0, 0, .int 9999, []) :: (10, 3, 13, 16, 2, .null, []) :: (13, 2, 0, 0, 0, .int (-3), []) :: (15, 1, 30, 0, 0, .null, []) :: []
def qC_near_70 : List CE := (70, 2, 0, 0, 0, .int (-4), []) :: (72, 1, 30, 0, 0, .null, []) :: []
def qC_near_56 : List CE := (56, 1, 1, 0, 2, .null, []) :: (57, 3, 18, 4, 2, .null, []) :: (60, 3, 37, 38, 1, .null, [(0, 3)]) :: (63, 1, 16, 0, 0, .null, []) :: (64, 3, 4, 2, 0, .int 1, []) :: (67, 3, 14, 33, 0, .null, []) :: []
def qC_near_33 : List CE := (33, 1, 1, 2, 0, .null, []) :: (34, 2, 0, 0, 0, .int 60, []) :: (36, 3, 13, 70, 4, .null, []) :: (39, 1, 1, 0, 2, .null, []) :: (40, 3, 18, 4, 3, .null, []) :: (43, 1, 1, 0, 2, .null, []) :: (44, 3, 18, 4, 2, .null, []) :: (47, 1, 1, 1, 0, .null, []) :: (48, 3, 37, 11, 3, .null, [(0, 0)]) :: (51, 3, 12, 56, 0, .null, []) :: (54, 1, 1, 2, 0, .null, []) :: (55, 1, 30, 0, 0, .null, []) :: []
def qC_near_9 : List CE := (9, 1, 1, 0, 2, .null, []) :: (10, 3, 18, 4, 3, .null, []) :: (13, 1, 1, 0, 2, .null, []) :: (14, 3, 18, 4, 0, .null, []) :: (17, 3, 37, 2, 2, .null, [(0, 0)]) :: (20, 1, 1, 0, 2, .null, []) :: (21, 3, 18, 4, 2, .null, []) :: (24, 1, 1, 0, 2, .null, []) :: (25, 3, 18, 4, 0, .null, []) :: (28, 3, 37, 40, 2, .null, [(0, 3)]) :: (31, 1, 0, 0, 0, .int 0, []) :: (32, 1, 2, 2, 0, .null, []) :: qC_near_33
def qC_near_0 : List CE := (0, 1, 1, 1, 0, .null, []) :: (1, 3, 28, 69, 1, .null, []) :: (4, 3, 12, 9, 1, .null, []) :: (7, 1, 0, 0, 0, .int (-1), []) :: (8, 1, 30, 0, 0, .null, []) :: []
def qC_income_18 : List CE := (18, 1, 1, 0, 2, .null, []) :: (19, 3, 18, 4, 3, .null, []) :: (22, 1, 1, 0, 2, .null, []) :: (23, 3, 18, 4, 0, .null, []) :: (26, 3, 37, 2, 2, .null, [(0, 0)]) :: (29, 1, 1, 0, 2, .null, []) :: (30, 3, 18, 4, 3, .null, []) :: (33, 1, 1, 0, 2, .null, []) :: (34, 3, 18, 4, 0, .null, []) :: (37, 1, 1, 1, 0, .null, []) :: (38, 3, 37, 10, 3, .null, [(0, 0)]) :: (41, 1, 1, 0, 2, .null, []) :: (42, 3, 18, 4, 3, .null, []) :: (45, 3, 18, 0, 1, .null, []) :: (48, 1, 1, 2, 0, .null, []) :: (49, 3, 28, 79, 3, .null, []) :: (52, 1, 31, 0, 0, .null, []) :: []
def qC_income_14 : List CE := (14, 3, 0, 0, 0, .long (-1), []) :: (17, 1, 31, 0, 0, .null, []) :: []
def qC_income_0 : List CE := (0, 1, 1, 1, 0, .null, []) :: (1, 3, 28, 71, 1, .null, []) :: (4, 3, 12, 14, 0, .null, []) :: (7, 1, 1, 2, 0, .null, []) :: (8, 3, 28, 72, 1, .null, []) :: (11, 3, 12, 18, 1, .null, []) :: qC_income_14
def qC_best_107 : List CE := (107, 1, 1, 2, 0, .null, []) :: (108, 1, 30, 0, 0, .null, []) :: []
def qC_best_101 : List CE := (101, 3, 4, 5, 0, .int 1, []) :: (104, 3, 14, 49, 0, .null, []) :: []
def qC_best_49 : List CE := (49, 2, 1, 5, 0, .null, []) :: (51, 2, 0, 0, 0, .int 99, []) :: (53, 3, 13, 107, 4, .null, []) :: (56, 1, 1, 0, 2, .null, []) :: (57, 3, 18, 4, 3, .null, []) :: (60, 1, 1, 1, 0, .null, []) :: (61, 2, 1, 5, 0, .null, []) :: (63, 3, 37, 9, 3, .null, [(0, 0)]) :: (66, 1, 1, 0, 2, .null, []) :: (67, 3, 18, 4, 3, .null, []) :: (70, 1, 1, 0, 2, .null, []) :: (71, 3, 18, 4, 0, .null, []) :: (74, 1, 1, 0, 2, .null, []) :: (75, 3, 18, 4, 0, .null, []) :: (78, 3, 18, 3, 3, .null, []) :: (81, 1, 1, 1, 0, .null, []) :: (82, 1, 20, 0, 0, .null, []) :: (83, 3, 37, 10, 3, .null, [(0, 0)]) :: (86, 2, 3, 6, 0, .null, []) :: (88, 2, 1, 6, 1, .null, []) :: (90, 1, 1, 3, 1, .null, []) :: (91, 1, 11, 0, 0, .null, []) :: (92, 3, 12, 101, 5, .null, []) :: (95, 2, 1, 6, 1, .null, []) :: (97, 1, 3, 3, 0, .null, []) :: (98, 2, 1, 5, 0, .null, []) :: (100, 1, 2, 2, 0, .null, []) :: qC_best_101
def qC_best_29 : List CE := (29, 1, 1, 0, 2, .null, []) :: (30, 3, 18, 4, 3, .null, []) :: (33, 1, 1, 0, 2, .null, []) :: (34, 3, 18, 4, 0, .null, []) :: (37, 3, 37, 2, 2, .null, [(0, 0)]) :: (40, 1, 0, 0, 0, .int 0, []) :: (41, 1, 2, 2, 0, .null, []) :: (42, 3, 0, 0, 0, .long (-1), []) :: (45, 1, 3, 3, 0, .null, []) :: (46, 1, 0, 0, 0, .int 0, []) :: (47, 2, 2, 5, 0, .null, []) :: qC_best_49
def qC_best_13 : List CE := (13, 1, 1, 0, 2, .null, []) :: (14, 3, 18, 4, 0, .null, []) :: (17, 3, 18, 3, 1, .null, []) :: (20, 1, 1, 1, 0, .null, []) :: (21, 1, 20, 0, 0, .null, []) :: (22, 1, 0, 0, 0, .int 1, []) :: (23, 3, 13, 29, 0, .null, []) :: (26, 2, 0, 0, 0, .int (-2), []) :: (28, 1, 30, 0, 0, .null, []) :: []
def qC_best_0 : List CE := (0, 1, 1, 0, 2, .null, []) :: (1, 3, 18, 4, 0, .null, []) :: (4, 1, 1, 1, 0, .null, []) :: (5, 3, 37, 25, 2, .null, [(0, 3)]) :: (8, 3, 12, 13, 1, .null, []) :: (11, 1, 0, 0, 0, .int (-1), []) :: (12, 1, 30, 0, 0, .null, []) :: []
def qC_rests_152 : List CE := (152, 1, 30, 0, 0, .null, []) :: []
def qC_rests_150 : List CE := (150, 2, 1, 5, 0, .null, []) :: qC_rests_152
def qC_rests_141 : List CE := (141, 1, 1, 3, 0, .null, []) :: (142, 3, 12, 150, 1, .null, []) :: (145, 2, 1, 4, 0, .null, []) :: (147, 3, 14, 152, 0, .null, []) :: []
def qC_rests_135 : List CE := (135, 3, 4, 6, 0, .int 1, []) :: (138, 3, 14, 89, 0, .null, []) :: []
def qC_rests_89 : List CE := (89, 2, 1, 6, 0, .null, []) :: (91, 2, 0, 0, 0, .int 100, []) :: (93, 3, 13, 141, 3, .null, []) :: (96, 1, 1, 0, 2, .null, []) :: (97, 2, 1, 6, 0, .null, []) :: (99, 3, 37, 83, 2, .null, [(0, 4)]) :: (102, 3, 12, 135, 0, .null, []) :: (105, 3, 4, 4, 0, .int 1, []) :: (108, 2, 1, 5, 0, .null, []) :: (110, 2, 0, 0, 0, .int (-4), []) :: (112, 3, 13, 135, 1, .null, []) :: (115, 3, 0, 0, 0, .int 1100, []) :: (118, 2, 1, 6, 0, .null, []) :: (120, 2, 0, 0, 0, .int 10, []) :: (122, 1, 6, 0, 0, .null, []) :: (123, 1, 5, 0, 2, .null, []) :: (124, 2, 0, 0, 0, .int 11, []) :: (126, 2, 1, 6, 0, .null, []) :: (128, 2, 0, 0, 0, .int 10, []) :: (130, 1, 6, 0, 1, .null, []) :: (131, 1, 5, 0, 2, .null, []) :: (132, 1, 5, 0, 0, .null, []) :: (133, 2, 2, 5, 0, .null, []) :: qC_rests_135
def qC_rests_73 : List CE := (73, 1, 1, 0, 2, .null, []) :: (74, 1, 1, 1, 0, .null, []) :: (75, 1, 1, 2, 0, .null, []) :: (76, 3, 37, 82, 3, .null, [(0, 4)]) :: (79, 1, 0, 0, 0, .int 0, []) :: (80, 2, 2, 4, 0, .null, []) :: (82, 2, 0, 0, 0, .int (-4), []) :: (84, 2, 2, 5, 0, .null, []) :: (86, 1, 0, 0, 0, .int 0, []) :: (87, 2, 2, 6, 0, .null, []) :: qC_rests_89
def qC_rests_70 : List CE := (70, 2, 0, 0, 0, .int (-2), []) :: (72, 1, 30, 0, 0, .null, []) :: []
def qC_rests_23 : List CE := (23, 1, 1, 0, 2, .null, []) :: (24, 3, 18, 4, 0, .null, []) :: (27, 3, 18, 3, 1, .null, []) :: (30, 1, 1, 1, 0, .null, []) :: (31, 1, 20, 0, 0, .null, []) :: (32, 1, 0, 0, 0, .int 1, []) :: (33, 3, 13, 70, 1, .null, []) :: (36, 1, 1, 0, 2, .null, []) :: (37, 3, 18, 4, 0, .null, []) :: (40, 3, 18, 3, 1, .null, []) :: (43, 1, 1, 2, 0, .null, []) :: (44, 1, 20, 0, 0, .null, []) :: (45, 1, 0, 0, 0, .int 1, []) :: (46, 3, 13, 70, 1, .null, []) :: (49, 1, 1, 0, 2, .null, []) :: (50, 3, 18, 4, 0, .null, []) :: (53, 3, 18, 3, 3, .null, []) :: (56, 1, 1, 1, 0, .null, []) :: (57, 1, 20, 0, 0, .null, []) :: (58, 1, 1, 0, 2, .null, []) :: (59, 3, 18, 4, 0, .null, []) :: (62, 3, 18, 3, 3, .null, []) :: (65, 1, 1, 2, 0, .null, []) :: (66, 1, 20, 0, 0, .null, []) :: (67, 3, 13, 73, 1, .null, []) :: qC_rests_70
def qC_rests_21 : List CE := (21, 1, 0, 0, 0, .int (-1), []) :: (22, 1, 30, 0, 0, .null, []) :: []
def qC_rests_0 : List CE := (0, 1, 1, 0, 2, .null, []) :: (1, 3, 18, 4, 0, .null, []) :: (4, 1, 1, 1, 0, .null, []) :: (5, 1, 1, 2, 0, .null, []) :: (6, 3, 37, 26, 3, .null, [(0, 3)]) :: (9, 3, 12, 21, 0, .null, []) :: (12, 1, 1, 3, 0, .null, []) :: (13, 3, 12, 21, 2, .null, []) :: (16, 1, 1, 3, 0, .null, []) :: (17, 1, 0, 0, 0, .int 1, []) :: (18, 3, 13, 23, 5, .null, []) :: qC_rests_21
def qC_bought_148 : List CE := (148, 2, 1, 5, 0, .null, []) :: (150, 1, 30, 0, 0, .null, []) :: []
def qC_bought_142 : List CE := (142, 3, 4, 6, 0, .int 1, []) :: (145, 3, 14, 72, 0, .null, []) :: []
def qC_bought_111 : List CE := (111, 2, 2, 7, 0, .null, []) :: (113, 2, 1, 7, 0, .null, []) :: (115, 3, 12, 142, 0, .null, []) :: (118, 2, 1, 6, 0, .null, []) :: (120, 2, 1, 4, 0, .null, []) :: (122, 1, 5, 0, 3, .null, []) :: (123, 3, 12, 142, 1, .null, []) :: (126, 1, 1, 0, 2, .null, []) :: (127, 2, 1, 6, 0, .null, []) :: (129, 1, 1, 3, 0, .null, []) :: (130, 1, 1, 1, 0, .null, []) :: (131, 1, 1, 2, 0, .null, []) :: (132, 3, 37, 84, 5, .null, [(0, 4)]) :: (135, 3, 12, 142, 0, .null, []) :: (138, 2, 1, 6, 0, .null, []) :: (140, 2, 2, 5, 0, .null, []) :: qC_bought_142
def qC_bought_110 : List CE := (110, 1, 0, 0, 0, .int 0, []) :: qC_bought_111
def qC_bought_106 : List CE := (106, 1, 0, 0, 0, .int 1, []) :: (107, 3, 14, 111, 0, .null, []) :: []
def qC_bought_72 : List CE := (72, 2, 1, 6, 0, .null, []) :: (74, 1, 0, 0, 0, .int 1, []) :: (75, 1, 1, 0, 2, .null, []) :: (76, 3, 18, 4, 0, .null, []) :: (79, 3, 18, 3, 0, .null, []) :: (82, 1, 5, 0, 6, .null, []) :: (83, 3, 13, 148, 3, .null, []) :: (86, 2, 1, 5, 0, .null, []) :: (88, 2, 0, 0, 0, .int (-4), []) :: (90, 3, 13, 106, 0, .null, []) :: (93, 2, 1, 6, 0, .null, []) :: (95, 3, 28, 0, 1, .null, []) :: (98, 2, 1, 5, 0, .null, []) :: (100, 3, 28, 0, 1, .null, []) :: (103, 3, 13, 110, 3, .null, []) :: qC_bought_106
def qC_bought_41 : List CE := (41, 1, 1, 0, 2, .null, []) :: (42, 3, 18, 4, 0, .null, []) :: (45, 3, 37, 35, 1, .null, [(0, 3)]) :: (48, 1, 0, 0, 0, .int 1, []) :: (49, 1, 1, 1, 0, .null, []) :: (50, 1, 5, 0, 6, .null, []) :: (51, 1, 5, 0, 4, .null, []) :: (52, 2, 2, 4, 0, .null, []) :: (54, 2, 0, 0, 0, .int (-4), []) :: (56, 2, 2, 5, 0, .null, []) :: (58, 1, 1, 0, 2, .null, []) :: (59, 3, 18, 4, 2, .null, []) :: (62, 1, 1, 0, 2, .null, []) :: (63, 3, 18, 4, 0, .null, []) :: (66, 3, 37, 40, 2, .null, [(0, 3)]) :: (69, 1, 0, 0, 0, .int 0, []) :: (70, 2, 2, 6, 0, .null, []) :: qC_bought_72
def qC_bought_27 : List CE := (27, 1, 1, 0, 2, .null, []) :: (28, 3, 18, 4, 0, .null, []) :: (31, 1, 1, 1, 0, .null, []) :: (32, 3, 37, 27, 2, .null, [(0, 3)]) :: (35, 3, 12, 41, 0, .null, []) :: (38, 2, 0, 0, 0, .int (-2), []) :: (40, 1, 30, 0, 0, .null, []) :: []
def qC_bought_25 : List CE := (25, 1, 0, 0, 0, .int (-1), []) :: (26, 1, 30, 0, 0, .null, []) :: []
def qC_bought_0 : List CE := (0, 1, 1, 0, 2, .null, []) :: (1, 3, 18, 4, 0, .null, []) :: (4, 1, 1, 1, 0, .null, []) :: (5, 3, 37, 25, 2, .null, [(0, 3)]) :: (8, 3, 12, 25, 0, .null, []) :: (11, 1, 1, 2, 0, .null, []) :: (12, 3, 28, 69, 1, .null, []) :: (15, 3, 12, 25, 0, .null, []) :: (18, 1, 1, 3, 0, .null, []) :: (19, 3, 28, 69, 1, .null, []) :: (22, 3, 12, 27, 1, .null, []) :: qC_bought_25
def qC_image_0 : List CE := (0, 1, 1, 0, 2, .null, []) :: (1, 3, 18, 4, 1, .null, []) :: (4, 1, 1, 0, 2, .null, []) :: (5, 3, 18, 4, 0, .null, []) :: (8, 3, 37, 40, 2, .null, [(0, 3)]) :: (11, 1, 1, 0, 2, .null, []) :: (12, 1, 0, 0, 0, .int 1, []) :: (13, 3, 19, 4, 8, .int 1, []) :: (16, 1, 0, 0, 0, .int 1, []) :: (17, 1, 30, 0, 0, .null, []) :: []
def qC_restore_10 : List CE := (10, 1, 1, 0, 2, .null, []) :: (11, 3, 18, 4, 0, .null, []) :: (14, 1, 1, 0, 2, .null, []) :: (15, 3, 18, 4, 1, .null, []) :: (18, 3, 37, 40, 2, .null, [(0, 3)]) :: (21, 1, 0, 0, 0, .int 1, []) :: (22, 1, 30, 0, 0, .null, []) :: []
def qC_restore_0 : List CE := (0, 1, 1, 0, 2, .null, []) :: (1, 3, 18, 4, 8, .null, []) :: (4, 3, 12, 10, 1, .null, []) :: (7, 2, 0, 0, 0, .int (-4), []) :: (9, 1, 30, 0, 0, .null, []) :: []
def qC_book_206 : List CE := (206, 2, 0, 0, 0, .int (-4), []) :: (208, 1, 30, 0, 0, .null, []) :: []
def qC_book_200 : List CE := (200, 3, 4, 6, 0, .int 1, []) :: (203, 3, 14, 152, 0, .null, []) :: []
def qC_book_152 : List CE := (152, 2, 1, 6, 0, .null, []) :: (154, 1, 1, 0, 2, .null, []) :: (155, 3, 18, 4, 0, .null, []) :: (158, 3, 18, 3, 0, .null, []) :: (161, 3, 13, 206, 3, .null, []) :: (164, 2, 1, 5, 2, .null, []) :: (166, 3, 18, 1, 3, .null, []) :: (169, 1, 1, 3, 0, .null, []) :: (170, 1, 1, 0, 2, .null, []) :: (171, 3, 18, 4, 0, .null, []) :: (174, 3, 18, 3, 0, .null, []) :: (177, 1, 5, 0, 0, .null, []) :: (178, 2, 1, 6, 0, .null, []) :: (180, 1, 5, 0, 0, .null, []) :: (181, 1, 21, 0, 0, .null, []) :: (182, 1, 1, 0, 2, .null, []) :: (183, 3, 18, 4, 2, .null, []) :: (186, 3, 18, 3, 2, .null, []) :: (189, 2, 1, 6, 0, .null, []) :: (191, 1, 20, 0, 0, .null, []) :: (192, 1, 10, 0, 2, .null, []) :: (193, 1, 11, 0, 0, .null, []) :: (194, 3, 12, 200, 0, .null, []) :: (197, 2, 1, 6, 0, .null, []) :: (199, 1, 30, 0, 0, .null, []) :: []
def qC_book_141 : List CE := (141, 1, 1, 0, 2, .null, []) :: (142, 3, 18, 4, 2, .null, []) :: (145, 3, 37, 38, 1, .null, [(0, 3)]) :: (148, 1, 16, 0, 0, .null, []) :: (149, 1, 0, 0, 0, .int 0, []) :: (150, 2, 2, 6, 0, .null, []) :: qC_book_152
def qC_book_102 : List CE := (102, 2, 1, 6, 0, .null, []) :: (104, 1, 1, 0, 2, .null, []) :: (105, 3, 18, 4, 0, .null, []) :: (108, 3, 18, 3, 0, .null, []) :: (111, 3, 13, 141, 3, .null, []) :: (114, 1, 1, 0, 2, .null, []) :: (115, 3, 18, 4, 2, .null, []) :: (118, 3, 18, 3, 2, .null, []) :: (121, 2, 1, 6, 0, .null, []) :: (123, 2, 1, 5, 2, .null, []) :: (125, 3, 18, 1, 3, .null, []) :: (128, 1, 1, 3, 0, .null, []) :: (129, 2, 1, 6, 0, .null, []) :: (131, 1, 5, 0, 0, .null, []) :: (132, 1, 21, 0, 0, .null, []) :: (133, 1, 10, 0, 3, .null, []) :: (134, 1, 24, 0, 0, .null, []) :: (135, 3, 4, 6, 0, .int 1, []) :: (138, 3, 14, 102, 0, .null, []) :: []
def qC_book_88 : List CE := (88, 1, 1, 0, 2, .null, []) :: (89, 3, 18, 4, 2, .null, []) :: (92, 1, 1, 0, 2, .null, []) :: (93, 3, 18, 4, 0, .null, []) :: (96, 3, 37, 40, 2, .null, [(0, 3)]) :: (99, 1, 0, 0, 0, .int 0, []) :: (100, 2, 2, 6, 0, .null, []) :: qC_book_102
def qC_book_82 : List CE := (82, 3, 4, 6, 0, .int 1, []) :: (85, 3, 14, 37, 0, .null, []) :: []
def qC_book_79 : List CE := (79, 2, 0, 0, 0, .int (-2), []) :: (81, 1, 30, 0, 0, .null, []) :: []
def qC_book_37 : List CE := (37, 2, 1, 6, 0, .null, []) :: (39, 1, 0, 0, 0, .int 2, []) :: (40, 1, 1, 0, 2, .null, []) :: (41, 3, 18, 4, 0, .null, []) :: (44, 3, 18, 3, 0, .null, []) :: (47, 1, 5, 0, 2, .null, []) :: (48, 3, 13, 88, 3, .null, []) :: (51, 2, 1, 5, 2, .null, []) :: (53, 3, 18, 1, 3, .null, []) :: (56, 1, 1, 3, 0, .null, []) :: (57, 2, 1, 6, 0, .null, []) :: (59, 1, 5, 0, 0, .null, []) :: (60, 1, 21, 0, 0, .null, []) :: (61, 2, 3, 7, 0, .null, []) :: (63, 2, 1, 7, 1, .null, []) :: (65, 1, 0, 0, 0, .long 0, []) :: (66, 1, 11, 0, 0, .null, []) :: (67, 3, 12, 79, 2, .null, []) :: (70, 2, 1, 7, 1, .null, []) :: (72, 3, 0, 0, 0, .long 99, []) :: (75, 1, 11, 0, 0, .null, []) :: (76, 3, 12, 82, 5, .null, []) :: qC_book_79
def qC_book_26 : List CE := (26, 1, 1, 0, 2, .null, []) :: (27, 3, 18, 4, 5, .null, []) :: (30, 1, 1, 1, 0, .null, []) :: (31, 1, 23, 0, 0, .null, []) :: (32, 2, 2, 5, 2, .null, []) :: (34, 1, 0, 0, 0, .int 0, []) :: (35, 2, 2, 6, 0, .null, []) :: qC_book_37
def qC_book_0 : List CE := (0, 1, 1, 0, 2, .null, []) :: (1, 1, 1, 1, 0, .null, []) :: (2, 1, 1, 2, 0, .null, []) :: (3, 1, 1, 3, 0, .null, []) :: (4, 1, 0, 0, 0, .int 2, []) :: (5, 1, 1, 0, 2, .null, []) :: (6, 3, 18, 4, 0, .null, []) :: (9, 3, 18, 3, 0, .null, []) :: (12, 1, 5, 0, 2, .null, []) :: (13, 3, 37, 85, 5, .null, [(0, 4)]) :: (16, 2, 2, 4, 0, .null, []) :: (18, 2, 1, 4, 0, .null, []) :: (20, 3, 12, 26, 0, .null, []) :: (23, 2, 1, 4, 0, .null, []) :: (25, 1, 30, 0, 0, .null, []) :: []
def qC_film_70 : List CE := (70, 1, 1, 0, 2, .null, []) :: (71, 3, 18, 4, 0, .null, []) :: (74, 3, 18, 3, 0, .null, []) :: (77, 1, 30, 0, 0, .null, []) :: []
def qC_film_27 : List CE := (27, 2, 1, 5, 0, .null, []) :: (29, 1, 1, 0, 2, .null, []) :: (30, 3, 18, 4, 0, .null, []) :: (33, 3, 18, 3, 0, .null, []) :: (36, 3, 13, 70, 3, .null, []) :: (39, 1, 1, 0, 2, .null, []) :: (40, 3, 18, 4, 5, .null, []) :: (43, 1, 1, 1, 0, .null, []) :: (44, 1, 23, 0, 0, .null, []) :: (45, 3, 18, 1, 3, .null, []) :: (48, 1, 1, 3, 0, .null, []) :: (49, 2, 1, 5, 0, .null, []) :: (51, 1, 5, 0, 0, .null, []) :: (52, 1, 1, 0, 2, .null, []) :: (53, 3, 18, 4, 0, .null, []) :: (56, 3, 18, 3, 2, .null, []) :: (59, 2, 1, 5, 0, .null, []) :: (61, 1, 20, 0, 0, .null, []) :: (62, 1, 10, 0, 2, .null, []) :: (63, 1, 25, 0, 0, .null, []) :: (64, 3, 4, 5, 0, .int 1, []) :: (67, 3, 14, 27, 0, .null, []) :: []
def qC_film_24 : List CE := (24, 1, 0, 0, 0, .int 0, []) :: (25, 2, 2, 5, 0, .null, []) :: qC_film_27
def qC_film_0 : List CE := (0, 1, 1, 0, 2, .null, []) :: (1, 1, 1, 1, 0, .null, []) :: (2, 1, 1, 2, 0, .null, []) :: (3, 1, 1, 3, 0, .null, []) :: (4, 1, 1, 0, 2, .null, []) :: (5, 3, 18, 4, 0, .null, []) :: (8, 3, 18, 3, 0, .null, []) :: (11, 3, 37, 85, 5, .null, [(0, 4)]) :: (14, 2, 2, 4, 0, .null, []) :: (16, 2, 1, 4, 0, .null, []) :: (18, 3, 12, 24, 0, .null, []) :: (21, 2, 1, 4, 0, .null, []) :: (23, 1, 30, 0, 0, .null, []) :: []
def qC_sheet_29 : List CE := (29, 1, 1, 0, 2, .null, []) :: (30, 3, 18, 4, 5, .null, []) :: (33, 1, 1, 1, 0, .null, []) :: (34, 1, 23, 0, 0, .null, []) :: (35, 1, 1, 2, 0, .null, []) :: (36, 1, 1, 3, 0, .null, []) :: (37, 3, 37, 12, 3, .null, [(0, 1)]) :: (40, 1, 1, 3, 0, .null, []) :: (41, 1, 30, 0, 0, .null, []) :: []
def qC_sheet_22 : List CE := (22, 1, 1, 3, 0, .null, []) :: (23, 3, 12, 29, 3, .null, []) :: (26, 2, 0, 0, 0, .int (-14), []) :: (28, 1, 30, 0, 0, .null, []) :: []
def qC_sheet_20 : List CE := (20, 1, 0, 0, 0, .int (-1), []) :: (21, 1, 30, 0, 0, .null, []) :: []
def qC_sheet_0 : List CE := (0, 1, 1, 1, 0, .null, []) :: (1, 3, 28, 73, 1, .null, []) :: (4, 3, 12, 20, 0, .null, []) :: (7, 1, 1, 2, 0, .null, []) :: (8, 3, 28, 74, 1, .null, []) :: (11, 3, 12, 20, 0, .null, []) :: (14, 1, 1, 3, 0, .null, []) :: (15, 2, 0, 0, 0, .int 20, []) :: (17, 3, 13, 22, 5, .null, []) :: qC_sheet_20
def qC_drop_24 : List CE := (24, 1, 1, 0, 2, .null, []) :: (25, 3, 18, 4, 5, .null, []) :: (28, 1, 1, 1, 0, .null, []) :: (29, 1, 23, 0, 0, .null, []) :: (30, 1, 0, 0, 0, .int 0, []) :: (31, 3, 19, 1, 0, .int 1, []) :: (34, 1, 1, 0, 2, .null, []) :: (35, 3, 18, 4, 5, .null, []) :: (38, 1, 1, 1, 0, .null, []) :: (39, 1, 23, 0, 0, .null, []) :: (40, 3, 18, 1, 2, .null, []) :: (43, 1, 30, 0, 0, .null, []) :: []
def qC_drop_9 : List CE := (9, 1, 1, 0, 2, .null, []) :: (10, 3, 18, 4, 5, .null, []) :: (13, 1, 1, 1, 0, .null, []) :: (14, 1, 23, 0, 0, .null, []) :: (15, 3, 18, 1, 0, .null, []) :: (18, 3, 12, 24, 1, .null, []) :: (21, 2, 0, 0, 0, .int (-11), []) :: (23, 1, 30, 0, 0, .null, []) :: []
def qC_drop_0 : List CE := (0, 1, 1, 1, 0, .null, []) :: (1, 3, 28, 73, 1, .null, []) :: (4, 3, 12, 9, 1, .null, []) :: (7, 1, 0, 0, 0, .int (-1), []) :: (8, 1, 30, 0, 0, .null, []) :: []
def qC_item_18 : List CE := (18, 1, 1, 0, 2, .null, []) :: (19, 3, 18, 4, 5, .null, []) :: (22, 1, 1, 1, 0, .null, []) :: (23, 1, 23, 0, 0, .null, []) :: (24, 3, 18, 1, 3, .null, []) :: (27, 1, 1, 3, 0, .null, []) :: (28, 1, 1, 2, 0, .null, []) :: (29, 2, 1, 4, 1, .null, []) :: (31, 3, 28, 78, 2, .null, []) :: (34, 1, 25, 0, 0, .null, []) :: (35, 1, 0, 0, 0, .int 1, []) :: (36, 1, 30, 0, 0, .null, []) :: []
def qC_item_0 : List CE := (0, 1, 1, 0, 2, .null, []) :: (1, 1, 1, 1, 0, .null, []) :: (2, 1, 1, 2, 0, .null, []) :: (3, 1, 1, 3, 0, .null, []) :: (4, 1, 0, 0, 0, .int 1, []) :: (5, 3, 37, 85, 5, .null, [(0, 4)]) :: (8, 2, 2, 6, 0, .null, []) :: (10, 2, 1, 6, 0, .null, []) :: (12, 3, 12, 18, 0, .null, []) :: (15, 2, 1, 6, 0, .null, []) :: (17, 1, 30, 0, 0, .null, []) :: []
def qC_copy_93 : List CE := (93, 2, 1, 6, 2, .null, []) :: (95, 3, 18, 1, 3, .null, []) :: (98, 1, 1, 2, 0, .null, []) :: (99, 2, 1, 7, 2, .null, []) :: (101, 3, 18, 1, 3, .null, []) :: (104, 2, 1, 4, 0, .null, []) :: (106, 2, 1, 5, 0, .null, []) :: (108, 3, 29, 0, 0, .null, []) :: (111, 2, 1, 5, 0, .null, []) :: (113, 1, 30, 0, 0, .null, []) :: []
def qC_copy_90 : List CE := (90, 2, 0, 0, 0, .int (-13), []) :: (92, 1, 30, 0, 0, .null, []) :: []
def qC_copy_67 : List CE := (67, 2, 1, 6, 2, .null, []) :: (69, 1, 1, 2, 0, .null, []) :: (70, 2, 1, 5, 0, .null, []) :: (72, 3, 37, 13, 3, .null, [(0, 1)]) :: (75, 3, 12, 90, 0, .null, []) :: (78, 2, 1, 7, 2, .null, []) :: (80, 2, 1, 4, 0, .null, []) :: (82, 2, 1, 5, 0, .null, []) :: (84, 3, 37, 13, 3, .null, [(0, 1)]) :: (87, 3, 12, 93, 1, .null, []) :: qC_copy_90
def qC_copy_51 : List CE := (51, 2, 1, 6, 2, .null, []) :: (53, 3, 18, 1, 1, .null, []) :: (56, 2, 1, 7, 2, .null, []) :: (58, 3, 18, 1, 1, .null, []) :: (61, 3, 13, 67, 0, .null, []) :: (64, 2, 0, 0, 0, .int (-12), []) :: (66, 1, 30, 0, 0, .null, []) :: []
def qC_copy_48 : List CE := (48, 2, 0, 0, 0, .int (-11), []) :: (50, 1, 30, 0, 0, .null, []) :: []
def qC_copy_16 : List CE := (16, 1, 1, 0, 2, .null, []) :: (17, 3, 18, 4, 5, .null, []) :: (20, 1, 1, 1, 0, .null, []) :: (21, 1, 23, 0, 0, .null, []) :: (22, 2, 2, 6, 2, .null, []) :: (24, 1, 1, 0, 2, .null, []) :: (25, 3, 18, 4, 5, .null, []) :: (28, 1, 1, 3, 0, .null, []) :: (29, 1, 23, 0, 0, .null, []) :: (30, 2, 2, 7, 2, .null, []) :: (32, 2, 1, 6, 2, .null, []) :: (34, 3, 18, 1, 0, .null, []) :: (37, 3, 12, 48, 0, .null, []) :: (40, 2, 1, 7, 2, .null, []) :: (42, 3, 18, 1, 0, .null, []) :: (45, 3, 12, 51, 1, .null, []) :: qC_copy_48
def qC_copy_14 : List CE := (14, 1, 0, 0, 0, .int (-1), []) :: (15, 1, 30, 0, 0, .null, []) :: []
def qC_copy_0 : List CE := (0, 1, 1, 1, 0, .null, []) :: (1, 3, 28, 73, 1, .null, []) :: (4, 3, 12, 14, 0, .null, []) :: (7, 1, 1, 3, 0, .null, []) :: (8, 3, 28, 73, 1, .null, []) :: (11, 3, 12, 16, 1, .null, []) :: qC_copy_14
def qC_isPence_15 : List CE := (15, 1, 30, 0, 1, .null, []) :: []
def qC_isPence_14 : List CE := (14, 1, 0, 0, 0, .int 0, []) :: qC_isPence_15
def qC_isPence_0 : List CE := (0, 1, 1, 0, 0, .null, []) :: (1, 3, 12, 14, 2, .null, []) :: (4, 1, 1, 0, 0, .null, []) :: (5, 2, 0, 0, 0, .int 99, []) :: (7, 3, 13, 14, 4, .null, []) :: (10, 1, 0, 0, 0, .int 1, []) :: (11, 3, 14, 15, 0, .null, []) :: []
def qC_isShare_14 : List CE := (14, 1, 30, 0, 1, .null, []) :: []
def qC_isShare_13 : List CE := (13, 1, 0, 0, 0, .int 0, []) :: qC_isShare_14
def qC_isShare_0 : List CE := (0, 1, 1, 0, 0, .null, []) :: (1, 3, 12, 13, 2, .null, []) :: (4, 1, 1, 0, 0, .null, []) :: (5, 1, 0, 0, 0, .int 2, []) :: (6, 3, 13, 13, 4, .null, []) :: (9, 1, 0, 0, 0, .int 1, []) :: (10, 3, 14, 14, 0, .null, []) :: []
def qC_isOwner_14 : List CE := (14, 1, 30, 0, 1, .null, []) :: []
def qC_isOwner_13 : List CE := (13, 1, 0, 0, 0, .int 0, []) :: qC_isOwner_14
def qC_isOwner_0 : List CE := (0, 1, 1, 0, 0, .null, []) :: (1, 3, 12, 13, 2, .null, []) :: (4, 1, 1, 0, 0, .null, []) :: (5, 1, 0, 0, 0, .int 3, []) :: (6, 3, 13, 13, 4, .null, []) :: (9, 1, 0, 0, 0, .int 1, []) :: (10, 3, 14, 14, 0, .null, []) :: []
def qC_isPart_14 : List CE := (14, 1, 30, 0, 1, .null, []) :: []
def qC_isPart_13 : List CE := (13, 1, 0, 0, 0, .int 0, []) :: qC_isPart_14
def qC_isPart_9 : List CE := (9, 1, 0, 0, 0, .int 1, []) :: (10, 3, 14, 14, 0, .null, []) :: []
def qC_isPart_0 : List CE := (0, 1, 1, 0, 0, .null, []) :: (1, 3, 12, 9, 0, .null, []) :: (4, 1, 1, 0, 0, .null, []) :: (5, 1, 0, 0, 0, .int 1, []) :: (6, 3, 13, 13, 1, .null, []) :: qC_isPart_9
def qC_isSheet_14 : List CE := (14, 1, 30, 0, 1, .null, []) :: []
def qC_isSheet_13 : List CE := (13, 1, 0, 0, 0, .int 0, []) :: qC_isSheet_14
def qC_isSheet_0 : List CE := (0, 1, 1, 0, 0, .null, []) :: (1, 3, 12, 13, 2, .null, []) :: (4, 1, 1, 0, 0, .null, []) :: (5, 1, 0, 0, 0, .int 4, []) :: (6, 3, 13, 13, 3, .null, []) :: (9, 1, 0, 0, 0, .int 1, []) :: (10, 3, 14, 14, 0, .null, []) :: []
def qC_isLane_14 : List CE := (14, 1, 30, 0, 1, .null, []) :: []
def qC_isLane_13 : List CE := (13, 1, 0, 0, 0, .int 0, []) :: qC_isLane_14
def qC_isLane_0 : List CE := (0, 1, 1, 0, 0, .null, []) :: (1, 3, 12, 13, 2, .null, []) :: (4, 1, 1, 0, 0, .null, []) :: (5, 1, 0, 0, 0, .int 2, []) :: (6, 3, 13, 13, 4, .null, []) :: (9, 1, 0, 0, 0, .int 1, []) :: (10, 3, 14, 14, 0, .null, []) :: []
def qC_isIn_14 : List CE := (14, 1, 30, 0, 1, .null, []) :: []
def qC_isIn_13 : List CE := (13, 1, 0, 0, 0, .int 0, []) :: qC_isIn_14
def qC_isIn_0 : List CE := (0, 1, 1, 0, 0, .null, []) :: (1, 1, 1, 1, 0, .null, []) :: (2, 1, 5, 0, 7, .null, []) :: (3, 1, 0, 0, 0, .int 1, []) :: (4, 1, 5, 0, 3, .null, []) :: (5, 1, 0, 0, 0, .int 1, []) :: (6, 3, 13, 13, 1, .null, []) :: (9, 1, 0, 0, 0, .int 1, []) :: (10, 3, 14, 14, 0, .null, []) :: []
def qC_areSigns_36 : List CE := (36, 1, 0, 0, 0, .int 1, []) :: (37, 1, 30, 0, 1, .null, []) :: []
def qC_areSigns_30 : List CE := (30, 3, 4, 3, 0, .int 1, []) :: (33, 3, 14, 2, 0, .null, []) :: []
def qC_areSigns_28 : List CE := (28, 1, 0, 0, 0, .int 0, []) :: (29, 1, 30, 0, 1, .null, []) :: []
def qC_areSigns_2 : List CE := (2, 1, 1, 3, 0, .null, []) :: (3, 1, 1, 2, 0, .null, []) :: (4, 3, 13, 36, 3, .null, []) :: (7, 1, 1, 0, 1, .null, []) :: (8, 1, 1, 3, 0, .null, []) :: (9, 3, 28, 77, 2, .null, []) :: (12, 2, 2, 4, 0, .null, []) :: (14, 2, 1, 4, 0, .null, []) :: (16, 2, 0, 0, 0, .int 32, []) :: (18, 3, 13, 28, 2, .null, []) :: (21, 2, 1, 4, 0, .null, []) :: (23, 2, 0, 0, 0, .int 126, []) :: (25, 3, 13, 30, 5, .null, []) :: qC_areSigns_28
def qC_areSigns_0 : List CE := (0, 1, 0, 0, 0, .int 0, []) :: (1, 1, 2, 3, 0, .null, []) :: qC_areSigns_2
def qC_byteOf_0 : List CE := (0, 1, 1, 0, 1, .null, []) :: (1, 2, 0, 0, 0, .int 8, []) :: (3, 1, 1, 2, 0, .null, []) :: (4, 1, 5, 0, 2, .null, []) :: (5, 1, 9, 0, 2, .null, []) :: (6, 3, 0, 0, 0, .long 255, []) :: (9, 1, 7, 0, 3, .null, []) :: (10, 1, 10, 0, 3, .null, []) :: (11, 1, 30, 0, 0, .null, []) :: []
def qC_lowestBits_22 : List CE := (22, 1, 31, 0, 0, .null, []) :: []
def qC_lowestBits_21 : List CE := (21, 1, 1, 1, 1, .null, []) :: qC_lowestBits_22
def qC_lowestBits_9 : List CE := (9, 1, 1, 0, 0, .null, []) :: (10, 1, 0, 0, 0, .int 1, []) :: (11, 3, 13, 21, 1, .null, []) :: (14, 1, 1, 1, 1, .null, []) :: (15, 1, 10, 0, 3, .null, []) :: (16, 1, 10, 0, 5, .null, []) :: (17, 1, 10, 0, 2, .null, []) :: (18, 3, 14, 22, 0, .null, []) :: []
def qC_lowestBits_0 : List CE := (0, 1, 1, 0, 0, .null, []) :: (1, 3, 12, 9, 1, .null, []) :: (4, 1, 1, 1, 1, .null, []) :: (5, 1, 10, 0, 3, .null, []) :: (6, 1, 10, 0, 4, .null, []) :: (7, 1, 10, 0, 2, .null, []) :: (8, 1, 31, 0, 0, .null, []) :: []
def qC_lowest_29 : List CE := (29, 2, 1, 5, 1, .null, []) :: (31, 1, 8, 0, 0, .null, []) :: (32, 1, 31, 0, 0, .null, []) :: []
def qC_lowest_28 : List CE := (28, 1, 1, 2, 1, .null, []) :: qC_lowest_29
def qC_lowest_19 : List CE := (19, 2, 1, 4, 0, .null, []) :: (21, 3, 12, 28, 1, .null, []) :: (24, 1, 1, 0, 1, .null, []) :: (25, 3, 14, 29, 0, .null, []) :: []
def qC_lowest_0 : List CE := (0, 1, 1, 0, 1, .null, []) :: (1, 3, 36, 0, 0, .null, []) :: (4, 1, 1, 2, 1, .null, []) :: (5, 3, 28, 80, 2, .null, []) :: (8, 2, 3, 5, 0, .null, []) :: (10, 2, 1, 5, 1, .null, []) :: (12, 1, 0, 0, 0, .long 0, []) :: (13, 1, 11, 0, 0, .null, []) :: (14, 3, 12, 19, 1, .null, []) :: (17, 1, 0, 0, 0, .long 0, []) :: (18, 1, 31, 0, 0, .null, []) :: []
def qC_commonDivisor_44 : List CE := (44, 2, 1, 4, 1, .null, []) :: (46, 1, 31, 0, 0, .null, []) :: []
def qC_commonDivisor_9 : List CE := (9, 2, 1, 8, 0, .null, []) :: (11, 2, 0, 0, 0, .int 100, []) :: (13, 3, 13, 44, 3, .null, []) :: (16, 2, 1, 6, 1, .null, []) :: (18, 1, 0, 0, 0, .long 0, []) :: (19, 1, 11, 0, 0, .null, []) :: (20, 3, 12, 44, 0, .null, []) :: (23, 2, 1, 4, 1, .null, []) :: (25, 2, 1, 6, 1, .null, []) :: (27, 1, 8, 0, 1, .null, []) :: (28, 2, 3, 9, 0, .null, []) :: (30, 2, 1, 6, 1, .null, []) :: (32, 2, 3, 4, 0, .null, []) :: (34, 2, 1, 9, 1, .null, []) :: (36, 2, 3, 6, 0, .null, []) :: (38, 3, 4, 8, 0, .int 1, []) :: (41, 3, 14, 9, 0, .null, []) :: []
def qC_commonDivisor_0 : List CE := (0, 1, 1, 0, 1, .null, []) :: (1, 2, 3, 4, 0, .null, []) :: (3, 1, 1, 2, 1, .null, []) :: (4, 2, 3, 6, 0, .null, []) :: (6, 1, 0, 0, 0, .int 0, []) :: (7, 2, 2, 8, 0, .null, []) :: qC_commonDivisor_9
def qC_trialLessNow_71 : List CE := (71, 1, 1, 0, 2, .null, []) :: (72, 3, 18, 4, 3, .null, []) :: (75, 3, 18, 0, 0, .null, []) :: (78, 1, 1, 1, 0, .null, []) :: (79, 1, 21, 0, 0, .null, []) :: (80, 2, 1, 5, 1, .null, []) :: (82, 1, 7, 0, 2, .null, []) :: (83, 1, 1, 3, 1, .null, []) :: (84, 1, 1, 0, 2, .null, []) :: (85, 3, 18, 4, 3, .null, []) :: (88, 3, 18, 0, 1, .null, []) :: (91, 1, 7, 0, 2, .null, []) :: (92, 1, 7, 0, 1, .null, []) :: (93, 2, 3, 7, 0, .null, []) :: (95, 2, 1, 7, 1, .null, []) :: (97, 1, 1, 0, 2, .null, []) :: (98, 3, 18, 4, 3, .null, []) :: (101, 3, 18, 0, 1, .null, []) :: (104, 2, 1, 5, 1, .null, []) :: (106, 1, 7, 0, 2, .null, []) :: (107, 1, 1, 2, 0, .null, []) :: (108, 3, 28, 79, 3, .null, []) :: (111, 1, 31, 0, 0, .null, []) :: []
def qC_trialLessNow_26 : List CE := (26, 1, 1, 0, 2, .null, []) :: (27, 3, 18, 4, 3, .null, []) :: (30, 3, 18, 0, 0, .null, []) :: (33, 1, 1, 1, 0, .null, []) :: (34, 1, 21, 0, 0, .null, []) :: (35, 1, 3, 3, 0, .null, []) :: (36, 1, 1, 0, 2, .null, []) :: (37, 3, 18, 4, 3, .null, []) :: (40, 3, 18, 0, 1, .null, []) :: (43, 2, 3, 5, 0, .null, []) :: (45, 1, 1, 0, 2, .null, []) :: (46, 3, 18, 4, 3, .null, []) :: (49, 1, 1, 0, 2, .null, []) :: (50, 3, 18, 4, 2, .null, []) :: (53, 3, 37, 2, 2, .null, [(0, 0)]) :: (56, 1, 1, 0, 2, .null, []) :: (57, 3, 18, 4, 3, .null, []) :: (60, 1, 1, 1, 0, .null, []) :: (61, 3, 37, 1, 2, .null, [(0, 0)]) :: (64, 3, 12, 71, 1, .null, []) :: (67, 3, 0, 0, 0, .long (-1000000000000000004), []) :: (70, 1, 31, 0, 0, .null, []) :: []
def qC_trialLessNow_0 : List CE := (0, 1, 1, 0, 2, .null, []) :: (1, 3, 18, 4, 3, .null, []) :: (4, 1, 1, 0, 2, .null, []) :: (5, 3, 18, 4, 0, .null, []) :: (8, 3, 37, 2, 2, .null, [(0, 0)]) :: (11, 1, 1, 0, 2, .null, []) :: (12, 3, 18, 4, 3, .null, []) :: (15, 1, 1, 1, 0, .null, []) :: (16, 3, 37, 1, 2, .null, [(0, 0)]) :: (19, 3, 12, 26, 1, .null, []) :: (22, 3, 0, 0, 0, .long (-1000000000000000004), []) :: (25, 1, 31, 0, 0, .null, []) :: []
def qC_fillIncomes_107 : List CE := (107, 1, 32, 0, 0, .null, []) :: []
def qC_fillIncomes_13 : List CE := (13, 1, 1, 3, 0, .null, []) :: (14, 2, 0, 0, 0, .int 100, []) :: (16, 3, 13, 107, 3, .null, []) :: (19, 1, 1, 0, 2, .null, []) :: (20, 3, 18, 4, 3, .null, []) :: (23, 1, 1, 1, 0, .null, []) :: (24, 2, 0, 0, 0, .int 11, []) :: (26, 1, 1, 3, 0, .null, []) :: (27, 2, 0, 0, 0, .int 10, []) :: (29, 1, 6, 0, 0, .null, []) :: (30, 1, 5, 0, 2, .null, []) :: (31, 3, 37, 9, 3, .null, [(0, 0)]) :: (34, 1, 1, 0, 2, .null, []) :: (35, 3, 18, 4, 3, .null, []) :: (38, 1, 1, 2, 0, .null, []) :: (39, 2, 0, 0, 0, .int 11, []) :: (41, 1, 1, 3, 0, .null, []) :: (42, 2, 0, 0, 0, .int 10, []) :: (44, 1, 6, 0, 1, .null, []) :: (45, 1, 5, 0, 2, .null, []) :: (46, 3, 37, 9, 3, .null, [(0, 0)]) :: (49, 1, 1, 0, 2, .null, []) :: (50, 3, 18, 4, 6, .null, []) :: (53, 1, 1, 3, 0, .null, []) :: (54, 1, 1, 0, 2, .null, []) :: (55, 3, 18, 4, 3, .null, []) :: (58, 1, 1, 0, 2, .null, []) :: (59, 3, 18, 4, 0, .null, []) :: (62, 1, 1, 0, 2, .null, []) :: (63, 3, 18, 4, 0, .null, []) :: (66, 3, 18, 3, 3, .null, []) :: (69, 1, 1, 1, 0, .null, []) :: (70, 1, 20, 0, 0, .null, []) :: (71, 3, 37, 10, 3, .null, [(0, 0)]) :: (74, 1, 25, 0, 0, .null, []) :: (75, 1, 1, 0, 2, .null, []) :: (76, 3, 18, 4, 7, .null, []) :: (79, 1, 1, 3, 0, .null, []) :: (80, 1, 1, 0, 2, .null, []) :: (81, 3, 18, 4, 3, .null, []) :: (84, 1, 1, 0, 2, .null, []) :: (85, 3, 18, 4, 0, .null, []) :: (88, 1, 1, 0, 2, .null, []) :: (89, 3, 18, 4, 0, .null, []) :: (92, 3, 18, 3, 3, .null, []) :: (95, 1, 1, 2, 0, .null, []) :: (96, 1, 20, 0, 0, .null, []) :: (97, 3, 37, 10, 3, .null, [(0, 0)]) :: (100, 1, 25, 0, 0, .null, []) :: (101, 3, 4, 3, 0, .int 1, []) :: (104, 3, 14, 13, 0, .null, []) :: []
def qC_fillIncomes_0 : List CE := (0, 1, 1, 0, 2, .null, []) :: (1, 3, 18, 4, 3, .null, []) :: (4, 1, 1, 0, 2, .null, []) :: (5, 3, 18, 4, 0, .null, []) :: (8, 3, 37, 2, 2, .null, [(0, 0)]) :: (11, 1, 0, 0, 0, .int 0, []) :: (12, 1, 2, 3, 0, .null, []) :: qC_fillIncomes_13
def qC_isRest_72 : List CE := (72, 1, 0, 0, 0, .int 1, []) :: (73, 1, 30, 0, 1, .null, []) :: []
def qC_isRest_66 : List CE := (66, 3, 4, 4, 0, .int 1, []) :: (69, 3, 14, 13, 0, .null, []) :: []
def qC_isRest_64 : List CE := (64, 1, 0, 0, 0, .int 0, []) :: (65, 1, 30, 0, 1, .null, []) :: []
def qC_isRest_13 : List CE := (13, 2, 1, 4, 0, .null, []) :: (15, 2, 0, 0, 0, .int 10, []) :: (17, 3, 13, 72, 3, .null, []) :: (20, 1, 1, 0, 2, .null, []) :: (21, 3, 18, 4, 6, .null, []) :: (24, 2, 0, 0, 0, .int 10, []) :: (26, 2, 1, 4, 0, .null, []) :: (28, 1, 5, 0, 2, .null, []) :: (29, 1, 1, 3, 0, .null, []) :: (30, 1, 5, 0, 0, .null, []) :: (31, 1, 21, 0, 0, .null, []) :: (32, 1, 1, 0, 2, .null, []) :: (33, 3, 18, 4, 6, .null, []) :: (36, 1, 1, 1, 0, .null, []) :: (37, 1, 21, 0, 0, .null, []) :: (38, 1, 11, 0, 0, .null, []) :: (39, 3, 12, 64, 4, .null, []) :: (42, 1, 1, 0, 2, .null, []) :: (43, 3, 18, 4, 7, .null, []) :: (46, 2, 0, 0, 0, .int 10, []) :: (48, 1, 1, 2, 0, .null, []) :: (49, 1, 5, 0, 2, .null, []) :: (50, 2, 1, 4, 0, .null, []) :: (52, 1, 5, 0, 0, .null, []) :: (53, 1, 21, 0, 0, .null, []) :: (54, 1, 1, 0, 2, .null, []) :: (55, 3, 18, 4, 7, .null, []) :: (58, 1, 1, 1, 0, .null, []) :: (59, 1, 21, 0, 0, .null, []) :: (60, 1, 11, 0, 0, .null, []) :: (61, 3, 12, 66, 5, .null, []) :: qC_isRest_64
def qC_isRest_0 : List CE := (0, 1, 1, 1, 0, .null, []) :: (1, 2, 0, 0, 0, .int 10, []) :: (3, 1, 6, 0, 0, .null, []) :: (4, 1, 2, 2, 0, .null, []) :: (5, 1, 1, 1, 0, .null, []) :: (6, 2, 0, 0, 0, .int 10, []) :: (8, 1, 6, 0, 1, .null, []) :: (9, 1, 2, 3, 0, .null, []) :: (10, 1, 0, 0, 0, .int 0, []) :: (11, 2, 2, 4, 0, .null, []) :: qC_isRest_13
def qC_isCheapWhenBought_138 : List CE := (138, 1, 30, 0, 1, .null, []) :: []
def qC_isCheapWhenBought_137 : List CE := (137, 1, 0, 0, 0, .int 0, []) :: qC_isCheapWhenBought_138
def qC_isCheapWhenBought_87 : List CE := (87, 1, 1, 0, 2, .null, []) :: (88, 3, 18, 4, 3, .null, []) :: (91, 1, 1, 0, 2, .null, []) :: (92, 3, 18, 4, 2, .null, []) :: (95, 3, 37, 2, 2, .null, [(0, 0)]) :: (98, 1, 1, 0, 2, .null, []) :: (99, 3, 18, 4, 3, .null, []) :: (102, 1, 1, 3, 0, .null, []) :: (103, 3, 37, 1, 2, .null, [(0, 0)]) :: (106, 3, 12, 137, 0, .null, []) :: (109, 1, 1, 0, 2, .null, []) :: (110, 3, 18, 4, 3, .null, []) :: (113, 3, 18, 0, 0, .null, []) :: (116, 1, 1, 3, 0, .null, []) :: (117, 1, 21, 0, 0, .null, []) :: (118, 2, 1, 4, 0, .null, []) :: (120, 1, 10, 0, 2, .null, []) :: (121, 1, 1, 0, 2, .null, []) :: (122, 3, 18, 4, 3, .null, []) :: (125, 3, 18, 0, 1, .null, []) :: (128, 1, 7, 0, 2, .null, []) :: (129, 1, 11, 0, 0, .null, []) :: (130, 3, 12, 137, 4, .null, []) :: (133, 1, 0, 0, 0, .int 1, []) :: (134, 3, 14, 138, 0, .null, []) :: []
def qC_isCheapWhenBought_80 : List CE := (80, 1, 24, 0, 0, .null, []) :: (81, 3, 4, 5, 0, .int 1, []) :: (84, 3, 14, 3, 0, .null, []) :: []
def qC_isCheapWhenBought_70 : List CE := (70, 1, 1, 0, 2, .null, []) :: (71, 3, 18, 4, 0, .null, []) :: (74, 3, 18, 3, 2, .null, []) :: (77, 2, 1, 5, 0, .null, []) :: (79, 1, 20, 0, 0, .null, []) :: qC_isCheapWhenBought_80
def qC_isCheapWhenBought_51 : List CE := (51, 1, 24, 0, 0, .null, []) :: (52, 1, 1, 0, 2, .null, []) :: (53, 3, 18, 4, 2, .null, []) :: (56, 3, 18, 3, 2, .null, []) :: (59, 2, 1, 5, 0, .null, []) :: (61, 2, 1, 6, 0, .null, []) :: (63, 3, 12, 70, 0, .null, []) :: (66, 1, 1, 2, 0, .null, []) :: (67, 3, 14, 80, 0, .null, []) :: []
def qC_isCheapWhenBought_41 : List CE := (41, 1, 1, 0, 2, .null, []) :: (42, 3, 18, 4, 0, .null, []) :: (45, 3, 18, 3, 1, .null, []) :: (48, 2, 1, 5, 0, .null, []) :: (50, 1, 20, 0, 0, .null, []) :: qC_isCheapWhenBought_51
def qC_isCheapWhenBought_3 : List CE := (3, 2, 1, 5, 0, .null, []) :: (5, 1, 1, 0, 2, .null, []) :: (6, 3, 18, 4, 0, .null, []) :: (9, 3, 18, 3, 0, .null, []) :: (12, 3, 13, 87, 3, .null, []) :: (15, 1, 1, 1, 0, .null, []) :: (16, 2, 1, 5, 0, .null, []) :: (18, 3, 28, 75, 2, .null, []) :: (21, 2, 2, 6, 0, .null, []) :: (23, 1, 1, 0, 2, .null, []) :: (24, 3, 18, 4, 2, .null, []) :: (27, 3, 18, 3, 1, .null, []) :: (30, 2, 1, 5, 0, .null, []) :: (32, 2, 1, 6, 0, .null, []) :: (34, 3, 12, 41, 0, .null, []) :: (37, 1, 0, 0, 0, .int 3, []) :: (38, 3, 14, 51, 0, .null, []) :: []
def qC_isCheapWhenBought_0 : List CE := (0, 1, 0, 0, 0, .int 0, []) :: (1, 2, 2, 5, 0, .null, []) :: qC_isCheapWhenBought_3
def qC_refusal_68 : List CE := (68, 1, 30, 0, 0, .null, []) :: []
def qC_refusal_66 : List CE := (66, 2, 0, 0, 0, .int (-13), []) :: qC_refusal_68
def qC_refusal_47 : List CE := (47, 1, 1, 0, 2, .null, []) :: (48, 3, 18, 4, 5, .null, []) :: (51, 1, 1, 1, 0, .null, []) :: (52, 1, 23, 0, 0, .null, []) :: (53, 1, 1, 3, 0, .null, []) :: (54, 2, 1, 4, 0, .null, []) :: (56, 3, 37, 13, 3, .null, [(0, 1)]) :: (59, 3, 12, 66, 0, .null, []) :: (62, 1, 0, 0, 0, .int 0, []) :: (63, 3, 14, 68, 0, .null, []) :: []
def qC_refusal_31 : List CE := (31, 1, 1, 0, 2, .null, []) :: (32, 3, 18, 4, 5, .null, []) :: (35, 1, 1, 1, 0, .null, []) :: (36, 1, 23, 0, 0, .null, []) :: (37, 3, 18, 1, 1, .null, []) :: (40, 1, 1, 2, 0, .null, []) :: (41, 3, 13, 47, 0, .null, []) :: (44, 2, 0, 0, 0, .int (-12), []) :: (46, 1, 30, 0, 0, .null, []) :: []
def qC_refusal_16 : List CE := (16, 1, 1, 0, 2, .null, []) :: (17, 3, 18, 4, 5, .null, []) :: (20, 1, 1, 1, 0, .null, []) :: (21, 1, 23, 0, 0, .null, []) :: (22, 3, 18, 1, 0, .null, []) :: (25, 3, 12, 31, 1, .null, []) :: (28, 2, 0, 0, 0, .int (-11), []) :: (30, 1, 30, 0, 0, .null, []) :: []
def qC_refusal_14 : List CE := (14, 1, 0, 0, 0, .int (-1), []) :: (15, 1, 30, 0, 0, .null, []) :: []
def qC_refusal_0 : List CE := (0, 1, 1, 1, 0, .null, []) :: (1, 3, 28, 73, 1, .null, []) :: (4, 3, 12, 14, 0, .null, []) :: (7, 1, 1, 2, 0, .null, []) :: (8, 3, 28, 74, 1, .null, []) :: (11, 3, 12, 16, 1, .null, []) :: qC_refusal_14
def qM_in_18 : List CE := (18, 1, 30, 0, 1, .null, []) :: []
def qM_in_17 : List CE := (17, 1, 0, 0, 0, .int 0, []) :: qM_in_18
def qM_in_0 : List CE := (0, 1, 1, 0, 1, .null, []) :: (1, 1, 1, 2, 1, .null, []) :: (2, 1, 11, 0, 0, .null, []) :: (3, 3, 12, 17, 2, .null, []) :: (6, 1, 1, 0, 1, .null, []) :: (7, 2, 1, 4, 1, .null, []) :: (9, 1, 11, 0, 0, .null, []) :: (10, 3, 12, 17, 4, .null, []) :: (13, 1, 0, 0, 0, .int 1, []) :: (14, 3, 14, 18, 0, .null, []) :: []
def qM_isHouse_0 : List CE := (0, 1, 1, 1, 0, .null, []) :: (1, 1, 10, 0, 2, .null, []) :: (2, 1, 0, 0, 0, .long 0, []) :: (3, 1, 1, 0, 2, .null, []) :: (4, 3, 18, 5, 0, .null, []) :: (7, 1, 0, 0, 0, .int 1, []) :: (8, 1, 5, 0, 1, .null, []) :: (9, 1, 10, 0, 2, .null, []) :: (10, 3, 28, 86, 3, .null, []) :: (13, 1, 30, 0, 1, .null, []) :: []
def qM_areTwo_26 : List CE := (26, 1, 30, 0, 1, .null, []) :: []
def qM_areTwo_25 : List CE := (25, 1, 0, 0, 0, .int 0, []) :: qM_areTwo_26
def qM_areTwo_0 : List CE := (0, 1, 1, 0, 2, .null, []) :: (1, 1, 1, 1, 0, .null, []) :: (2, 3, 37, 87, 2, .null, [(0, 5)]) :: (5, 3, 12, 25, 0, .null, []) :: (8, 1, 1, 0, 2, .null, []) :: (9, 1, 1, 2, 0, .null, []) :: (10, 3, 37, 87, 2, .null, [(0, 5)]) :: (13, 3, 12, 25, 0, .null, []) :: (16, 1, 1, 1, 0, .null, []) :: (17, 1, 1, 2, 0, .null, []) :: (18, 3, 13, 25, 0, .null, []) :: (21, 1, 0, 0, 0, .int 1, []) :: (22, 3, 14, 26, 0, .null, []) :: []
def qM_comes_85 : List CE := (85, 1, 1, 0, 2, .null, []) :: (86, 1, 15, 0, 0, .null, []) :: (87, 3, 18, 5, 0, .null, []) :: (90, 1, 0, 0, 0, .int 1, []) :: (91, 1, 5, 0, 0, .null, []) :: (92, 3, 19, 5, 0, .int 0, []) :: (95, 1, 32, 0, 0, .null, []) :: []
def qM_comes_43 : List CE := (43, 1, 1, 3, 0, .null, []) :: (44, 2, 0, 0, 0, .int 8, []) :: (46, 3, 13, 85, 3, .null, []) :: (49, 1, 1, 0, 2, .null, []) :: (50, 3, 18, 5, 5, .null, []) :: (53, 2, 0, 0, 0, .int 8, []) :: (55, 1, 1, 0, 2, .null, []) :: (56, 3, 18, 5, 0, .null, []) :: (59, 1, 5, 0, 2, .null, []) :: (60, 1, 1, 3, 0, .null, []) :: (61, 1, 5, 0, 0, .null, []) :: (62, 1, 0, 0, 0, .int 0, []) :: (63, 1, 24, 0, 0, .null, []) :: (64, 1, 1, 0, 2, .null, []) :: (65, 3, 18, 5, 5, .null, []) :: (68, 2, 0, 0, 0, .int 8, []) :: (70, 1, 1, 3, 0, .null, []) :: (71, 1, 5, 0, 2, .null, []) :: (72, 1, 1, 0, 2, .null, []) :: (73, 3, 18, 5, 0, .null, []) :: (76, 1, 5, 0, 0, .null, []) :: (77, 1, 0, 0, 0, .int 0, []) :: (78, 1, 24, 0, 0, .null, []) :: (79, 3, 4, 3, 0, .int 1, []) :: (82, 3, 14, 43, 0, .null, []) :: []
def qM_comes_0 : List CE := (0, 1, 1, 0, 2, .null, []) :: (1, 3, 18, 5, 1, .null, []) :: (4, 1, 1, 0, 2, .null, []) :: (5, 3, 18, 5, 0, .null, []) :: (8, 1, 1, 1, 0, .null, []) :: (9, 1, 24, 0, 0, .null, []) :: (10, 1, 1, 0, 2, .null, []) :: (11, 3, 18, 5, 2, .null, []) :: (14, 1, 1, 0, 2, .null, []) :: (15, 3, 18, 5, 0, .null, []) :: (18, 1, 1, 2, 0, .null, []) :: (19, 1, 24, 0, 0, .null, []) :: (20, 1, 1, 0, 2, .null, []) :: (21, 3, 18, 5, 3, .null, []) :: (24, 1, 1, 0, 2, .null, []) :: (25, 3, 18, 5, 0, .null, []) :: (28, 1, 0, 0, 0, .int 0, []) :: (29, 1, 24, 0, 0, .null, []) :: (30, 1, 1, 0, 2, .null, []) :: (31, 3, 18, 5, 4, .null, []) :: (34, 1, 1, 0, 2, .null, []) :: (35, 3, 18, 5, 0, .null, []) :: (38, 2, 0, 0, 0, .int 99, []) :: (40, 1, 24, 0, 0, .null, []) :: (41, 1, 0, 0, 0, .int 0, []) :: (42, 1, 2, 3, 0, .null, []) :: qM_comes_43
def qM_house_38 : List CE := (38, 1, 1, 0, 2, .null, []) :: (39, 1, 1, 1, 0, .null, []) :: (40, 1, 1, 2, 0, .null, []) :: (41, 3, 37, 89, 3, .null, [(0, 5)]) :: (44, 1, 1, 0, 2, .null, []) :: (45, 3, 18, 5, 0, .null, []) :: (48, 1, 0, 0, 0, .int 1, []) :: (49, 1, 5, 0, 1, .null, []) :: (50, 1, 30, 0, 0, .null, []) :: []
def qM_house_26 : List CE := (26, 1, 1, 0, 2, .null, []) :: (27, 3, 18, 5, 0, .null, []) :: (30, 2, 0, 0, 0, .int 8, []) :: (32, 3, 13, 38, 1, .null, []) :: (35, 2, 0, 0, 0, .int (-3), []) :: (37, 1, 30, 0, 0, .null, []) :: []
def qM_house_24 : List CE := (24, 1, 0, 0, 0, .int (-1), []) :: (25, 1, 30, 0, 0, .null, []) :: []
def qM_house_0 : List CE := (0, 1, 1, 1, 0, .null, []) :: (1, 1, 10, 0, 2, .null, []) :: (2, 1, 0, 0, 0, .long 0, []) :: (3, 3, 0, 0, 0, .long 3, []) :: (6, 3, 28, 86, 3, .null, []) :: (9, 3, 12, 24, 0, .null, []) :: (12, 1, 1, 2, 0, .null, []) :: (13, 1, 10, 0, 2, .null, []) :: (14, 1, 0, 0, 0, .long 0, []) :: (15, 3, 0, 0, 0, .long 99, []) :: (18, 3, 28, 86, 3, .null, []) :: (21, 3, 12, 26, 1, .null, []) :: qM_house_24
def qM_puts_0 : List CE := (0, 1, 1, 0, 2, .null, []) :: (1, 3, 18, 5, 5, .null, []) :: (4, 2, 0, 0, 0, .int 8, []) :: (6, 1, 1, 1, 0, .null, []) :: (7, 1, 5, 0, 2, .null, []) :: (8, 1, 1, 2, 0, .null, []) :: (9, 1, 5, 0, 0, .null, []) :: (10, 1, 1, 3, 0, .null, []) :: (11, 1, 24, 0, 0, .null, []) :: (12, 1, 1, 0, 2, .null, []) :: (13, 3, 18, 5, 5, .null, []) :: (16, 2, 0, 0, 0, .int 8, []) :: (18, 1, 1, 2, 0, .null, []) :: (19, 1, 5, 0, 2, .null, []) :: (20, 1, 1, 1, 0, .null, []) :: (21, 1, 5, 0, 0, .null, []) :: (22, 1, 1, 3, 0, .null, []) :: (23, 1, 24, 0, 0, .null, []) :: (24, 1, 32, 0, 0, .null, []) :: []
def qM_share_23 : List CE := (23, 1, 1, 0, 2, .null, []) :: (24, 3, 18, 5, 5, .null, []) :: (27, 2, 0, 0, 0, .int 8, []) :: (29, 1, 1, 1, 0, .null, []) :: (30, 1, 5, 0, 2, .null, []) :: (31, 1, 1, 2, 0, .null, []) :: (32, 1, 5, 0, 0, .null, []) :: (33, 1, 20, 0, 0, .null, []) :: (34, 2, 2, 4, 0, .null, []) :: (36, 1, 1, 0, 2, .null, []) :: (37, 1, 1, 1, 0, .null, []) :: (38, 1, 1, 2, 0, .null, []) :: (39, 1, 1, 3, 0, .null, []) :: (40, 3, 37, 91, 4, .null, [(0, 5)]) :: (43, 2, 1, 4, 0, .null, []) :: (45, 1, 30, 0, 0, .null, []) :: []
def qM_share_21 : List CE := (21, 1, 0, 0, 0, .int (-1), []) :: (22, 1, 30, 0, 0, .null, []) :: []
def qM_share_0 : List CE := (0, 1, 1, 0, 2, .null, []) :: (1, 1, 1, 1, 0, .null, []) :: (2, 1, 1, 2, 0, .null, []) :: (3, 3, 37, 88, 3, .null, [(0, 5)]) :: (6, 3, 12, 21, 0, .null, []) :: (9, 1, 1, 3, 0, .null, []) :: (10, 1, 10, 0, 2, .null, []) :: (11, 1, 0, 0, 0, .long 0, []) :: (12, 3, 0, 0, 0, .long 2, []) :: (15, 3, 28, 86, 3, .null, []) :: (18, 3, 12, 23, 1, .null, []) :: qM_share_21
def qM_ask_35 : List CE := (35, 1, 1, 0, 2, .null, []) :: (36, 3, 18, 5, 2, .null, []) :: (39, 1, 1, 1, 0, .null, []) :: (40, 1, 20, 0, 0, .null, []) :: (41, 1, 2, 3, 0, .null, []) :: (42, 1, 1, 0, 2, .null, []) :: (43, 3, 18, 5, 2, .null, []) :: (46, 1, 1, 1, 0, .null, []) :: (47, 1, 1, 2, 0, .null, []) :: (48, 1, 24, 0, 0, .null, []) :: (49, 1, 1, 3, 0, .null, []) :: (50, 1, 30, 0, 0, .null, []) :: []
def qM_ask_22 : List CE := (22, 1, 1, 0, 2, .null, []) :: (23, 3, 18, 5, 1, .null, []) :: (26, 1, 1, 1, 0, .null, []) :: (27, 1, 20, 0, 0, .null, []) :: (28, 1, 0, 0, 0, .int 3, []) :: (29, 3, 13, 35, 1, .null, []) :: (32, 2, 0, 0, 0, .int (-2), []) :: (34, 1, 30, 0, 0, .null, []) :: []
def qM_ask_20 : List CE := (20, 1, 0, 0, 0, .int (-1), []) :: (21, 1, 30, 0, 0, .null, []) :: []
def qM_ask_0 : List CE := (0, 1, 1, 0, 2, .null, []) :: (1, 1, 1, 1, 0, .null, []) :: (2, 3, 37, 87, 2, .null, [(0, 5)]) :: (5, 3, 12, 20, 0, .null, []) :: (8, 1, 1, 2, 0, .null, []) :: (9, 1, 10, 0, 2, .null, []) :: (10, 1, 0, 0, 0, .long 0, []) :: (11, 3, 0, 0, 0, .long 99, []) :: (14, 3, 28, 86, 3, .null, []) :: (17, 3, 12, 22, 1, .null, []) :: qM_ask_20
def qM_set_84 : List CE := (84, 2, 1, 4, 0, .null, []) :: (86, 1, 30, 0, 0, .null, []) :: []
def qM_set_77 : List CE := (77, 1, 1, 0, 2, .null, []) :: (78, 3, 18, 5, 4, .null, []) :: (81, 1, 1, 1, 0, .null, []) :: (82, 1, 1, 3, 0, .null, []) :: (83, 1, 24, 0, 0, .null, []) :: qM_set_84
def qM_set_61 : List CE := (61, 2, 2, 4, 0, .null, []) :: (63, 1, 1, 2, 0, .null, []) :: (64, 3, 12, 77, 1, .null, []) :: (67, 1, 1, 0, 2, .null, []) :: (68, 3, 18, 5, 3, .null, []) :: (71, 1, 1, 1, 0, .null, []) :: (72, 1, 1, 3, 0, .null, []) :: (73, 1, 24, 0, 0, .null, []) :: (74, 3, 14, 84, 0, .null, []) :: []
def qM_set_55 : List CE := (55, 1, 1, 0, 2, .null, []) :: (56, 3, 18, 5, 4, .null, []) :: (59, 1, 1, 1, 0, .null, []) :: (60, 1, 20, 0, 0, .null, []) :: qM_set_61
def qM_set_42 : List CE := (42, 1, 1, 2, 0, .null, []) :: (43, 3, 12, 55, 1, .null, []) :: (46, 1, 1, 0, 2, .null, []) :: (47, 3, 18, 5, 3, .null, []) :: (50, 1, 1, 1, 0, .null, []) :: (51, 1, 20, 0, 0, .null, []) :: (52, 3, 14, 61, 0, .null, []) :: []
def qM_set_40 : List CE := (40, 1, 0, 0, 0, .int (-1), []) :: (41, 1, 30, 0, 0, .null, []) :: []
def qM_set_34 : List CE := (34, 3, 28, 86, 3, .null, []) :: (37, 3, 12, 42, 1, .null, []) :: qM_set_40
def qM_set_31 : List CE := (31, 3, 0, 0, 0, .long 99, []) :: qM_set_34
def qM_set_0 : List CE := (0, 1, 1, 0, 2, .null, []) :: (1, 1, 1, 1, 0, .null, []) :: (2, 3, 37, 87, 2, .null, [(0, 5)]) :: (5, 3, 12, 40, 0, .null, []) :: (8, 1, 1, 2, 0, .null, []) :: (9, 1, 10, 0, 2, .null, []) :: (10, 1, 0, 0, 0, .long 0, []) :: (11, 1, 0, 0, 0, .long 1, []) :: (12, 3, 28, 86, 3, .null, []) :: (15, 3, 12, 40, 0, .null, []) :: (18, 1, 1, 3, 0, .null, []) :: (19, 1, 10, 0, 2, .null, []) :: (20, 1, 0, 0, 0, .long 0, []) :: (21, 1, 1, 2, 0, .null, []) :: (22, 3, 12, 31, 1, .null, []) :: (25, 3, 0, 0, 0, .long 3, []) :: (28, 3, 14, 34, 0, .null, []) :: []
def qM_purse_14 : List CE := (14, 1, 1, 0, 2, .null, []) :: (15, 3, 18, 5, 6, .null, []) :: (18, 1, 2, 2, 0, .null, []) :: (19, 1, 1, 0, 2, .null, []) :: (20, 1, 1, 1, 0, .null, []) :: (21, 3, 19, 5, 6, .int 0, []) :: (24, 1, 1, 2, 0, .null, []) :: (25, 1, 30, 0, 0, .null, []) :: []
def qM_purse_0 : List CE := (0, 1, 1, 1, 0, .null, []) :: (1, 1, 10, 0, 2, .null, []) :: (2, 1, 0, 0, 0, .long 0, []) :: (3, 3, 0, 0, 0, .long 99, []) :: (6, 3, 28, 86, 3, .null, []) :: (9, 3, 12, 14, 1, .null, []) :: (12, 1, 0, 0, 0, .int (-1), []) :: (13, 1, 30, 0, 0, .null, []) :: []
def qM_weight_32 : List CE := (32, 1, 1, 2, 0, .null, []) :: (33, 1, 30, 0, 0, .null, []) :: []
def qM_weight_4 : List CE := (4, 1, 1, 3, 0, .null, []) :: (5, 1, 1, 0, 2, .null, []) :: (6, 3, 18, 5, 0, .null, []) :: (9, 3, 13, 32, 3, .null, []) :: (12, 1, 1, 2, 0, .null, []) :: (13, 1, 1, 0, 2, .null, []) :: (14, 3, 18, 5, 5, .null, []) :: (17, 2, 0, 0, 0, .int 8, []) :: (19, 1, 1, 1, 0, .null, []) :: (20, 1, 5, 0, 2, .null, []) :: (21, 1, 1, 3, 0, .null, []) :: (22, 1, 5, 0, 0, .null, []) :: (23, 1, 20, 0, 0, .null, []) :: (24, 1, 5, 0, 0, .null, []) :: (25, 1, 2, 2, 0, .null, []) :: (26, 3, 4, 3, 0, .int 1, []) :: (29, 3, 14, 4, 0, .null, []) :: []
def qM_weight_0 : List CE := (0, 1, 0, 0, 0, .int 0, []) :: (1, 1, 2, 2, 0, .null, []) :: (2, 1, 0, 0, 0, .int 0, []) :: (3, 1, 2, 3, 0, .null, []) :: qM_weight_4
def qM_isFixed_37 : List CE := (37, 1, 30, 0, 1, .null, []) :: []
def qM_isFixed_36 : List CE := (36, 1, 0, 0, 0, .int 0, []) :: qM_isFixed_37
def qM_isFixed_32 : List CE := (32, 1, 0, 0, 0, .int 1, []) :: (33, 3, 14, 37, 0, .null, []) :: []
def qM_isFixed_0 : List CE := (0, 1, 1, 0, 2, .null, []) :: (1, 3, 18, 5, 1, .null, []) :: (4, 1, 1, 1, 0, .null, []) :: (5, 1, 20, 0, 0, .null, []) :: (6, 1, 0, 0, 0, .int 1, []) :: (7, 3, 13, 32, 0, .null, []) :: (10, 1, 1, 0, 2, .null, []) :: (11, 3, 18, 5, 1, .null, []) :: (14, 1, 1, 1, 0, .null, []) :: (15, 1, 20, 0, 0, .null, []) :: (16, 1, 0, 0, 0, .int 3, []) :: (17, 3, 13, 32, 0, .null, []) :: (20, 1, 1, 0, 2, .null, []) :: (21, 3, 18, 5, 8, .null, []) :: (24, 1, 1, 1, 0, .null, []) :: (25, 1, 5, 0, 7, .null, []) :: (26, 1, 0, 0, 0, .int 1, []) :: (27, 1, 5, 0, 3, .null, []) :: (28, 1, 0, 0, 0, .int 1, []) :: (29, 3, 13, 36, 1, .null, []) :: qM_isFixed_32
def qM_reached_133 : List CE := (133, 1, 1, 1, 0, .null, []) :: (134, 1, 30, 0, 0, .null, []) :: []
def qM_reached_127 : List CE := (127, 3, 4, 2, 0, .int 1, []) :: (130, 3, 14, 38, 0, .null, []) :: []
def qM_reached_121 : List CE := (121, 3, 4, 3, 0, .int 1, []) :: (124, 3, 14, 48, 0, .null, []) :: []
def qM_reached_113 : List CE := (113, 1, 5, 0, 4, .null, []) :: (114, 1, 2, 1, 0, .null, []) :: (115, 3, 4, 4, 0, .int 1, []) :: (118, 3, 14, 59, 0, .null, []) :: []
def qM_reached_112 : List CE := (112, 1, 0, 0, 0, .int 0, []) :: qM_reached_113
def qM_reached_98 : List CE := (98, 2, 2, 5, 0, .null, []) :: (100, 1, 1, 1, 0, .null, []) :: (101, 2, 1, 5, 0, .null, []) :: (103, 3, 12, 112, 0, .null, []) :: (106, 1, 0, 0, 0, .int 1, []) :: (107, 1, 1, 3, 0, .null, []) :: (108, 1, 5, 0, 6, .null, []) :: (109, 3, 14, 113, 0, .null, []) :: []
def qM_reached_97 : List CE := (97, 1, 0, 0, 0, .int 0, []) :: qM_reached_98
def qM_reached_59 : List CE := (59, 2, 1, 4, 0, .null, []) :: (61, 1, 1, 0, 2, .null, []) :: (62, 3, 18, 5, 0, .null, []) :: (65, 3, 13, 121, 3, .null, []) :: (68, 1, 1, 1, 0, .null, []) :: (69, 2, 1, 4, 0, .null, []) :: (71, 1, 5, 0, 7, .null, []) :: (72, 1, 0, 0, 0, .int 1, []) :: (73, 1, 5, 0, 3, .null, []) :: (74, 1, 0, 0, 0, .int 1, []) :: (75, 3, 13, 97, 1, .null, []) :: (78, 1, 1, 0, 2, .null, []) :: (79, 3, 18, 5, 5, .null, []) :: (82, 2, 0, 0, 0, .int 8, []) :: (84, 1, 1, 3, 0, .null, []) :: (85, 1, 5, 0, 2, .null, []) :: (86, 2, 1, 4, 0, .null, []) :: (88, 1, 5, 0, 0, .null, []) :: (89, 1, 20, 0, 0, .null, []) :: (90, 3, 12, 97, 5, .null, []) :: (93, 1, 0, 0, 0, .int 1, []) :: (94, 3, 14, 98, 0, .null, []) :: []
def qM_reached_48 : List CE := (48, 1, 1, 3, 0, .null, []) :: (49, 1, 1, 0, 2, .null, []) :: (50, 3, 18, 5, 0, .null, []) :: (53, 3, 13, 127, 3, .null, []) :: (56, 1, 0, 0, 0, .int 0, []) :: (57, 2, 2, 4, 0, .null, []) :: qM_reached_59
def qM_reached_38 : List CE := (38, 1, 1, 2, 0, .null, []) :: (39, 1, 1, 0, 2, .null, []) :: (40, 3, 18, 5, 0, .null, []) :: (43, 3, 13, 133, 3, .null, []) :: (46, 1, 0, 0, 0, .int 0, []) :: (47, 1, 2, 3, 0, .null, []) :: qM_reached_48
def qM_reached_36 : List CE := (36, 1, 0, 0, 0, .int 0, []) :: (37, 1, 2, 2, 0, .null, []) :: qM_reached_38
def qM_reached_28 : List CE := (28, 1, 5, 0, 4, .null, []) :: (29, 1, 2, 1, 0, .null, []) :: (30, 3, 4, 2, 0, .int 1, []) :: (33, 3, 14, 4, 0, .null, []) :: []
def qM_reached_27 : List CE := (27, 1, 0, 0, 0, .int 0, []) :: qM_reached_28
def qM_reached_4 : List CE := (4, 1, 1, 2, 0, .null, []) :: (5, 1, 1, 0, 2, .null, []) :: (6, 3, 18, 5, 0, .null, []) :: (9, 3, 13, 36, 3, .null, []) :: (12, 1, 1, 1, 0, .null, []) :: (13, 1, 1, 0, 2, .null, []) :: (14, 1, 1, 2, 0, .null, []) :: (15, 3, 37, 97, 2, .null, [(0, 5)]) :: (18, 3, 12, 27, 0, .null, []) :: (21, 1, 0, 0, 0, .int 1, []) :: (22, 1, 1, 2, 0, .null, []) :: (23, 1, 5, 0, 6, .null, []) :: (24, 3, 14, 28, 0, .null, []) :: []
def qM_reached_0 : List CE := (0, 1, 0, 0, 0, .int 0, []) :: (1, 1, 2, 1, 0, .null, []) :: (2, 1, 0, 0, 0, .int 0, []) :: (3, 1, 2, 2, 0, .null, []) :: qM_reached_4
def qM_told_90 : List CE := (90, 1, 1, 0, 2, .null, []) :: (91, 3, 37, 98, 1, .null, [(0, 5)]) :: (94, 1, 1, 1, 0, .null, []) :: (95, 1, 5, 0, 7, .null, []) :: (96, 1, 0, 0, 0, .int 1, []) :: (97, 1, 5, 0, 3, .null, []) :: (98, 1, 30, 0, 0, .null, []) :: []
def qM_told_84 : List CE := (84, 1, 1, 0, 2, .null, []) :: (85, 1, 1, 1, 0, .null, []) :: (86, 3, 37, 96, 2, .null, [(0, 5)]) :: (89, 1, 30, 0, 0, .null, []) :: []
def qM_told_77 : List CE := (77, 1, 1, 0, 2, .null, []) :: (78, 3, 18, 5, 4, .null, []) :: (81, 1, 1, 1, 0, .null, []) :: (82, 1, 20, 0, 0, .null, []) :: (83, 1, 30, 0, 0, .null, []) :: []
def qM_told_70 : List CE := (70, 1, 1, 0, 2, .null, []) :: (71, 3, 18, 5, 3, .null, []) :: (74, 1, 1, 1, 0, .null, []) :: (75, 1, 20, 0, 0, .null, []) :: (76, 1, 30, 0, 0, .null, []) :: []
def qM_told_63 : List CE := (63, 1, 1, 0, 2, .null, []) :: (64, 3, 18, 5, 2, .null, []) :: (67, 1, 1, 1, 0, .null, []) :: (68, 1, 20, 0, 0, .null, []) :: (69, 1, 30, 0, 0, .null, []) :: []
def qM_told_56 : List CE := (56, 1, 1, 0, 2, .null, []) :: (57, 3, 18, 5, 1, .null, []) :: (60, 1, 1, 1, 0, .null, []) :: (61, 1, 20, 0, 0, .null, []) :: (62, 1, 30, 0, 0, .null, []) :: []
def qM_told_22 : List CE := (22, 1, 1, 2, 0, .null, []) :: (23, 33, 33, 90, 0, .null, [(0, 56), (1, 63), (2, 70), (3, 77), (4, 84)]) :: []
def qM_told_20 : List CE := (20, 1, 0, 0, 0, .int (-1), []) :: (21, 1, 30, 0, 0, .null, []) :: []
def qM_told_0 : List CE := (0, 1, 1, 0, 2, .null, []) :: (1, 1, 1, 1, 0, .null, []) :: (2, 3, 37, 87, 2, .null, [(0, 5)]) :: (5, 3, 12, 20, 0, .null, []) :: (8, 1, 1, 2, 0, .null, []) :: (9, 1, 10, 0, 2, .null, []) :: (10, 1, 0, 0, 0, .long 0, []) :: (11, 3, 0, 0, 0, .long 5, []) :: (14, 3, 28, 86, 3, .null, []) :: (17, 3, 12, 22, 1, .null, []) :: qM_told_20
def qM_count_138 : List CE := (138, 1, 0, 0, 0, .int (-1), []) :: (139, 1, 30, 0, 0, .null, []) :: []
def qM_count_133 : List CE := (133, 1, 1, 0, 2, .null, []) :: (134, 3, 18, 5, 7, .null, []) :: (137, 1, 30, 0, 0, .null, []) :: []
def qM_count_131 : List CE := (131, 1, 1, 3, 0, .null, []) :: (132, 1, 30, 0, 0, .null, []) :: []
def qM_count_123 : List CE := (123, 1, 1, 0, 2, .null, []) :: (124, 3, 37, 98, 1, .null, [(0, 5)]) :: (127, 3, 28, 101, 1, .null, []) :: (130, 1, 30, 0, 0, .null, []) :: []
def qM_count_121 : List CE := (121, 1, 1, 2, 0, .null, []) :: (122, 1, 30, 0, 0, .null, []) :: []
def qM_count_116 : List CE := (116, 1, 1, 0, 2, .null, []) :: (117, 3, 18, 5, 0, .null, []) :: (120, 1, 30, 0, 0, .null, []) :: []
def qM_count_79 : List CE := (79, 1, 1, 1, 0, .null, []) :: (80, 36, 33, 138, 0, .null, [(0, 116), (1, 121), (2, 123), (3, 131), (4, 133)]) :: []
def qM_count_73 : List CE := (73, 3, 4, 4, 0, .int 1, []) :: (76, 3, 14, 7, 0, .null, []) :: []
def qM_count_65 : List CE := (65, 1, 5, 0, 0, .null, []) :: (66, 1, 2, 3, 0, .null, []) :: (67, 3, 4, 5, 0, .int 1, []) :: (70, 3, 14, 36, 0, .null, []) :: []
def qM_count_64 : List CE := (64, 1, 0, 0, 0, .int 0, []) :: qM_count_65
def qM_count_36 : List CE := (36, 2, 1, 5, 0, .null, []) :: (38, 2, 1, 4, 0, .null, []) :: (40, 3, 13, 73, 3, .null, []) :: (43, 1, 1, 3, 0, .null, []) :: (44, 1, 1, 0, 2, .null, []) :: (45, 3, 18, 5, 5, .null, []) :: (48, 2, 0, 0, 0, .int 8, []) :: (50, 2, 1, 4, 0, .null, []) :: (52, 1, 5, 0, 2, .null, []) :: (53, 2, 1, 5, 0, .null, []) :: (55, 1, 5, 0, 0, .null, []) :: (56, 1, 20, 0, 0, .null, []) :: (57, 3, 12, 64, 5, .null, []) :: (60, 1, 0, 0, 0, .int 1, []) :: (61, 3, 14, 65, 0, .null, []) :: []
def qM_count_31 : List CE := (31, 1, 5, 0, 0, .null, []) :: (32, 1, 2, 2, 0, .null, []) :: (33, 1, 0, 0, 0, .int 0, []) :: (34, 2, 2, 5, 0, .null, []) :: qM_count_36
def qM_count_30 : List CE := (30, 1, 0, 0, 0, .int 0, []) :: qM_count_31
def qM_count_7 : List CE := (7, 2, 1, 4, 0, .null, []) :: (9, 1, 1, 0, 2, .null, []) :: (10, 3, 18, 5, 0, .null, []) :: (13, 3, 13, 79, 3, .null, []) :: (16, 1, 1, 2, 0, .null, []) :: (17, 1, 1, 0, 2, .null, []) :: (18, 2, 1, 4, 0, .null, []) :: (20, 3, 37, 97, 2, .null, [(0, 5)]) :: (23, 3, 12, 30, 0, .null, []) :: (26, 1, 0, 0, 0, .int 1, []) :: (27, 3, 14, 31, 0, .null, []) :: []
def qM_count_0 : List CE := (0, 1, 0, 0, 0, .int 0, []) :: (1, 1, 2, 2, 0, .null, []) :: (2, 1, 0, 0, 0, .int 0, []) :: (3, 1, 2, 3, 0, .null, []) :: (4, 1, 0, 0, 0, .int 0, []) :: (5, 2, 2, 4, 0, .null, []) :: qM_count_7
def qM_size_20 : List CE := (20, 1, 1, 1, 0, .null, []) :: (21, 1, 30, 0, 0, .null, []) :: []
def qM_size_4 : List CE := (4, 1, 1, 2, 0, .null, []) :: (5, 3, 12, 20, 0, .null, []) :: (8, 3, 4, 1, 0, .int 1, []) :: (11, 1, 1, 2, 0, .null, []) :: (12, 1, 1, 2, 0, .null, []) :: (13, 1, 0, 0, 0, .int 1, []) :: (14, 1, 5, 0, 1, .null, []) :: (15, 1, 5, 0, 3, .null, []) :: (16, 1, 2, 2, 0, .null, []) :: (17, 3, 14, 4, 0, .null, []) :: []
def qM_size_0 : List CE := (0, 1, 0, 0, 0, .int 0, []) :: (1, 1, 2, 1, 0, .null, []) :: (2, 1, 1, 0, 0, .null, []) :: (3, 1, 2, 2, 0, .null, []) :: qM_size_4
def qM_type_115 : List CE := (115, 1, 1, 0, 2, .null, []) :: (116, 3, 18, 5, 10, .null, []) :: (119, 1, 30, 0, 0, .null, []) :: []
def qM_type_73 : List CE := (73, 2, 1, 4, 0, .null, []) :: (75, 3, 12, 115, 2, .null, []) :: (78, 1, 1, 0, 2, .null, []) :: (79, 3, 18, 5, 9, .null, []) :: (82, 1, 1, 0, 2, .null, []) :: (83, 3, 18, 5, 10, .null, []) :: (86, 1, 1, 1, 1, .null, []) :: (87, 2, 0, 0, 0, .int 8, []) :: (89, 2, 1, 4, 0, .null, []) :: (91, 1, 5, 0, 2, .null, []) :: (92, 1, 9, 0, 1, .null, []) :: (93, 3, 0, 0, 0, .long 255, []) :: (96, 1, 7, 0, 3, .null, []) :: (97, 1, 10, 0, 3, .null, []) :: (98, 1, 24, 0, 0, .null, []) :: (99, 1, 1, 0, 2, .null, []) :: (100, 1, 15, 0, 0, .null, []) :: (101, 3, 18, 5, 10, .null, []) :: (104, 1, 0, 0, 0, .int 1, []) :: (105, 1, 5, 0, 0, .null, []) :: (106, 3, 19, 5, 10, .int 0, []) :: (109, 3, 4, 4, 0, .int (-1), []) :: (112, 3, 14, 73, 0, .null, []) :: []
def qM_type_68 : List CE := (68, 1, 1, 3, 0, .null, []) :: (69, 1, 0, 0, 0, .int 1, []) :: (70, 1, 5, 0, 1, .null, []) :: (71, 2, 2, 4, 0, .null, []) :: qM_type_73
def qM_type_54 : List CE := (54, 1, 1, 0, 2, .null, []) :: (55, 3, 18, 5, 10, .null, []) :: (58, 1, 1, 3, 0, .null, []) :: (59, 1, 5, 0, 0, .null, []) :: (60, 2, 0, 0, 0, .int 100, []) :: (62, 3, 13, 68, 5, .null, []) :: (65, 2, 0, 0, 0, .int (-3), []) :: (67, 1, 30, 0, 0, .null, []) :: []
def qM_type_48 : List CE := (48, 3, 4, 4, 0, .int 1, []) :: (51, 3, 14, 17, 0, .null, []) :: []
def qM_type_17 : List CE := (17, 2, 1, 4, 0, .null, []) :: (19, 1, 1, 3, 0, .null, []) :: (20, 3, 13, 54, 3, .null, []) :: (23, 1, 1, 1, 1, .null, []) :: (24, 2, 0, 0, 0, .int 8, []) :: (26, 2, 1, 4, 0, .null, []) :: (28, 1, 5, 0, 2, .null, []) :: (29, 1, 9, 0, 1, .null, []) :: (30, 3, 0, 0, 0, .long 255, []) :: (33, 1, 7, 0, 3, .null, []) :: (34, 3, 0, 0, 0, .long 32, []) :: (37, 3, 0, 0, 0, .long 126, []) :: (40, 3, 28, 86, 3, .null, []) :: (43, 3, 12, 48, 1, .null, []) :: (46, 1, 0, 0, 0, .int (-1), []) :: (47, 1, 30, 0, 0, .null, []) :: []
def qM_type_14 : List CE := (14, 1, 0, 0, 0, .int 0, []) :: (15, 2, 2, 4, 0, .null, []) :: qM_type_17
def qM_type_0 : List CE := (0, 1, 1, 3, 0, .null, []) :: (1, 1, 10, 0, 2, .null, []) :: (2, 1, 0, 0, 0, .long 1, []) :: (3, 3, 0, 0, 0, .long 8, []) :: (6, 3, 28, 86, 3, .null, []) :: (9, 3, 12, 14, 1, .null, []) :: (12, 1, 0, 0, 0, .int (-1), []) :: (13, 1, 30, 0, 0, .null, []) :: []
def qM_here_62 : List CE := (62, 1, 30, 0, 0, .null, []) :: []
def qM_here_61 : List CE := (61, 1, 0, 0, 0, .int 0, []) :: qM_here_62
def qM_here_38 : List CE := (38, 1, 1, 0, 2, .null, []) :: (39, 3, 18, 5, 11, .null, []) :: (42, 1, 1, 0, 2, .null, []) :: (43, 3, 18, 5, 10, .null, []) :: (46, 3, 13, 61, 3, .null, []) :: (49, 1, 1, 0, 2, .null, []) :: (50, 3, 18, 5, 9, .null, []) :: (53, 1, 1, 0, 2, .null, []) :: (54, 3, 18, 5, 11, .null, []) :: (57, 1, 20, 0, 0, .null, []) :: (58, 3, 14, 62, 0, .null, []) :: []
def qM_here_0 : List CE := (0, 1, 1, 0, 2, .null, []) :: (1, 3, 18, 5, 11, .null, []) :: (4, 1, 1, 0, 2, .null, []) :: (5, 3, 18, 5, 10, .null, []) :: (8, 3, 13, 38, 3, .null, []) :: (11, 1, 1, 0, 2, .null, []) :: (12, 3, 18, 5, 9, .null, []) :: (15, 1, 1, 0, 2, .null, []) :: (16, 3, 18, 5, 11, .null, []) :: (19, 1, 20, 0, 0, .null, []) :: (20, 2, 0, 0, 0, .int 32, []) :: (22, 3, 13, 38, 1, .null, []) :: (25, 1, 1, 0, 2, .null, []) :: (26, 1, 15, 0, 0, .null, []) :: (27, 3, 18, 5, 11, .null, []) :: (30, 1, 0, 0, 0, .int 1, []) :: (31, 1, 5, 0, 0, .null, []) :: (32, 3, 19, 5, 11, .int 0, []) :: (35, 3, 14, 0, 0, .null, []) :: []
def qM_has_35 : List CE := (35, 1, 5, 0, 0, .null, []) :: (36, 3, 19, 5, 11, .int 0, []) :: (39, 1, 1, 2, 0, .null, []) :: (40, 1, 30, 0, 1, .null, []) :: []
def qM_has_34 : List CE := (34, 1, 0, 0, 0, .int 0, []) :: qM_has_35
def qM_has_20 : List CE := (20, 1, 2, 2, 0, .null, []) :: (21, 1, 1, 0, 2, .null, []) :: (22, 1, 15, 0, 0, .null, []) :: (23, 3, 18, 5, 11, .null, []) :: (26, 1, 1, 2, 0, .null, []) :: (27, 3, 12, 34, 0, .null, []) :: (30, 1, 0, 0, 0, .int 1, []) :: (31, 3, 14, 35, 0, .null, []) :: []
def qM_has_19 : List CE := (19, 1, 0, 0, 0, .int 0, []) :: qM_has_20
def qM_has_0 : List CE := (0, 1, 1, 0, 2, .null, []) :: (1, 3, 18, 5, 12, .null, []) :: (4, 3, 12, 19, 1, .null, []) :: (7, 1, 1, 0, 2, .null, []) :: (8, 3, 37, 103, 1, .null, [(0, 5)]) :: (11, 1, 1, 1, 0, .null, []) :: (12, 3, 13, 19, 1, .null, []) :: (15, 1, 0, 0, 0, .int 1, []) :: (16, 3, 14, 20, 0, .null, []) :: []
def qM_must_61 : List CE := (61, 1, 5, 0, 0, .null, []) :: (62, 3, 19, 5, 11, .int 0, []) :: (65, 1, 1, 3, 0, .null, []) :: (66, 1, 1, 1, 0, .null, []) :: (67, 1, 5, 0, 1, .null, []) :: (68, 1, 30, 0, 0, .null, []) :: []
def qM_must_60 : List CE := (60, 1, 0, 0, 0, .int 1, []) :: qM_must_61
def qM_must_41 : List CE := (41, 3, 19, 5, 12, .int 1, []) :: (44, 1, 1, 0, 2, .null, []) :: (45, 1, 15, 0, 0, .null, []) :: (46, 3, 18, 5, 11, .null, []) :: (49, 1, 1, 0, 2, .null, []) :: (50, 3, 18, 5, 12, .null, []) :: (53, 3, 12, 60, 0, .null, []) :: (56, 1, 0, 0, 0, .int 0, []) :: (57, 3, 14, 61, 0, .null, []) :: []
def qM_must_40 : List CE := (40, 1, 0, 0, 0, .int 0, []) :: qM_must_41
def qM_must_36 : List CE := (36, 1, 0, 0, 0, .int 1, []) :: (37, 3, 14, 41, 0, .null, []) :: []
def qM_must_15 : List CE := (15, 1, 2, 3, 0, .null, []) :: (16, 1, 1, 0, 2, .null, []) :: (17, 1, 1, 0, 2, .null, []) :: (18, 3, 18, 5, 12, .null, []) :: (21, 3, 12, 36, 1, .null, []) :: (24, 1, 1, 3, 0, .null, []) :: (25, 1, 10, 0, 2, .null, []) :: (26, 1, 1, 1, 0, .null, []) :: (27, 1, 10, 0, 2, .null, []) :: (28, 1, 1, 2, 0, .null, []) :: (29, 1, 10, 0, 2, .null, []) :: (30, 3, 28, 86, 3, .null, []) :: (33, 3, 12, 40, 1, .null, []) :: qM_must_36
def qM_must_11 : List CE := (11, 1, 1, 0, 2, .null, []) :: (12, 3, 37, 103, 1, .null, [(0, 5)]) :: qM_must_15
def qM_must_0 : List CE := (0, 1, 1, 0, 2, .null, []) :: (1, 3, 18, 5, 12, .null, []) :: (4, 3, 12, 11, 0, .null, []) :: (7, 1, 0, 0, 0, .int 0, []) :: (8, 3, 14, 15, 0, .null, []) :: []
def qM_number_143 : List CE := (143, 3, 19, 5, 11, .int 0, []) :: (146, 1, 1, 3, 0, .null, []) :: (147, 1, 30, 0, 0, .null, []) :: []
def qM_number_139 : List CE := (139, 1, 1, 0, 2, .null, []) :: (140, 3, 18, 5, 11, .null, []) :: qM_number_143
def qM_number_124 : List CE := (124, 3, 19, 5, 12, .int 1, []) :: (127, 1, 1, 0, 2, .null, []) :: (128, 1, 1, 0, 2, .null, []) :: (129, 3, 18, 5, 12, .null, []) :: (132, 3, 12, 139, 0, .null, []) :: (135, 1, 1, 2, 0, .null, []) :: (136, 3, 14, 143, 0, .null, []) :: []
def qM_number_123 : List CE := (123, 1, 0, 0, 0, .int 0, []) :: qM_number_124
def qM_number_113 : List CE := (113, 1, 1, 0, 2, .null, []) :: (114, 1, 1, 3, 0, .null, []) :: (115, 1, 1, 1, 0, .null, []) :: (116, 3, 13, 123, 5, .null, []) :: (119, 1, 0, 0, 0, .int 1, []) :: (120, 3, 14, 124, 0, .null, []) :: []
def qM_number_99 : List CE := (99, 1, 2, 3, 0, .null, []) :: (100, 1, 1, 0, 2, .null, []) :: (101, 1, 15, 0, 0, .null, []) :: (102, 3, 18, 5, 11, .null, []) :: (105, 1, 0, 0, 0, .int 1, []) :: (106, 1, 5, 0, 0, .null, []) :: (107, 3, 19, 5, 11, .int 0, []) :: (110, 3, 14, 38, 0, .null, []) :: []
def qM_number_82 : List CE := (82, 2, 0, 0, 0, .int 10, []) :: (84, 1, 1, 3, 0, .null, []) :: (85, 1, 5, 0, 2, .null, []) :: (86, 1, 1, 0, 2, .null, []) :: (87, 3, 18, 5, 9, .null, []) :: (90, 1, 1, 0, 2, .null, []) :: (91, 3, 18, 5, 11, .null, []) :: (94, 1, 20, 0, 0, .null, []) :: (95, 1, 5, 0, 0, .null, []) :: (96, 2, 0, 0, 0, .int 48, []) :: (98, 1, 5, 0, 1, .null, []) :: qM_number_99
def qM_number_38 : List CE := (38, 1, 1, 0, 2, .null, []) :: (39, 3, 18, 5, 11, .null, []) :: (42, 1, 1, 0, 2, .null, []) :: (43, 3, 18, 5, 10, .null, []) :: (46, 3, 13, 113, 3, .null, []) :: (49, 1, 1, 0, 2, .null, []) :: (50, 3, 18, 5, 9, .null, []) :: (53, 1, 1, 0, 2, .null, []) :: (54, 3, 18, 5, 11, .null, []) :: (57, 1, 20, 0, 0, .null, []) :: (58, 1, 10, 0, 2, .null, []) :: (59, 3, 0, 0, 0, .long 48, []) :: (62, 3, 0, 0, 0, .long 57, []) :: (65, 3, 28, 86, 3, .null, []) :: (68, 3, 12, 113, 0, .null, []) :: (71, 1, 1, 3, 0, .null, []) :: (72, 3, 0, 0, 0, .int 999, []) :: (75, 3, 13, 82, 5, .null, []) :: (78, 1, 1, 3, 0, .null, []) :: (79, 3, 14, 99, 0, .null, []) :: []
def qM_number_31 : List CE := (31, 1, 1, 0, 2, .null, []) :: (32, 3, 18, 5, 11, .null, []) :: (35, 1, 2, 2, 0, .null, []) :: (36, 1, 0, 0, 0, .int 0, []) :: (37, 1, 2, 3, 0, .null, []) :: qM_number_38
def qM_number_24 : List CE := (24, 1, 1, 0, 2, .null, []) :: (25, 1, 0, 0, 0, .int 1, []) :: (26, 3, 19, 5, 12, .int 1, []) :: (29, 1, 0, 0, 0, .int 0, []) :: (30, 1, 30, 0, 0, .null, []) :: []
def qM_number_0 : List CE := (0, 1, 1, 0, 2, .null, []) :: (1, 3, 18, 5, 12, .null, []) :: (4, 3, 12, 24, 1, .null, []) :: (7, 1, 1, 0, 2, .null, []) :: (8, 3, 37, 103, 1, .null, [(0, 5)]) :: (11, 1, 10, 0, 2, .null, []) :: (12, 3, 0, 0, 0, .long 48, []) :: (15, 3, 0, 0, 0, .long 57, []) :: (18, 3, 28, 86, 3, .null, []) :: (21, 3, 12, 31, 1, .null, []) :: qM_number_24
def qM_kindOf_42 : List CE := (42, 1, 30, 0, 0, .null, []) :: []
def qM_kindOf_40 : List CE := (40, 2, 0, 0, 0, .int (-4), []) :: qM_kindOf_42
def qM_kindOf_30 : List CE := (30, 1, 1, 0, 0, .null, []) :: (31, 2, 0, 0, 0, .int 102, []) :: (33, 3, 13, 40, 1, .null, []) :: (36, 1, 0, 0, 0, .int 3, []) :: (37, 3, 14, 42, 0, .null, []) :: []
def qM_kindOf_20 : List CE := (20, 1, 1, 0, 0, .null, []) :: (21, 2, 0, 0, 0, .int 99, []) :: (23, 3, 13, 30, 1, .null, []) :: (26, 1, 0, 0, 0, .int 2, []) :: (27, 3, 14, 42, 0, .null, []) :: []
def qM_kindOf_10 : List CE := (10, 1, 1, 0, 0, .null, []) :: (11, 2, 0, 0, 0, .int 103, []) :: (13, 3, 13, 20, 1, .null, []) :: (16, 1, 0, 0, 0, .int 1, []) :: (17, 3, 14, 42, 0, .null, []) :: []
def qM_kindOf_0 : List CE := (0, 1, 1, 0, 0, .null, []) :: (1, 2, 0, 0, 0, .int 112, []) :: (3, 3, 13, 10, 1, .null, []) :: (6, 1, 0, 0, 0, .int 0, []) :: (7, 3, 14, 42, 0, .null, []) :: []
def qM_readHouses_121 : List CE := (121, 1, 1, 1, 0, .null, []) :: (122, 1, 30, 0, 0, .null, []) :: []
def qM_readHouses_117 : List CE := (117, 1, 2, 2, 0, .null, []) :: (118, 3, 14, 4, 0, .null, []) :: []
def qM_readHouses_116 : List CE := (116, 1, 0, 0, 0, .int 0, []) :: qM_readHouses_117
def qM_readHouses_65 : List CE := (65, 1, 5, 0, 0, .null, []) :: (66, 3, 19, 5, 11, .int 0, []) :: (69, 1, 1, 0, 2, .null, []) :: (70, 3, 18, 5, 13, .null, []) :: (73, 1, 0, 0, 0, .int 2, []) :: (74, 1, 1, 1, 0, .null, []) :: (75, 1, 5, 0, 2, .null, []) :: (76, 1, 1, 3, 0, .null, []) :: (77, 1, 24, 0, 0, .null, []) :: (78, 1, 1, 0, 2, .null, []) :: (79, 3, 18, 5, 13, .null, []) :: (82, 1, 0, 0, 0, .int 2, []) :: (83, 1, 1, 1, 0, .null, []) :: (84, 1, 5, 0, 2, .null, []) :: (85, 1, 0, 0, 0, .int 1, []) :: (86, 1, 5, 0, 0, .null, []) :: (87, 1, 1, 0, 2, .null, []) :: (88, 2, 0, 0, 0, .int 99, []) :: (90, 3, 37, 106, 2, .null, [(0, 5)]) :: (93, 1, 24, 0, 0, .null, []) :: (94, 3, 4, 1, 0, .int 1, []) :: (97, 1, 1, 1, 0, .null, []) :: (98, 2, 0, 0, 0, .int 8, []) :: (100, 3, 13, 116, 3, .null, []) :: (103, 1, 1, 0, 2, .null, []) :: (104, 2, 0, 0, 0, .int 44, []) :: (106, 3, 37, 104, 2, .null, [(0, 5)]) :: (109, 3, 12, 116, 0, .null, []) :: (112, 1, 0, 0, 0, .int 1, []) :: (113, 3, 14, 117, 0, .null, []) :: []
def qM_readHouses_64 : List CE := (64, 1, 0, 0, 0, .int 1, []) :: qM_readHouses_65
def qM_readHouses_45 : List CE := (45, 3, 19, 5, 12, .int 1, []) :: (48, 1, 1, 0, 2, .null, []) :: (49, 1, 15, 0, 0, .null, []) :: (50, 3, 18, 5, 11, .null, []) :: (53, 1, 1, 0, 2, .null, []) :: (54, 3, 18, 5, 12, .null, []) :: (57, 3, 12, 64, 0, .null, []) :: (60, 1, 0, 0, 0, .int 0, []) :: (61, 3, 14, 65, 0, .null, []) :: []
def qM_readHouses_44 : List CE := (44, 1, 0, 0, 0, .int 0, []) :: qM_readHouses_45
def qM_readHouses_40 : List CE := (40, 1, 0, 0, 0, .int 1, []) :: (41, 3, 14, 45, 0, .null, []) :: []
def qM_readHouses_27 : List CE := (27, 1, 2, 3, 0, .null, []) :: (28, 1, 1, 0, 2, .null, []) :: (29, 1, 1, 0, 2, .null, []) :: (30, 3, 18, 5, 12, .null, []) :: (33, 3, 12, 40, 1, .null, []) :: (36, 1, 1, 3, 0, .null, []) :: (37, 3, 12, 44, 3, .null, []) :: qM_readHouses_40
def qM_readHouses_20 : List CE := (20, 1, 1, 0, 2, .null, []) :: (21, 3, 37, 103, 1, .null, [(0, 5)]) :: (24, 3, 28, 107, 1, .null, []) :: qM_readHouses_27
def qM_readHouses_4 : List CE := (4, 1, 1, 2, 0, .null, []) :: (5, 3, 12, 121, 0, .null, []) :: (8, 1, 1, 0, 2, .null, []) :: (9, 3, 18, 5, 12, .null, []) :: (12, 3, 12, 20, 0, .null, []) :: (15, 2, 0, 0, 0, .int (-4), []) :: (17, 3, 14, 27, 0, .null, []) :: []
def qM_readHouses_0 : List CE := (0, 1, 0, 0, 0, .int 0, []) :: (1, 1, 2, 1, 0, .null, []) :: (2, 1, 0, 0, 0, .int 1, []) :: (3, 1, 2, 2, 0, .null, []) :: qM_readHouses_4
def qM_readPairs_195 : List CE := (195, 1, 32, 0, 0, .null, []) :: []
def qM_readPairs_191 : List CE := (191, 1, 2, 3, 0, .null, []) :: (192, 3, 14, 4, 0, .null, []) :: []
def qM_readPairs_190 : List CE := (190, 1, 0, 0, 0, .int 0, []) :: qM_readPairs_191
def qM_readPairs_168 : List CE := (168, 3, 4, 2, 0, .int 1, []) :: (171, 1, 1, 2, 0, .null, []) :: (172, 2, 0, 0, 0, .int 12, []) :: (174, 3, 13, 190, 3, .null, []) :: (177, 1, 1, 0, 2, .null, []) :: (178, 2, 0, 0, 0, .int 44, []) :: (180, 3, 37, 104, 2, .null, [(0, 5)]) :: (183, 3, 12, 190, 0, .null, []) :: (186, 1, 0, 0, 0, .int 1, []) :: (187, 3, 14, 191, 0, .null, []) :: []
def qM_readPairs_109 : List CE := (109, 3, 19, 5, 12, .int 1, []) :: (112, 1, 1, 0, 2, .null, []) :: (113, 2, 0, 0, 0, .int 61, []) :: (115, 2, 0, 0, 0, .int 61, []) :: (117, 3, 37, 105, 3, .null, [(0, 5)]) :: (120, 1, 16, 0, 0, .null, []) :: (121, 1, 1, 0, 2, .null, []) :: (122, 2, 0, 0, 0, .int 48, []) :: (124, 2, 0, 0, 0, .int 50, []) :: (126, 3, 37, 105, 3, .null, [(0, 5)]) :: (129, 2, 2, 7, 0, .null, []) :: (131, 1, 1, 0, 2, .null, []) :: (132, 3, 18, 5, 12, .null, []) :: (135, 3, 12, 168, 1, .null, []) :: (138, 1, 1, 0, 2, .null, []) :: (139, 3, 18, 5, 14, .null, []) :: (142, 2, 0, 0, 0, .int 8, []) :: (144, 2, 1, 4, 0, .null, []) :: (146, 1, 5, 0, 2, .null, []) :: (147, 2, 1, 5, 0, .null, []) :: (149, 1, 5, 0, 0, .null, []) :: (150, 2, 1, 7, 0, .null, []) :: (152, 1, 24, 0, 0, .null, []) :: (153, 1, 1, 0, 2, .null, []) :: (154, 3, 18, 5, 14, .null, []) :: (157, 2, 0, 0, 0, .int 8, []) :: (159, 2, 1, 5, 0, .null, []) :: (161, 1, 5, 0, 2, .null, []) :: (162, 2, 1, 4, 0, .null, []) :: (164, 1, 5, 0, 0, .null, []) :: (165, 2, 1, 7, 0, .null, []) :: (167, 1, 24, 0, 0, .null, []) :: qM_readPairs_168
def qM_readPairs_108 : List CE := (108, 1, 0, 0, 0, .int 0, []) :: qM_readPairs_109
def qM_readPairs_104 : List CE := (104, 1, 0, 0, 0, .int 1, []) :: (105, 3, 14, 109, 0, .null, []) :: []
def qM_readPairs_88 : List CE := (88, 3, 19, 5, 11, .int 0, []) :: (91, 1, 1, 0, 2, .null, []) :: (92, 1, 1, 0, 2, .null, []) :: (93, 3, 18, 5, 12, .null, []) :: (96, 3, 12, 104, 1, .null, []) :: (99, 2, 1, 6, 0, .null, []) :: (101, 3, 12, 108, 0, .null, []) :: qM_readPairs_104
def qM_readPairs_84 : List CE := (84, 1, 1, 0, 2, .null, []) :: (85, 3, 18, 5, 11, .null, []) :: qM_readPairs_88
def qM_readPairs_67 : List CE := (67, 2, 2, 6, 0, .null, []) :: (69, 1, 1, 0, 2, .null, []) :: (70, 2, 1, 6, 0, .null, []) :: (72, 3, 12, 84, 0, .null, []) :: (75, 1, 1, 0, 2, .null, []) :: (76, 3, 18, 5, 11, .null, []) :: (79, 1, 0, 0, 0, .int 1, []) :: (80, 1, 5, 0, 1, .null, []) :: (81, 3, 14, 88, 0, .null, []) :: []
def qM_readPairs_66 : List CE := (66, 1, 0, 0, 0, .int 0, []) :: qM_readPairs_67
def qM_readPairs_62 : List CE := (62, 1, 0, 0, 0, .int 1, []) :: (63, 3, 14, 67, 0, .null, []) :: []
def qM_readPairs_4 : List CE := (4, 1, 1, 3, 0, .null, []) :: (5, 3, 12, 195, 0, .null, []) :: (8, 1, 1, 0, 2, .null, []) :: (9, 2, 0, 0, 0, .int 48, []) :: (11, 2, 0, 0, 0, .int 47, []) :: (13, 1, 1, 1, 0, .null, []) :: (14, 1, 5, 0, 0, .null, []) :: (15, 3, 37, 105, 3, .null, [(0, 5)]) :: (18, 2, 2, 4, 0, .null, []) :: (20, 1, 1, 0, 2, .null, []) :: (21, 2, 0, 0, 0, .int 48, []) :: (23, 2, 0, 0, 0, .int 47, []) :: (25, 1, 1, 1, 0, .null, []) :: (26, 1, 5, 0, 0, .null, []) :: (27, 3, 37, 105, 3, .null, [(0, 5)]) :: (30, 2, 2, 5, 0, .null, []) :: (32, 1, 1, 0, 2, .null, []) :: (33, 3, 18, 5, 12, .null, []) :: (36, 3, 12, 66, 1, .null, []) :: (39, 2, 1, 4, 0, .null, []) :: (41, 2, 1, 5, 0, .null, []) :: (43, 3, 13, 62, 0, .null, []) :: (46, 1, 1, 0, 2, .null, []) :: (47, 3, 18, 5, 14, .null, []) :: (50, 2, 0, 0, 0, .int 8, []) :: (52, 2, 1, 4, 0, .null, []) :: (54, 1, 5, 0, 2, .null, []) :: (55, 2, 1, 5, 0, .null, []) :: (57, 1, 5, 0, 0, .null, []) :: (58, 1, 20, 0, 0, .null, []) :: (59, 3, 12, 66, 2, .null, []) :: qM_readPairs_62
def qM_readPairs_0 : List CE := (0, 1, 0, 0, 0, .int 0, []) :: (1, 1, 2, 2, 0, .null, []) :: (2, 1, 0, 0, 0, .int 1, []) :: (3, 1, 2, 3, 0, .null, []) :: qM_readPairs_4
def qM_town_169 : List CE := (169, 1, 1, 1, 0, .null, []) :: (170, 1, 30, 0, 0, .null, []) :: []
def qM_town_163 : List CE := (163, 3, 4, 2, 0, .int 1, []) :: (166, 3, 14, 136, 0, .null, []) :: []
def qM_town_136 : List CE := (136, 1, 1, 2, 0, .null, []) :: (137, 2, 0, 0, 0, .int 64, []) :: (139, 3, 13, 169, 3, .null, []) :: (142, 1, 1, 0, 2, .null, []) :: (143, 3, 18, 5, 14, .null, []) :: (146, 1, 1, 2, 0, .null, []) :: (147, 1, 20, 0, 0, .null, []) :: (148, 3, 12, 163, 5, .null, []) :: (151, 1, 1, 0, 2, .null, []) :: (152, 3, 18, 5, 5, .null, []) :: (155, 1, 1, 2, 0, .null, []) :: (156, 1, 1, 0, 2, .null, []) :: (157, 3, 18, 5, 14, .null, []) :: (160, 1, 1, 2, 0, .null, []) :: (161, 1, 20, 0, 0, .null, []) :: (162, 1, 24, 0, 0, .null, []) :: qM_town_163
def qM_town_134 : List CE := (134, 1, 0, 0, 0, .int 0, []) :: (135, 1, 2, 2, 0, .null, []) :: qM_town_136
def qM_town_101 : List CE := (101, 1, 1, 2, 0, .null, []) :: (102, 1, 1, 1, 0, .null, []) :: (103, 3, 13, 134, 3, .null, []) :: (106, 1, 1, 0, 2, .null, []) :: (107, 1, 1, 0, 2, .null, []) :: (108, 3, 18, 5, 13, .null, []) :: (111, 1, 0, 0, 0, .int 2, []) :: (112, 1, 1, 2, 0, .null, []) :: (113, 1, 5, 0, 2, .null, []) :: (114, 1, 20, 0, 0, .null, []) :: (115, 1, 1, 0, 2, .null, []) :: (116, 3, 18, 5, 13, .null, []) :: (119, 1, 0, 0, 0, .int 2, []) :: (120, 1, 1, 2, 0, .null, []) :: (121, 1, 5, 0, 2, .null, []) :: (122, 1, 0, 0, 0, .int 1, []) :: (123, 1, 5, 0, 0, .null, []) :: (124, 1, 20, 0, 0, .null, []) :: (125, 3, 37, 89, 3, .null, [(0, 5)]) :: (128, 3, 4, 2, 0, .int 1, []) :: (131, 3, 14, 101, 0, .null, []) :: []
def qM_town_94 : List CE := (94, 1, 1, 0, 2, .null, []) :: (95, 1, 0, 0, 0, .int 0, []) :: (96, 3, 19, 5, 0, .int 0, []) :: (99, 1, 0, 0, 0, .int 0, []) :: (100, 1, 2, 2, 0, .null, []) :: qM_town_101
def qM_town_71 : List CE := (71, 3, 19, 5, 12, .int 1, []) :: (74, 1, 1, 0, 2, .null, []) :: (75, 1, 0, 0, 0, .int 0, []) :: (76, 3, 19, 5, 10, .int 0, []) :: (79, 1, 1, 0, 2, .null, []) :: (80, 3, 18, 5, 12, .null, []) :: (83, 3, 12, 94, 0, .null, []) :: (86, 2, 0, 0, 0, .int (-20), []) :: (88, 1, 1, 0, 2, .null, []) :: (89, 3, 18, 5, 11, .null, []) :: (92, 1, 5, 0, 1, .null, []) :: (93, 1, 30, 0, 0, .null, []) :: []
def qM_town_70 : List CE := (70, 1, 0, 0, 0, .int 0, []) :: qM_town_71
def qM_town_66 : List CE := (66, 1, 0, 0, 0, .int 1, []) :: (67, 3, 14, 71, 0, .null, []) :: []
def qM_town_51 : List CE := (51, 1, 1, 0, 2, .null, []) :: (52, 1, 1, 0, 2, .null, []) :: (53, 3, 18, 5, 12, .null, []) :: (56, 3, 12, 66, 1, .null, []) :: (59, 1, 1, 0, 2, .null, []) :: (60, 3, 37, 103, 1, .null, [(0, 5)]) :: (63, 3, 12, 70, 0, .null, []) :: qM_town_66
def qM_town_32 : List CE := (32, 1, 1, 0, 2, .null, []) :: (33, 3, 37, 108, 1, .null, [(0, 5)]) :: (36, 1, 2, 1, 0, .null, []) :: (37, 1, 1, 0, 2, .null, []) :: (38, 2, 0, 0, 0, .int 59, []) :: (40, 3, 37, 104, 2, .null, [(0, 5)]) :: (43, 3, 12, 51, 0, .null, []) :: (46, 1, 1, 0, 2, .null, []) :: (47, 1, 1, 1, 0, .null, []) :: (48, 3, 37, 109, 2, .null, [(0, 5)]) :: qM_town_51
def qM_town_12 : List CE := (12, 1, 1, 1, 0, .null, []) :: (13, 2, 0, 0, 0, .int 64, []) :: (15, 3, 13, 32, 3, .null, []) :: (18, 1, 1, 0, 2, .null, []) :: (19, 3, 18, 5, 14, .null, []) :: (22, 1, 1, 1, 0, .null, []) :: (23, 2, 0, 0, 0, .int (-4), []) :: (25, 1, 24, 0, 0, .null, []) :: (26, 3, 4, 1, 0, .int 1, []) :: (29, 3, 14, 12, 0, .null, []) :: []
def qM_town_0 : List CE := (0, 1, 1, 0, 2, .null, []) :: (1, 1, 0, 0, 0, .int 0, []) :: (2, 3, 19, 5, 11, .int 0, []) :: (5, 1, 1, 0, 2, .null, []) :: (6, 1, 0, 0, 0, .int 0, []) :: (7, 3, 19, 5, 12, .int 1, []) :: (10, 1, 0, 0, 0, .int 0, []) :: (11, 1, 2, 1, 0, .null, []) :: qM_town_12
def qM_solves_313 : List CE := (313, 1, 32, 0, 0, .null, []) :: []
def qM_solves_284 : List CE := (284, 2, 1, 4, 0, .null, []) :: (286, 1, 1, 0, 2, .null, []) :: (287, 3, 18, 5, 0, .null, []) :: (290, 3, 13, 313, 3, .null, []) :: (293, 1, 1, 0, 2, .null, []) :: (294, 3, 18, 5, 17, .null, []) :: (297, 2, 1, 4, 0, .null, []) :: (299, 1, 1, 0, 2, .null, []) :: (300, 3, 18, 5, 16, .null, []) :: (303, 2, 1, 4, 0, .null, []) :: (305, 1, 21, 0, 0, .null, []) :: (306, 1, 25, 0, 0, .null, []) :: (307, 3, 4, 4, 0, .int 1, []) :: (310, 3, 14, 284, 0, .null, []) :: []
def qM_solves_276 : List CE := (276, 1, 1, 0, 2, .null, []) :: (277, 1, 1, 2, 1, .null, []) :: (278, 3, 19, 5, 18, .long 0, []) :: (281, 1, 0, 0, 0, .int 0, []) :: (282, 2, 2, 4, 0, .null, []) :: qM_solves_284
def qM_solves_243 : List CE := (243, 2, 1, 4, 0, .null, []) :: (245, 1, 1, 0, 2, .null, []) :: (246, 3, 18, 5, 0, .null, []) :: (249, 3, 13, 276, 3, .null, []) :: (252, 1, 1, 0, 2, .null, []) :: (253, 2, 1, 4, 0, .null, []) :: (255, 1, 1, 2, 1, .null, []) :: (256, 3, 37, 112, 3, .null, [(0, 5)]) :: (259, 1, 1, 0, 2, .null, []) :: (260, 3, 18, 5, 15, .null, []) :: (263, 2, 0, 0, 0, .int 9, []) :: (265, 2, 1, 4, 0, .null, []) :: (267, 1, 5, 0, 2, .null, []) :: (268, 1, 21, 0, 0, .null, []) :: (269, 1, 3, 2, 0, .null, []) :: (270, 3, 4, 4, 0, .int 1, []) :: (273, 3, 14, 243, 0, .null, []) :: []
def qM_solves_238 : List CE := (238, 1, 0, 0, 0, .long 1, []) :: (239, 1, 3, 2, 0, .null, []) :: (240, 1, 0, 0, 0, .int 0, []) :: (241, 2, 2, 4, 0, .null, []) :: qM_solves_243
def qM_solves_232 : List CE := (232, 3, 4, 2, 0, .int 1, []) :: (235, 3, 14, 10, 0, .null, []) :: []
def qM_solves_231 : List CE := (231, 1, 25, 0, 0, .null, []) :: qM_solves_232
def qM_solves_230 : List CE := (230, 1, 0, 0, 0, .long 0, []) :: qM_solves_231
def qM_solves_212 : List CE := (212, 1, 1, 0, 2, .null, []) :: (213, 3, 18, 5, 16, .null, []) :: (216, 1, 1, 2, 0, .null, []) :: (217, 1, 1, 1, 0, .null, []) :: (218, 3, 12, 230, 3, .null, []) :: (221, 1, 1, 0, 2, .null, []) :: (222, 1, 1, 2, 0, .null, []) :: (223, 3, 37, 96, 2, .null, [(0, 5)]) :: (226, 1, 10, 0, 2, .null, []) :: (227, 3, 14, 231, 0, .null, []) :: []
def qM_solves_205 : List CE := (205, 1, 25, 0, 0, .null, []) :: (206, 3, 4, 6, 0, .int 1, []) :: (209, 3, 14, 156, 0, .null, []) :: []
def qM_solves_191 : List CE := (191, 1, 1, 0, 2, .null, []) :: (192, 3, 18, 5, 5, .null, []) :: (195, 2, 0, 0, 0, .int 8, []) :: (197, 1, 1, 2, 0, .null, []) :: (198, 1, 5, 0, 2, .null, []) :: (199, 2, 1, 6, 0, .null, []) :: (201, 1, 5, 0, 0, .null, []) :: (202, 1, 20, 0, 0, .null, []) :: (203, 1, 10, 0, 0, .null, []) :: (204, 1, 10, 0, 2, .null, []) :: qM_solves_205
def qM_solves_156 : List CE := (156, 2, 1, 6, 0, .null, []) :: (158, 1, 1, 0, 2, .null, []) :: (159, 3, 18, 5, 0, .null, []) :: (162, 3, 13, 212, 3, .null, []) :: (165, 1, 1, 0, 2, .null, []) :: (166, 3, 18, 5, 15, .null, []) :: (169, 2, 0, 0, 0, .int 8, []) :: (171, 1, 1, 2, 0, .null, []) :: (172, 1, 5, 0, 2, .null, []) :: (173, 2, 1, 6, 0, .null, []) :: (175, 1, 5, 0, 0, .null, []) :: (176, 1, 1, 2, 0, .null, []) :: (177, 2, 1, 6, 0, .null, []) :: (179, 3, 13, 191, 1, .null, []) :: (182, 1, 1, 0, 2, .null, []) :: (183, 1, 1, 2, 0, .null, []) :: (184, 3, 37, 96, 2, .null, [(0, 5)]) :: (187, 1, 10, 0, 2, .null, []) :: (188, 3, 14, 205, 0, .null, []) :: []
def qM_solves_147 : List CE := (147, 1, 25, 0, 0, .null, []) :: (148, 2, 1, 5, 0, .null, []) :: (150, 3, 12, 232, 0, .null, []) :: (153, 1, 0, 0, 0, .int 0, []) :: (154, 2, 2, 6, 0, .null, []) :: qM_solves_156
def qM_solves_146 : List CE := (146, 1, 0, 0, 0, .long 0, []) :: qM_solves_147
def qM_solves_127 : List CE := (127, 2, 2, 5, 0, .null, []) :: (129, 1, 1, 0, 2, .null, []) :: (130, 3, 18, 5, 16, .null, []) :: (133, 1, 1, 2, 0, .null, []) :: (134, 1, 1, 0, 2, .null, []) :: (135, 1, 1, 2, 0, .null, []) :: (136, 3, 37, 97, 2, .null, [(0, 5)]) :: (139, 3, 12, 146, 0, .null, []) :: (142, 1, 1, 3, 1, .null, []) :: (143, 3, 14, 147, 0, .null, []) :: []
def qM_solves_126 : List CE := (126, 1, 0, 0, 0, .int 0, []) :: qM_solves_127
def qM_solves_101 : List CE := (101, 1, 3, 3, 0, .null, []) :: (102, 1, 1, 0, 2, .null, []) :: (103, 1, 1, 2, 0, .null, []) :: (104, 3, 37, 97, 2, .null, [(0, 5)]) :: (107, 3, 12, 126, 1, .null, []) :: (110, 1, 1, 0, 2, .null, []) :: (111, 3, 18, 5, 19, .null, []) :: (114, 1, 1, 2, 0, .null, []) :: (115, 1, 5, 0, 7, .null, []) :: (116, 1, 0, 0, 0, .int 1, []) :: (117, 1, 5, 0, 3, .null, []) :: (118, 1, 0, 0, 0, .int 1, []) :: (119, 3, 13, 126, 1, .null, []) :: (122, 1, 0, 0, 0, .int 1, []) :: (123, 3, 14, 127, 0, .null, []) :: []
def qM_solves_100 : List CE := (100, 1, 0, 0, 0, .long 0, []) :: qM_solves_101
def qM_solves_89 : List CE := (89, 1, 1, 1, 0, .null, []) :: (90, 1, 0, 0, 0, .int 1, []) :: (91, 1, 1, 2, 0, .null, []) :: (92, 1, 5, 0, 0, .null, []) :: (93, 3, 13, 100, 1, .null, []) :: (96, 1, 0, 0, 0, .long 1, []) :: (97, 3, 14, 101, 0, .null, []) :: []
def qM_solves_79 : List CE := (79, 1, 1, 0, 2, .null, []) :: (80, 3, 18, 5, 2, .null, []) :: (83, 1, 1, 2, 0, .null, []) :: (84, 1, 20, 0, 0, .null, []) :: (85, 1, 10, 0, 2, .null, []) :: (86, 3, 14, 101, 0, .null, []) :: []
def qM_solves_55 : List CE := (55, 1, 1, 1, 0, .null, []) :: (56, 3, 12, 89, 1, .null, []) :: (59, 1, 1, 0, 2, .null, []) :: (60, 3, 18, 5, 8, .null, []) :: (63, 1, 1, 2, 0, .null, []) :: (64, 1, 5, 0, 7, .null, []) :: (65, 1, 0, 0, 0, .int 1, []) :: (66, 1, 5, 0, 3, .null, []) :: (67, 1, 0, 0, 0, .int 1, []) :: (68, 3, 13, 79, 1, .null, []) :: (71, 1, 1, 0, 2, .null, []) :: (72, 3, 18, 5, 20, .null, []) :: (75, 1, 10, 0, 2, .null, []) :: (76, 3, 14, 101, 0, .null, []) :: []
def qM_solves_48 : List CE := (48, 1, 25, 0, 0, .null, []) :: (49, 3, 4, 3, 0, .int 1, []) :: (52, 3, 14, 20, 0, .null, []) :: []
def qM_solves_47 : List CE := (47, 1, 0, 0, 0, .long 0, []) :: qM_solves_48
def qM_solves_20 : List CE := (20, 1, 1, 3, 0, .null, []) :: (21, 1, 1, 0, 2, .null, []) :: (22, 3, 18, 5, 0, .null, []) :: (25, 3, 13, 55, 3, .null, []) :: (28, 1, 1, 0, 2, .null, []) :: (29, 3, 18, 5, 15, .null, []) :: (32, 2, 0, 0, 0, .int 8, []) :: (34, 1, 1, 2, 0, .null, []) :: (35, 1, 5, 0, 2, .null, []) :: (36, 1, 1, 3, 0, .null, []) :: (37, 1, 5, 0, 0, .null, []) :: (38, 1, 1, 2, 0, .null, []) :: (39, 1, 1, 3, 0, .null, []) :: (40, 3, 13, 47, 1, .null, []) :: (43, 1, 0, 0, 0, .long 1, []) :: (44, 3, 14, 48, 0, .null, []) :: []
def qM_solves_10 : List CE := (10, 1, 1, 2, 0, .null, []) :: (11, 1, 1, 0, 2, .null, []) :: (12, 3, 18, 5, 0, .null, []) :: (15, 3, 13, 238, 3, .null, []) :: (18, 1, 0, 0, 0, .int 0, []) :: (19, 1, 2, 3, 0, .null, []) :: qM_solves_20
def qM_solves_0 : List CE := (0, 1, 1, 0, 2, .null, []) :: (1, 1, 1, 0, 2, .null, []) :: (2, 3, 37, 98, 1, .null, [(0, 5)]) :: (5, 3, 19, 5, 19, .int 0, []) :: (8, 1, 0, 0, 0, .int 0, []) :: (9, 1, 2, 2, 0, .null, []) :: qM_solves_10
def qM_clears_159 : List CE := (159, 1, 32, 0, 0, .null, []) :: []
def qM_clears_152 : List CE := (152, 1, 25, 0, 0, .null, []) :: (153, 3, 4, 6, 0, .int 1, []) :: (156, 3, 14, 14, 0, .null, []) :: []
def qM_clears_130 : List CE := (130, 2, 1, 4, 1, .null, []) :: (132, 1, 1, 0, 2, .null, []) :: (133, 3, 18, 5, 16, .null, []) :: (136, 2, 1, 6, 0, .null, []) :: (138, 1, 21, 0, 0, .null, []) :: (139, 1, 7, 0, 2, .null, []) :: (140, 2, 1, 7, 1, .null, []) :: (142, 1, 1, 0, 2, .null, []) :: (143, 3, 18, 5, 16, .null, []) :: (146, 1, 1, 1, 0, .null, []) :: (147, 1, 21, 0, 0, .null, []) :: (148, 1, 7, 0, 2, .null, []) :: (149, 1, 7, 0, 1, .null, []) :: (150, 1, 1, 2, 1, .null, []) :: (151, 1, 8, 0, 0, .null, []) :: qM_clears_152
def qM_clears_108 : List CE := (108, 1, 1, 0, 2, .null, []) :: (109, 3, 18, 5, 16, .null, []) :: (112, 2, 1, 6, 0, .null, []) :: (114, 2, 1, 6, 0, .null, []) :: (116, 1, 1, 1, 0, .null, []) :: (117, 3, 13, 130, 1, .null, []) :: (120, 1, 1, 0, 2, .null, []) :: (121, 3, 18, 5, 16, .null, []) :: (124, 2, 1, 6, 0, .null, []) :: (126, 1, 21, 0, 0, .null, []) :: (127, 3, 14, 152, 0, .null, []) :: []
def qM_clears_40 : List CE := (40, 2, 1, 9, 0, .null, []) :: (42, 1, 1, 0, 2, .null, []) :: (43, 3, 18, 5, 0, .null, []) :: (46, 3, 13, 108, 3, .null, []) :: (49, 2, 1, 6, 0, .null, []) :: (51, 1, 1, 1, 0, .null, []) :: (52, 3, 13, 108, 0, .null, []) :: (55, 1, 1, 0, 2, .null, []) :: (56, 3, 18, 5, 15, .null, []) :: (59, 2, 0, 0, 0, .int 8, []) :: (61, 2, 1, 6, 0, .null, []) :: (63, 1, 5, 0, 2, .null, []) :: (64, 2, 1, 9, 0, .null, []) :: (66, 1, 5, 0, 0, .null, []) :: (67, 2, 1, 4, 1, .null, []) :: (69, 1, 1, 0, 2, .null, []) :: (70, 3, 18, 5, 15, .null, []) :: (73, 2, 0, 0, 0, .int 8, []) :: (75, 2, 1, 6, 0, .null, []) :: (77, 1, 5, 0, 2, .null, []) :: (78, 2, 1, 9, 0, .null, []) :: (80, 1, 5, 0, 0, .null, []) :: (81, 1, 21, 0, 0, .null, []) :: (82, 1, 7, 0, 2, .null, []) :: (83, 2, 1, 7, 1, .null, []) :: (85, 1, 1, 0, 2, .null, []) :: (86, 3, 18, 5, 15, .null, []) :: (89, 2, 0, 0, 0, .int 8, []) :: (91, 1, 1, 1, 0, .null, []) :: (92, 1, 5, 0, 2, .null, []) :: (93, 2, 1, 9, 0, .null, []) :: (95, 1, 5, 0, 0, .null, []) :: (96, 1, 21, 0, 0, .null, []) :: (97, 1, 7, 0, 2, .null, []) :: (98, 1, 7, 0, 1, .null, []) :: (99, 1, 1, 2, 1, .null, []) :: (100, 1, 8, 0, 0, .null, []) :: (101, 1, 25, 0, 0, .null, []) :: (102, 3, 4, 9, 0, .int 1, []) :: (105, 3, 14, 40, 0, .null, []) :: []
def qM_clears_14 : List CE := (14, 2, 1, 6, 0, .null, []) :: (16, 1, 1, 0, 2, .null, []) :: (17, 3, 18, 5, 0, .null, []) :: (20, 3, 13, 159, 3, .null, []) :: (23, 1, 1, 0, 2, .null, []) :: (24, 3, 18, 5, 15, .null, []) :: (27, 2, 0, 0, 0, .int 8, []) :: (29, 2, 1, 6, 0, .null, []) :: (31, 1, 5, 0, 2, .null, []) :: (32, 1, 1, 1, 0, .null, []) :: (33, 1, 5, 0, 0, .null, []) :: (34, 1, 21, 0, 0, .null, []) :: (35, 2, 3, 7, 0, .null, []) :: (37, 1, 0, 0, 0, .int 0, []) :: (38, 2, 2, 9, 0, .null, []) :: qM_clears_40
def qM_clears_0 : List CE := (0, 1, 1, 0, 2, .null, []) :: (1, 3, 18, 5, 15, .null, []) :: (4, 2, 0, 0, 0, .int 9, []) :: (6, 1, 1, 1, 0, .null, []) :: (7, 1, 5, 0, 2, .null, []) :: (8, 1, 21, 0, 0, .null, []) :: (9, 2, 3, 4, 0, .null, []) :: (11, 1, 0, 0, 0, .int 0, []) :: (12, 2, 2, 6, 0, .null, []) :: qM_clears_14
def qM_lowest_58 : List CE := (58, 1, 31, 0, 0, .null, []) :: []
def qM_lowest_54 : List CE := (54, 1, 1, 2, 1, .null, []) :: (55, 2, 1, 5, 1, .null, []) :: (57, 1, 8, 0, 0, .null, []) :: qM_lowest_58
def qM_lowest_42 : List CE := (42, 2, 1, 4, 0, .null, []) :: (44, 3, 12, 54, 1, .null, []) :: (47, 1, 1, 0, 1, .null, []) :: (48, 2, 1, 5, 1, .null, []) :: (50, 1, 8, 0, 0, .null, []) :: (51, 3, 14, 58, 0, .null, []) :: []
def qM_lowest_17 : List CE := (17, 2, 1, 7, 1, .null, []) :: (19, 1, 0, 0, 0, .long 0, []) :: (20, 1, 11, 0, 0, .null, []) :: (21, 3, 12, 42, 0, .null, []) :: (24, 2, 1, 5, 1, .null, []) :: (26, 2, 1, 7, 1, .null, []) :: (28, 1, 8, 0, 1, .null, []) :: (29, 2, 3, 9, 0, .null, []) :: (31, 2, 1, 7, 1, .null, []) :: (33, 2, 3, 5, 0, .null, []) :: (35, 2, 1, 9, 1, .null, []) :: (37, 2, 3, 7, 0, .null, []) :: (39, 3, 14, 17, 0, .null, []) :: []
def qM_lowest_12 : List CE := (12, 2, 3, 5, 0, .null, []) :: (14, 1, 1, 2, 1, .null, []) :: (15, 2, 3, 7, 0, .null, []) :: qM_lowest_17
def qM_lowest_11 : List CE := (11, 1, 1, 0, 1, .null, []) :: qM_lowest_12
def qM_lowest_0 : List CE := (0, 1, 1, 0, 1, .null, []) :: (1, 1, 0, 0, 0, .long 0, []) :: (2, 1, 11, 0, 0, .null, []) :: (3, 3, 12, 11, 3, .null, []) :: (6, 1, 1, 0, 1, .null, []) :: (7, 1, 10, 0, 1, .null, []) :: (8, 3, 14, 12, 0, .null, []) :: []
def qM_isKnown_17 : List CE := (17, 1, 30, 0, 1, .null, []) :: []
def qM_isKnown_16 : List CE := (16, 1, 0, 0, 0, .int 0, []) :: qM_isKnown_17
def qM_isKnown_0 : List CE := (0, 1, 1, 0, 2, .null, []) :: (1, 3, 18, 5, 19, .null, []) :: (4, 1, 1, 1, 0, .null, []) :: (5, 1, 5, 0, 7, .null, []) :: (6, 1, 0, 0, 0, .int 1, []) :: (7, 1, 5, 0, 3, .null, []) :: (8, 1, 0, 0, 0, .int 1, []) :: (9, 3, 13, 16, 1, .null, []) :: (12, 1, 0, 0, 0, .int 1, []) :: (13, 3, 14, 17, 0, .null, []) :: []
def qM_rent_55 : List CE := (55, 1, 31, 0, 0, .null, []) :: []
def qM_rent_52 : List CE := (52, 3, 0, 0, 0, .long (-4), []) :: qM_rent_55
def qM_rent_22 : List CE := (22, 1, 1, 0, 2, .null, []) :: (23, 1, 0, 0, 0, .int 0, []) :: (24, 3, 37, 111, 2, .null, [(0, 5)]) :: (27, 1, 1, 0, 2, .null, []) :: (28, 1, 1, 1, 0, .null, []) :: (29, 3, 37, 114, 2, .null, [(0, 5)]) :: (32, 3, 12, 52, 0, .null, []) :: (35, 1, 1, 0, 2, .null, []) :: (36, 3, 18, 5, 17, .null, []) :: (39, 1, 1, 1, 0, .null, []) :: (40, 1, 21, 0, 0, .null, []) :: (41, 1, 1, 0, 2, .null, []) :: (42, 3, 18, 5, 18, .null, []) :: (45, 1, 1, 2, 0, .null, []) :: (46, 3, 28, 113, 3, .null, []) :: (49, 3, 14, 55, 0, .null, []) :: []
def qM_rent_18 : List CE := (18, 3, 0, 0, 0, .long (-1), []) :: (21, 1, 31, 0, 0, .null, []) :: []
def qM_rent_0 : List CE := (0, 1, 1, 0, 2, .null, []) :: (1, 1, 1, 1, 0, .null, []) :: (2, 3, 37, 87, 2, .null, [(0, 5)]) :: (5, 3, 12, 18, 0, .null, []) :: (8, 1, 1, 2, 0, .null, []) :: (9, 1, 10, 0, 2, .null, []) :: (10, 1, 0, 0, 0, .long 0, []) :: (11, 1, 0, 0, 0, .long 1, []) :: (12, 3, 28, 86, 3, .null, []) :: (15, 3, 12, 22, 1, .null, []) :: qM_rent_18
def qM_moves_77 : List CE := (77, 1, 31, 0, 0, .null, []) :: []
def qM_moves_74 : List CE := (74, 3, 0, 0, 0, .long (-4), []) :: qM_moves_77
def qM_moves_42 : List CE := (42, 1, 1, 0, 2, .null, []) :: (43, 1, 0, 0, 0, .int 1, []) :: (44, 1, 1, 2, 0, .null, []) :: (45, 1, 5, 0, 0, .null, []) :: (46, 3, 37, 111, 2, .null, [(0, 5)]) :: (49, 1, 1, 0, 2, .null, []) :: (50, 1, 1, 1, 0, .null, []) :: (51, 3, 37, 114, 2, .null, [(0, 5)]) :: (54, 3, 12, 74, 0, .null, []) :: (57, 1, 1, 0, 2, .null, []) :: (58, 3, 18, 5, 17, .null, []) :: (61, 1, 1, 1, 0, .null, []) :: (62, 1, 21, 0, 0, .null, []) :: (63, 1, 1, 0, 2, .null, []) :: (64, 3, 18, 5, 18, .null, []) :: (67, 1, 1, 3, 0, .null, []) :: (68, 3, 28, 113, 3, .null, []) :: (71, 3, 14, 77, 0, .null, []) :: []
def qM_moves_30 : List CE := (30, 1, 1, 0, 2, .null, []) :: (31, 1, 1, 2, 0, .null, []) :: (32, 3, 37, 97, 2, .null, [(0, 5)]) :: (35, 3, 12, 42, 1, .null, []) :: (38, 3, 0, 0, 0, .long (-2), []) :: (41, 1, 31, 0, 0, .null, []) :: []
def qM_moves_26 : List CE := (26, 3, 0, 0, 0, .long (-1), []) :: (29, 1, 31, 0, 0, .null, []) :: []
def qM_moves_0 : List CE := (0, 1, 1, 0, 2, .null, []) :: (1, 1, 1, 1, 0, .null, []) :: (2, 3, 37, 87, 2, .null, [(0, 5)]) :: (5, 3, 12, 26, 0, .null, []) :: (8, 1, 1, 0, 2, .null, []) :: (9, 1, 1, 2, 0, .null, []) :: (10, 3, 37, 87, 2, .null, [(0, 5)]) :: (13, 3, 12, 26, 0, .null, []) :: (16, 1, 1, 3, 0, .null, []) :: (17, 1, 10, 0, 2, .null, []) :: (18, 1, 0, 0, 0, .long 0, []) :: (19, 1, 0, 0, 0, .long 1, []) :: (20, 3, 28, 86, 3, .null, []) :: (23, 3, 12, 30, 1, .null, []) :: qM_moves_26
def qM_walk_55 : List CE := (55, 1, 31, 0, 0, .null, []) :: []
def qM_walk_52 : List CE := (52, 3, 0, 0, 0, .long (-4), []) :: qM_walk_55
def qM_walk_22 : List CE := (22, 1, 1, 0, 2, .null, []) :: (23, 1, 0, 0, 0, .int (-1), []) :: (24, 3, 37, 111, 2, .null, [(0, 5)]) :: (27, 1, 1, 0, 2, .null, []) :: (28, 1, 1, 1, 0, .null, []) :: (29, 3, 37, 114, 2, .null, [(0, 5)]) :: (32, 3, 12, 52, 0, .null, []) :: (35, 1, 1, 0, 2, .null, []) :: (36, 3, 18, 5, 17, .null, []) :: (39, 1, 1, 1, 0, .null, []) :: (40, 1, 21, 0, 0, .null, []) :: (41, 1, 1, 0, 2, .null, []) :: (42, 3, 18, 5, 18, .null, []) :: (45, 1, 1, 2, 0, .null, []) :: (46, 3, 28, 113, 3, .null, []) :: (49, 3, 14, 55, 0, .null, []) :: []
def qM_walk_18 : List CE := (18, 3, 0, 0, 0, .long (-1), []) :: (21, 1, 31, 0, 0, .null, []) :: []
def qM_walk_0 : List CE := (0, 1, 1, 0, 2, .null, []) :: (1, 1, 1, 1, 0, .null, []) :: (2, 3, 37, 87, 2, .null, [(0, 5)]) :: (5, 3, 12, 18, 0, .null, []) :: (8, 1, 1, 2, 0, .null, []) :: (9, 1, 10, 0, 2, .null, []) :: (10, 1, 0, 0, 0, .long 0, []) :: (11, 1, 0, 0, 0, .long 1, []) :: (12, 3, 28, 86, 3, .null, []) :: (15, 3, 12, 22, 1, .null, []) :: qM_walk_18
def qM_differs_78 : List CE := (78, 2, 1, 9, 1, .null, []) :: (80, 2, 1, 11, 1, .null, []) :: (82, 1, 0, 0, 0, .int 0, []) :: (83, 3, 28, 113, 3, .null, []) :: (86, 2, 3, 13, 0, .null, []) :: (88, 2, 1, 9, 1, .null, []) :: (90, 2, 1, 11, 1, .null, []) :: (92, 1, 0, 0, 0, .int 1, []) :: (93, 3, 28, 113, 3, .null, []) :: (96, 2, 3, 15, 0, .null, []) :: (98, 1, 1, 3, 1, .null, []) :: (99, 2, 1, 5, 1, .null, []) :: (101, 1, 0, 0, 0, .int 0, []) :: (102, 3, 28, 113, 3, .null, []) :: (105, 2, 3, 17, 0, .null, []) :: (107, 1, 1, 3, 1, .null, []) :: (108, 2, 1, 5, 1, .null, []) :: (110, 1, 0, 0, 0, .int 1, []) :: (111, 3, 28, 113, 3, .null, []) :: (114, 2, 3, 19, 0, .null, []) :: (116, 2, 1, 13, 1, .null, []) :: (118, 2, 1, 19, 1, .null, []) :: (120, 1, 7, 0, 2, .null, []) :: (121, 2, 1, 17, 1, .null, []) :: (123, 2, 1, 15, 1, .null, []) :: (125, 1, 7, 0, 2, .null, []) :: (126, 1, 7, 0, 1, .null, []) :: (127, 2, 1, 15, 1, .null, []) :: (129, 2, 1, 19, 1, .null, []) :: (131, 1, 7, 0, 2, .null, []) :: (132, 1, 1, 2, 0, .null, []) :: (133, 3, 28, 113, 3, .null, []) :: (136, 1, 31, 0, 0, .null, []) :: []
def qM_differs_69 : List CE := (69, 2, 1, 8, 0, .null, []) :: (71, 3, 12, 78, 1, .null, []) :: (74, 3, 0, 0, 0, .long (-1000000000000000004), []) :: (77, 1, 31, 0, 0, .null, []) :: []
def qM_differs_42 : List CE := (42, 2, 1, 13, 0, .null, []) :: (44, 2, 0, 0, 0, .int 64, []) :: (46, 3, 13, 69, 3, .null, []) :: (49, 1, 1, 0, 2, .null, []) :: (50, 3, 18, 5, 5, .null, []) :: (53, 2, 1, 13, 0, .null, []) :: (55, 1, 1, 0, 2, .null, []) :: (56, 3, 18, 5, 21, .null, []) :: (59, 2, 1, 13, 0, .null, []) :: (61, 1, 20, 0, 0, .null, []) :: (62, 1, 24, 0, 0, .null, []) :: (63, 3, 4, 13, 0, .int 1, []) :: (66, 3, 14, 42, 0, .null, []) :: []
def qM_differs_23 : List CE := (23, 2, 2, 8, 0, .null, []) :: (25, 1, 1, 0, 2, .null, []) :: (26, 3, 18, 5, 17, .null, []) :: (29, 1, 1, 1, 0, .null, []) :: (30, 1, 21, 0, 0, .null, []) :: (31, 2, 3, 9, 0, .null, []) :: (33, 1, 1, 0, 2, .null, []) :: (34, 3, 18, 5, 18, .null, []) :: (37, 2, 3, 11, 0, .null, []) :: (39, 1, 0, 0, 0, .int 0, []) :: (40, 2, 2, 13, 0, .null, []) :: qM_differs_42
def qM_differs_22 : List CE := (22, 1, 0, 0, 0, .int 0, []) :: qM_differs_23
def qM_differs_0 : List CE := (0, 1, 1, 0, 2, .null, []) :: (1, 1, 0, 0, 0, .int 0, []) :: (2, 3, 37, 111, 2, .null, [(0, 5)]) :: (5, 2, 1, 7, 0, .null, []) :: (7, 3, 12, 22, 0, .null, []) :: (10, 1, 1, 0, 2, .null, []) :: (11, 1, 1, 1, 0, .null, []) :: (12, 3, 37, 114, 2, .null, [(0, 5)]) :: (15, 3, 12, 22, 0, .null, []) :: (18, 1, 0, 0, 0, .int 1, []) :: (19, 3, 14, 23, 0, .null, []) :: []
def qM_keeps_26 : List CE := (26, 1, 32, 0, 0, .null, []) :: []
def qM_keeps_2 : List CE := (2, 1, 1, 1, 0, .null, []) :: (3, 2, 0, 0, 0, .int 64, []) :: (5, 3, 13, 26, 3, .null, []) :: (8, 1, 1, 0, 2, .null, []) :: (9, 3, 18, 5, 21, .null, []) :: (12, 1, 1, 1, 0, .null, []) :: (13, 1, 1, 0, 2, .null, []) :: (14, 3, 18, 5, 5, .null, []) :: (17, 1, 1, 1, 0, .null, []) :: (18, 1, 20, 0, 0, .null, []) :: (19, 1, 24, 0, 0, .null, []) :: (20, 3, 4, 1, 0, .int 1, []) :: (23, 3, 14, 2, 0, .null, []) :: []
def qM_keeps_0 : List CE := (0, 1, 0, 0, 0, .int 0, []) :: (1, 1, 2, 1, 0, .null, []) :: qM_keeps_2
def qM_change_45 : List CE := (45, 1, 1, 0, 2, .null, []) :: (46, 1, 0, 0, 0, .int 0, []) :: (47, 3, 37, 111, 2, .null, [(0, 5)]) :: (50, 1, 1, 0, 2, .null, []) :: (51, 3, 18, 5, 17, .null, []) :: (54, 2, 1, 4, 0, .null, []) :: (56, 1, 21, 0, 0, .null, []) :: (57, 2, 3, 6, 0, .null, []) :: (59, 1, 1, 0, 2, .null, []) :: (60, 3, 18, 5, 18, .null, []) :: (63, 2, 3, 8, 0, .null, []) :: (65, 1, 1, 0, 2, .null, []) :: (66, 2, 1, 4, 0, .null, []) :: (68, 3, 37, 114, 2, .null, [(0, 5)]) :: (71, 2, 2, 10, 0, .null, []) :: (73, 1, 1, 0, 2, .null, []) :: (74, 3, 37, 119, 1, .null, [(0, 5)]) :: (77, 1, 1, 0, 2, .null, []) :: (78, 1, 1, 1, 0, .null, []) :: (79, 1, 1, 2, 0, .null, []) :: (80, 1, 1, 3, 0, .null, []) :: (81, 3, 37, 91, 4, .null, [(0, 5)]) :: (84, 1, 1, 0, 2, .null, []) :: (85, 2, 1, 4, 0, .null, []) :: (87, 2, 1, 5, 0, .null, []) :: (89, 2, 1, 6, 1, .null, []) :: (91, 2, 1, 8, 1, .null, []) :: (93, 2, 1, 10, 0, .null, []) :: (95, 3, 37, 118, 6, .null, [(0, 5)]) :: (98, 1, 31, 0, 0, .null, []) :: []
def qM_change_41 : List CE := (41, 3, 0, 0, 0, .long (-1000000000000000001), []) :: (44, 1, 31, 0, 0, .null, []) :: []
def qM_change_0 : List CE := (0, 1, 1, 0, 2, .null, []) :: (1, 1, 1, 1, 0, .null, []) :: (2, 1, 1, 2, 0, .null, []) :: (3, 3, 37, 88, 3, .null, [(0, 5)]) :: (6, 3, 12, 41, 0, .null, []) :: (9, 1, 1, 3, 0, .null, []) :: (10, 1, 10, 0, 2, .null, []) :: (11, 1, 0, 0, 0, .long 0, []) :: (12, 3, 0, 0, 0, .long 2, []) :: (15, 3, 28, 86, 3, .null, []) :: (18, 3, 12, 41, 0, .null, []) :: (21, 1, 1, 0, 2, .null, []) :: (22, 2, 1, 4, 0, .null, []) :: (24, 3, 37, 87, 2, .null, [(0, 5)]) :: (27, 3, 12, 41, 0, .null, []) :: (30, 2, 1, 5, 0, .null, []) :: (32, 1, 10, 0, 2, .null, []) :: (33, 1, 0, 0, 0, .long 0, []) :: (34, 1, 0, 0, 0, .long 1, []) :: (35, 3, 28, 86, 3, .null, []) :: (38, 3, 12, 45, 1, .null, []) :: qM_change_41
def qM_pulled_79 : List CE := (79, 1, 1, 0, 2, .null, []) :: (80, 1, 1, 2, 0, .null, []) :: (81, 1, 1, 3, 0, .null, []) :: (82, 2, 1, 4, 1, .null, []) :: (84, 2, 1, 6, 1, .null, []) :: (86, 2, 1, 8, 0, .null, []) :: (88, 3, 37, 118, 6, .null, [(0, 5)]) :: (91, 1, 31, 0, 0, .null, []) :: []
def qM_pulled_56 : List CE := (56, 2, 1, 9, 0, .null, []) :: (58, 1, 1, 0, 2, .null, []) :: (59, 3, 18, 5, 0, .null, []) :: (62, 3, 13, 79, 3, .null, []) :: (65, 1, 1, 0, 2, .null, []) :: (66, 1, 1, 1, 0, .null, []) :: (67, 2, 1, 9, 0, .null, []) :: (69, 1, 0, 0, 0, .int 0, []) :: (70, 3, 37, 91, 4, .null, [(0, 5)]) :: (73, 3, 4, 9, 0, .int 1, []) :: (76, 3, 14, 56, 0, .null, []) :: []
def qM_pulled_23 : List CE := (23, 1, 1, 0, 2, .null, []) :: (24, 1, 0, 0, 0, .int 0, []) :: (25, 3, 37, 111, 2, .null, [(0, 5)]) :: (28, 1, 1, 0, 2, .null, []) :: (29, 3, 18, 5, 17, .null, []) :: (32, 1, 1, 2, 0, .null, []) :: (33, 1, 21, 0, 0, .null, []) :: (34, 2, 3, 4, 0, .null, []) :: (36, 1, 1, 0, 2, .null, []) :: (37, 3, 18, 5, 18, .null, []) :: (40, 2, 3, 6, 0, .null, []) :: (42, 1, 1, 0, 2, .null, []) :: (43, 1, 1, 2, 0, .null, []) :: (44, 3, 37, 114, 2, .null, [(0, 5)]) :: (47, 2, 2, 8, 0, .null, []) :: (49, 1, 1, 0, 2, .null, []) :: (50, 3, 37, 119, 1, .null, [(0, 5)]) :: (53, 1, 0, 0, 0, .int 0, []) :: (54, 2, 2, 9, 0, .null, []) :: qM_pulled_56
def qM_pulled_19 : List CE := (19, 3, 0, 0, 0, .long (-1000000000000000001), []) :: (22, 1, 31, 0, 0, .null, []) :: []
def qM_pulled_0 : List CE := (0, 1, 1, 0, 2, .null, []) :: (1, 1, 1, 1, 0, .null, []) :: (2, 1, 1, 2, 0, .null, []) :: (3, 3, 37, 88, 3, .null, [(0, 5)]) :: (6, 3, 12, 19, 0, .null, []) :: (9, 1, 1, 3, 0, .null, []) :: (10, 1, 10, 0, 2, .null, []) :: (11, 1, 0, 0, 0, .long 0, []) :: (12, 1, 0, 0, 0, .long 1, []) :: (13, 3, 28, 86, 3, .null, []) :: (16, 3, 12, 23, 1, .null, []) :: qM_pulled_19
def qM_goesOn_143 : List CE := (143, 1, 32, 0, 0, .null, []) :: []
def qM_goesOn_136 : List CE := (136, 1, 24, 0, 0, .null, []) :: (137, 3, 4, 2, 0, .int 1, []) :: (140, 3, 14, 2, 0, .null, []) :: []
def qM_goesOn_134 : List CE := (134, 2, 1, 5, 0, .null, []) :: qM_goesOn_136
def qM_goesOn_113 : List CE := (113, 2, 2, 6, 0, .null, []) :: (115, 1, 1, 0, 2, .null, []) :: (116, 3, 18, 5, 22, .null, []) :: (119, 1, 1, 2, 0, .null, []) :: (120, 2, 1, 6, 0, .null, []) :: (122, 3, 12, 134, 0, .null, []) :: (125, 1, 1, 0, 2, .null, []) :: (126, 3, 18, 5, 4, .null, []) :: (129, 1, 1, 2, 0, .null, []) :: (130, 1, 20, 0, 0, .null, []) :: (131, 3, 14, 136, 0, .null, []) :: []
def qM_goesOn_112 : List CE := (112, 1, 0, 0, 0, .int 0, []) :: qM_goesOn_113
def qM_goesOn_81 : List CE := (81, 2, 2, 5, 0, .null, []) :: (83, 1, 1, 0, 2, .null, []) :: (84, 3, 18, 5, 1, .null, []) :: (87, 1, 1, 2, 0, .null, []) :: (88, 1, 20, 0, 0, .null, []) :: (89, 1, 0, 0, 0, .int 2, []) :: (90, 3, 13, 112, 1, .null, []) :: (93, 1, 1, 3, 0, .null, []) :: (94, 3, 12, 112, 5, .null, []) :: (97, 2, 1, 5, 0, .null, []) :: (99, 1, 1, 0, 2, .null, []) :: (100, 3, 18, 5, 4, .null, []) :: (103, 1, 1, 2, 0, .null, []) :: (104, 1, 20, 0, 0, .null, []) :: (105, 3, 13, 112, 5, .null, []) :: (108, 1, 0, 0, 0, .int 1, []) :: (109, 3, 14, 113, 0, .null, []) :: []
def qM_goesOn_77 : List CE := (77, 2, 1, 4, 0, .null, []) :: (79, 1, 1, 3, 0, .null, []) :: (80, 1, 6, 0, 0, .null, []) :: qM_goesOn_81
def qM_goesOn_71 : List CE := (71, 1, 1, 1, 2, .null, []) :: (72, 1, 1, 2, 0, .null, []) :: (73, 1, 20, 0, 0, .null, []) :: (74, 3, 14, 81, 0, .null, []) :: []
def qM_goesOn_59 : List CE := (59, 1, 1, 0, 2, .null, []) :: (60, 1, 1, 2, 0, .null, []) :: (61, 3, 37, 97, 2, .null, [(0, 5)]) :: (64, 3, 12, 71, 1, .null, []) :: (67, 1, 1, 3, 0, .null, []) :: (68, 3, 12, 77, 1, .null, []) :: qM_goesOn_71
def qM_goesOn_22 : List CE := (22, 2, 1, 5, 0, .null, []) :: (24, 1, 1, 0, 2, .null, []) :: (25, 3, 18, 5, 0, .null, []) :: (28, 3, 13, 59, 3, .null, []) :: (31, 2, 1, 4, 0, .null, []) :: (33, 1, 1, 0, 2, .null, []) :: (34, 3, 18, 5, 5, .null, []) :: (37, 2, 0, 0, 0, .int 8, []) :: (39, 1, 1, 2, 0, .null, []) :: (40, 1, 5, 0, 2, .null, []) :: (41, 2, 1, 5, 0, .null, []) :: (43, 1, 5, 0, 0, .null, []) :: (44, 1, 20, 0, 0, .null, []) :: (45, 1, 1, 1, 2, .null, []) :: (46, 2, 1, 5, 0, .null, []) :: (48, 1, 20, 0, 0, .null, []) :: (49, 1, 5, 0, 2, .null, []) :: (50, 1, 5, 0, 0, .null, []) :: (51, 2, 2, 4, 0, .null, []) :: (53, 3, 4, 5, 0, .int 1, []) :: (56, 3, 14, 22, 0, .null, []) :: []
def qM_goesOn_2 : List CE := (2, 1, 1, 2, 0, .null, []) :: (3, 1, 1, 0, 2, .null, []) :: (4, 3, 18, 5, 0, .null, []) :: (7, 3, 13, 143, 3, .null, []) :: (10, 1, 1, 0, 2, .null, []) :: (11, 1, 1, 2, 0, .null, []) :: (12, 3, 37, 96, 2, .null, [(0, 5)]) :: (15, 1, 2, 3, 0, .null, []) :: (16, 1, 0, 0, 0, .int 0, []) :: (17, 2, 2, 4, 0, .null, []) :: (19, 1, 0, 0, 0, .int 0, []) :: (20, 2, 2, 5, 0, .null, []) :: qM_goesOn_22
def qM_goesOn_0 : List CE := (0, 1, 0, 0, 0, .int 0, []) :: (1, 1, 2, 2, 0, .null, []) :: qM_goesOn_2
def qM_year_74 : List CE := (74, 1, 1, 0, 2, .null, []) :: (75, 1, 15, 0, 0, .null, []) :: (76, 3, 18, 5, 7, .null, []) :: (79, 1, 0, 0, 0, .int 1, []) :: (80, 1, 5, 0, 0, .null, []) :: (81, 3, 19, 5, 7, .int 0, []) :: (84, 1, 1, 1, 0, .null, []) :: (85, 1, 30, 0, 0, .null, []) :: []
def qM_year_54 : List CE := (54, 1, 5, 0, 0, .null, []) :: (55, 1, 2, 1, 0, .null, []) :: (56, 1, 1, 0, 2, .null, []) :: (57, 3, 18, 5, 2, .null, []) :: (60, 1, 1, 2, 0, .null, []) :: (61, 1, 1, 0, 2, .null, []) :: (62, 3, 18, 5, 22, .null, []) :: (65, 1, 1, 2, 0, .null, []) :: (66, 1, 20, 0, 0, .null, []) :: (67, 1, 24, 0, 0, .null, []) :: (68, 3, 4, 2, 0, .int 1, []) :: (71, 3, 14, 25, 0, .null, []) :: []
def qM_year_53 : List CE := (53, 1, 0, 0, 0, .int 1, []) :: qM_year_54
def qM_year_25 : List CE := (25, 1, 1, 2, 0, .null, []) :: (26, 1, 1, 0, 2, .null, []) :: (27, 3, 18, 5, 0, .null, []) :: (30, 3, 13, 74, 3, .null, []) :: (33, 1, 1, 1, 0, .null, []) :: (34, 1, 1, 0, 2, .null, []) :: (35, 3, 18, 5, 22, .null, []) :: (38, 1, 1, 2, 0, .null, []) :: (39, 1, 20, 0, 0, .null, []) :: (40, 1, 1, 0, 2, .null, []) :: (41, 3, 18, 5, 2, .null, []) :: (44, 1, 1, 2, 0, .null, []) :: (45, 1, 20, 0, 0, .null, []) :: (46, 3, 13, 53, 1, .null, []) :: (49, 1, 0, 0, 0, .int 0, []) :: (50, 3, 14, 54, 0, .null, []) :: []
def qM_year_13 : List CE := (13, 1, 1, 0, 2, .null, []) :: (14, 1, 1, 0, 2, .null, []) :: (15, 3, 18, 5, 2, .null, []) :: (18, 3, 37, 122, 2, .null, [(0, 5)]) :: (21, 1, 0, 0, 0, .int 0, []) :: (22, 1, 2, 1, 0, .null, []) :: (23, 1, 0, 0, 0, .int 0, []) :: (24, 1, 2, 2, 0, .null, []) :: qM_year_25
def qM_year_0 : List CE := (0, 1, 1, 0, 2, .null, []) :: (1, 3, 18, 5, 7, .null, []) :: (4, 3, 0, 0, 0, .int 9999, []) :: (7, 3, 13, 13, 1, .null, []) :: (10, 2, 0, 0, 0, .int (-3), []) :: (12, 1, 30, 0, 0, .null, []) :: []
def qM_near_199 : List CE := (199, 2, 0, 0, 0, .int (-4), []) :: (201, 1, 30, 0, 0, .null, []) :: []
def qM_near_193 : List CE := (193, 3, 4, 2, 0, .int 1, []) :: (196, 3, 14, 49, 0, .null, []) :: []
def qM_near_164 : List CE := (164, 2, 1, 4, 0, .null, []) :: (166, 1, 1, 0, 2, .null, []) :: (167, 3, 18, 5, 0, .null, []) :: (170, 3, 13, 193, 3, .null, []) :: (173, 1, 1, 0, 2, .null, []) :: (174, 3, 18, 5, 23, .null, []) :: (177, 2, 1, 4, 0, .null, []) :: (179, 1, 1, 0, 2, .null, []) :: (180, 3, 18, 5, 22, .null, []) :: (183, 2, 1, 4, 0, .null, []) :: (185, 1, 20, 0, 0, .null, []) :: (186, 1, 24, 0, 0, .null, []) :: (187, 3, 4, 4, 0, .int 1, []) :: (190, 3, 14, 164, 0, .null, []) :: []
def qM_near_153 : List CE := (153, 1, 1, 0, 2, .null, []) :: (154, 1, 1, 0, 2, .null, []) :: (155, 3, 18, 5, 23, .null, []) :: (158, 3, 37, 122, 2, .null, [(0, 5)]) :: (161, 1, 0, 0, 0, .int 0, []) :: (162, 2, 2, 4, 0, .null, []) :: qM_near_164
def qM_near_147 : List CE := (147, 1, 1, 3, 0, .null, []) :: (148, 3, 12, 153, 0, .null, []) :: (151, 1, 1, 2, 0, .null, []) :: (152, 1, 30, 0, 0, .null, []) :: []
def qM_near_140 : List CE := (140, 1, 2, 3, 0, .null, []) :: (141, 3, 4, 4, 0, .int 1, []) :: (144, 3, 14, 60, 0, .null, []) :: []
def qM_near_139 : List CE := (139, 1, 0, 0, 0, .int 0, []) :: qM_near_140
def qM_near_135 : List CE := (135, 1, 0, 0, 0, .int 1, []) :: (136, 3, 14, 140, 0, .null, []) :: []
def qM_near_107 : List CE := (107, 2, 3, 5, 0, .null, []) :: (109, 1, 1, 3, 0, .null, []) :: (110, 3, 12, 139, 0, .null, []) :: (113, 1, 1, 0, 2, .null, []) :: (114, 2, 1, 4, 0, .null, []) :: (116, 3, 37, 114, 2, .null, [(0, 5)]) :: (119, 3, 12, 135, 0, .null, []) :: (122, 2, 1, 5, 1, .null, []) :: (124, 1, 1, 1, 0, .null, []) :: (125, 1, 10, 0, 2, .null, []) :: (126, 1, 1, 0, 2, .null, []) :: (127, 3, 18, 5, 18, .null, []) :: (130, 1, 7, 0, 2, .null, []) :: (131, 1, 11, 0, 0, .null, []) :: (132, 3, 12, 139, 4, .null, []) :: qM_near_135
def qM_near_105 : List CE := (105, 2, 1, 5, 1, .null, []) :: qM_near_107
def qM_near_60 : List CE := (60, 2, 1, 4, 0, .null, []) :: (62, 1, 1, 0, 2, .null, []) :: (63, 3, 18, 5, 0, .null, []) :: (66, 3, 13, 147, 3, .null, []) :: (69, 1, 1, 0, 2, .null, []) :: (70, 3, 18, 5, 23, .null, []) :: (73, 2, 1, 4, 0, .null, []) :: (75, 1, 20, 0, 0, .null, []) :: (76, 1, 10, 0, 2, .null, []) :: (77, 1, 1, 0, 2, .null, []) :: (78, 3, 18, 5, 18, .null, []) :: (81, 1, 7, 0, 2, .null, []) :: (82, 1, 1, 0, 2, .null, []) :: (83, 3, 18, 5, 17, .null, []) :: (86, 2, 1, 4, 0, .null, []) :: (88, 1, 21, 0, 0, .null, []) :: (89, 1, 7, 0, 1, .null, []) :: (90, 2, 3, 5, 0, .null, []) :: (92, 2, 1, 5, 1, .null, []) :: (94, 1, 0, 0, 0, .long 0, []) :: (95, 1, 11, 0, 0, .null, []) :: (96, 3, 12, 105, 3, .null, []) :: (99, 2, 1, 5, 1, .null, []) :: (101, 1, 10, 0, 1, .null, []) :: (102, 3, 14, 107, 0, .null, []) :: []
def qM_near_49 : List CE := (49, 1, 1, 2, 0, .null, []) :: (50, 2, 0, 0, 0, .int 61, []) :: (52, 3, 13, 199, 3, .null, []) :: (55, 1, 0, 0, 0, .int 1, []) :: (56, 1, 2, 3, 0, .null, []) :: (57, 1, 0, 0, 0, .int 0, []) :: (58, 2, 2, 4, 0, .null, []) :: qM_near_60
def qM_near_47 : List CE := (47, 1, 0, 0, 0, .int 0, []) :: (48, 1, 2, 2, 0, .null, []) :: qM_near_49
def qM_near_21 : List CE := (21, 1, 1, 2, 0, .null, []) :: (22, 1, 1, 0, 2, .null, []) :: (23, 3, 18, 5, 0, .null, []) :: (26, 3, 13, 47, 3, .null, []) :: (29, 1, 1, 0, 2, .null, []) :: (30, 3, 18, 5, 23, .null, []) :: (33, 1, 1, 2, 0, .null, []) :: (34, 1, 1, 0, 2, .null, []) :: (35, 3, 18, 5, 2, .null, []) :: (38, 1, 1, 2, 0, .null, []) :: (39, 1, 20, 0, 0, .null, []) :: (40, 1, 24, 0, 0, .null, []) :: (41, 3, 4, 2, 0, .int 1, []) :: (44, 3, 14, 21, 0, .null, []) :: []
def qM_near_14 : List CE := (14, 1, 1, 0, 2, .null, []) :: (15, 1, 0, 0, 0, .int 0, []) :: (16, 3, 37, 111, 2, .null, [(0, 5)]) :: (19, 1, 0, 0, 0, .int 0, []) :: (20, 1, 2, 2, 0, .null, []) :: qM_near_21
def qM_near_0 : List CE := (0, 1, 1, 1, 0, .null, []) :: (1, 1, 10, 0, 2, .null, []) :: (2, 1, 0, 0, 0, .long 0, []) :: (3, 3, 0, 0, 0, .long 99, []) :: (6, 3, 28, 86, 3, .null, []) :: (9, 3, 12, 14, 1, .null, []) :: (12, 1, 0, 0, 0, .int (-1), []) :: (13, 1, 30, 0, 0, .null, []) :: []
def qM_incomeOf_92 : List CE := (92, 1, 1, 2, 1, .null, []) :: (93, 1, 31, 0, 0, .null, []) :: []
def qM_incomeOf_84 : List CE := (84, 1, 7, 0, 0, .null, []) :: (85, 1, 3, 2, 0, .null, []) :: (86, 3, 4, 4, 0, .int 1, []) :: (89, 3, 14, 10, 0, .null, []) :: []
def qM_incomeOf_83 : List CE := (83, 1, 0, 0, 0, .long 0, []) :: qM_incomeOf_84
def qM_incomeOf_65 : List CE := (65, 2, 2, 5, 0, .null, []) :: (67, 1, 1, 2, 1, .null, []) :: (68, 2, 1, 5, 0, .null, []) :: (70, 3, 12, 83, 0, .null, []) :: (73, 1, 1, 0, 2, .null, []) :: (74, 3, 18, 5, 17, .null, []) :: (77, 2, 1, 4, 0, .null, []) :: (79, 1, 21, 0, 0, .null, []) :: (80, 3, 14, 84, 0, .null, []) :: []
def qM_incomeOf_64 : List CE := (64, 1, 0, 0, 0, .int 0, []) :: qM_incomeOf_65
def qM_incomeOf_10 : List CE := (10, 2, 1, 4, 0, .null, []) :: (12, 1, 1, 0, 2, .null, []) :: (13, 3, 18, 5, 0, .null, []) :: (16, 3, 13, 92, 3, .null, []) :: (19, 1, 1, 0, 2, .null, []) :: (20, 2, 1, 4, 0, .null, []) :: (22, 3, 37, 114, 2, .null, [(0, 5)]) :: (25, 3, 12, 64, 0, .null, []) :: (28, 1, 1, 0, 2, .null, []) :: (29, 3, 18, 5, 3, .null, []) :: (32, 2, 1, 4, 0, .null, []) :: (34, 1, 20, 0, 0, .null, []) :: (35, 1, 1, 1, 0, .null, []) :: (36, 3, 13, 64, 1, .null, []) :: (39, 1, 1, 0, 2, .null, []) :: (40, 3, 18, 5, 17, .null, []) :: (43, 2, 1, 4, 0, .null, []) :: (45, 1, 21, 0, 0, .null, []) :: (46, 1, 1, 0, 2, .null, []) :: (47, 3, 18, 5, 6, .null, []) :: (50, 1, 10, 0, 2, .null, []) :: (51, 1, 1, 0, 2, .null, []) :: (52, 3, 18, 5, 18, .null, []) :: (55, 1, 7, 0, 2, .null, []) :: (56, 1, 11, 0, 0, .null, []) :: (57, 3, 12, 64, 4, .null, []) :: (60, 1, 0, 0, 0, .int 1, []) :: (61, 3, 14, 65, 0, .null, []) :: []
def qM_incomeOf_0 : List CE := (0, 1, 1, 0, 2, .null, []) :: (1, 1, 0, 0, 0, .int 0, []) :: (2, 3, 37, 111, 2, .null, [(0, 5)]) :: (5, 1, 0, 0, 0, .long 0, []) :: (6, 1, 3, 2, 0, .null, []) :: (7, 1, 0, 0, 0, .int 0, []) :: (8, 2, 2, 4, 0, .null, []) :: qM_incomeOf_10
def qM_income_26 : List CE := (26, 1, 1, 0, 2, .null, []) :: (27, 1, 1, 1, 0, .null, []) :: (28, 3, 37, 125, 2, .null, [(0, 5)]) :: (31, 1, 3, 3, 0, .null, []) :: (32, 1, 1, 3, 1, .null, []) :: (33, 1, 1, 0, 2, .null, []) :: (34, 3, 18, 5, 18, .null, []) :: (37, 1, 1, 2, 0, .null, []) :: (38, 3, 28, 113, 3, .null, []) :: (41, 1, 31, 0, 0, .null, []) :: []
def qM_income_22 : List CE := (22, 3, 0, 0, 0, .long (-1), []) :: (25, 1, 31, 0, 0, .null, []) :: []
def qM_income_0 : List CE := (0, 1, 1, 1, 0, .null, []) :: (1, 1, 10, 0, 2, .null, []) :: (2, 1, 0, 0, 0, .long 0, []) :: (3, 3, 0, 0, 0, .long 3, []) :: (6, 3, 28, 86, 3, .null, []) :: (9, 3, 12, 22, 0, .null, []) :: (12, 1, 1, 2, 0, .null, []) :: (13, 1, 10, 0, 2, .null, []) :: (14, 1, 0, 0, 0, .long 0, []) :: (15, 1, 0, 0, 0, .long 1, []) :: (16, 3, 28, 86, 3, .null, []) :: (19, 3, 12, 26, 1, .null, []) :: qM_income_22
def qM_best_105 : List CE := (105, 1, 1, 0, 2, .null, []) :: (106, 3, 18, 5, 2, .null, []) :: (109, 1, 1, 1, 0, .null, []) :: (110, 1, 1, 2, 0, .null, []) :: (111, 1, 24, 0, 0, .null, []) :: (112, 1, 1, 3, 0, .null, []) :: (113, 1, 30, 0, 0, .null, []) :: []
def qM_best_97 : List CE := (97, 2, 3, 4, 0, .null, []) :: (99, 3, 4, 6, 0, .int 1, []) :: (102, 3, 14, 40, 0, .null, []) :: []
def qM_best_95 : List CE := (95, 2, 1, 4, 1, .null, []) :: qM_best_97
def qM_best_81 : List CE := (81, 1, 2, 3, 0, .null, []) :: (82, 2, 1, 7, 1, .null, []) :: (84, 2, 1, 4, 1, .null, []) :: (86, 1, 11, 0, 0, .null, []) :: (87, 3, 12, 95, 5, .null, []) :: (90, 2, 1, 7, 1, .null, []) :: (92, 3, 14, 97, 0, .null, []) :: []
def qM_best_80 : List CE := (80, 1, 1, 3, 0, .null, []) :: qM_best_81
def qM_best_40 : List CE := (40, 2, 1, 6, 0, .null, []) :: (42, 2, 0, 0, 0, .int 100, []) :: (44, 3, 13, 105, 3, .null, []) :: (47, 1, 1, 0, 2, .null, []) :: (48, 3, 18, 5, 2, .null, []) :: (51, 1, 1, 1, 0, .null, []) :: (52, 2, 1, 6, 0, .null, []) :: (54, 1, 24, 0, 0, .null, []) :: (55, 1, 1, 0, 2, .null, []) :: (56, 1, 1, 0, 2, .null, []) :: (57, 3, 18, 5, 3, .null, []) :: (60, 1, 1, 1, 0, .null, []) :: (61, 1, 20, 0, 0, .null, []) :: (62, 3, 37, 125, 2, .null, [(0, 5)]) :: (65, 2, 3, 7, 0, .null, []) :: (67, 2, 1, 7, 1, .null, []) :: (69, 2, 1, 4, 1, .null, []) :: (71, 1, 11, 0, 0, .null, []) :: (72, 3, 12, 80, 5, .null, []) :: (75, 2, 1, 6, 0, .null, []) :: (77, 3, 14, 81, 0, .null, []) :: []
def qM_best_23 : List CE := (23, 1, 1, 0, 2, .null, []) :: (24, 3, 18, 5, 2, .null, []) :: (27, 1, 1, 1, 0, .null, []) :: (28, 1, 20, 0, 0, .null, []) :: (29, 1, 2, 2, 0, .null, []) :: (30, 1, 0, 0, 0, .int 0, []) :: (31, 1, 2, 3, 0, .null, []) :: (32, 3, 0, 0, 0, .long (-1), []) :: (35, 2, 3, 4, 0, .null, []) :: (37, 1, 0, 0, 0, .int 0, []) :: (38, 2, 2, 6, 0, .null, []) :: qM_best_40
def qM_best_10 : List CE := (10, 1, 1, 0, 2, .null, []) :: (11, 3, 18, 5, 1, .null, []) :: (14, 1, 1, 1, 0, .null, []) :: (15, 1, 20, 0, 0, .null, []) :: (16, 1, 0, 0, 0, .int 1, []) :: (17, 3, 13, 23, 0, .null, []) :: (20, 2, 0, 0, 0, .int (-2), []) :: (22, 1, 30, 0, 0, .null, []) :: []
def qM_best_0 : List CE := (0, 1, 1, 0, 2, .null, []) :: (1, 1, 1, 1, 0, .null, []) :: (2, 3, 37, 87, 2, .null, [(0, 5)]) :: (5, 3, 12, 10, 1, .null, []) :: (8, 1, 0, 0, 0, .int (-1), []) :: (9, 1, 30, 0, 0, .null, []) :: []
def qM_rests_332 : List CE := (332, 1, 30, 0, 0, .null, []) :: []
def qM_rests_330 : List CE := (330, 2, 1, 7, 0, .null, []) :: qM_rests_332
def qM_rests_321 : List CE := (321, 1, 1, 3, 0, .null, []) :: (322, 3, 12, 330, 1, .null, []) :: (325, 2, 1, 6, 0, .null, []) :: (327, 3, 14, 332, 0, .null, []) :: []
def qM_rests_313 : List CE := (313, 2, 2, 7, 0, .null, []) :: (315, 3, 4, 8, 0, .int (-1), []) :: (318, 3, 14, 180, 0, .null, []) :: []
def qM_rests_311 : List CE := (311, 2, 1, 7, 0, .null, []) :: qM_rests_313
def qM_rests_282 : List CE := (282, 1, 5, 0, 0, .null, []) :: (283, 2, 2, 6, 0, .null, []) :: (285, 2, 1, 9, 0, .null, []) :: (287, 3, 12, 311, 0, .null, []) :: (290, 3, 0, 0, 0, .int 1100, []) :: (293, 2, 1, 8, 0, .null, []) :: (295, 2, 0, 0, 0, .int 10, []) :: (297, 1, 6, 0, 0, .null, []) :: (298, 1, 5, 0, 2, .null, []) :: (299, 2, 0, 0, 0, .int 11, []) :: (301, 2, 1, 8, 0, .null, []) :: (303, 2, 0, 0, 0, .int 10, []) :: (305, 1, 6, 0, 1, .null, []) :: (306, 1, 5, 0, 2, .null, []) :: (307, 1, 5, 0, 0, .null, []) :: (308, 3, 14, 313, 0, .null, []) :: []
def qM_rests_281 : List CE := (281, 1, 0, 0, 0, .int 0, []) :: qM_rests_282
def qM_rests_270 : List CE := (270, 2, 1, 6, 0, .null, []) :: (272, 2, 1, 9, 0, .null, []) :: (274, 3, 12, 281, 0, .null, []) :: (277, 1, 0, 0, 0, .int 1, []) :: (278, 3, 14, 282, 0, .null, []) :: []
def qM_rests_262 : List CE := (262, 2, 2, 9, 0, .null, []) :: (264, 3, 4, 10, 0, .int 1, []) :: (267, 3, 14, 191, 0, .null, []) :: []
def qM_rests_261 : List CE := (261, 1, 0, 0, 0, .int 0, []) :: qM_rests_262
def qM_rests_191 : List CE := (191, 2, 1, 10, 0, .null, []) :: (193, 2, 0, 0, 0, .int 10, []) :: (195, 3, 13, 270, 3, .null, []) :: (198, 2, 1, 9, 0, .null, []) :: (200, 3, 12, 261, 0, .null, []) :: (203, 1, 1, 0, 2, .null, []) :: (204, 3, 18, 5, 24, .null, []) :: (207, 2, 0, 0, 0, .int 10, []) :: (209, 2, 1, 10, 0, .null, []) :: (211, 1, 5, 0, 2, .null, []) :: (212, 2, 1, 8, 0, .null, []) :: (214, 2, 0, 0, 0, .int 10, []) :: (216, 1, 6, 0, 1, .null, []) :: (217, 1, 5, 0, 0, .null, []) :: (218, 1, 21, 0, 0, .null, []) :: (219, 1, 1, 0, 2, .null, []) :: (220, 3, 18, 5, 24, .null, []) :: (223, 2, 1, 8, 0, .null, []) :: (225, 1, 21, 0, 0, .null, []) :: (226, 1, 11, 0, 0, .null, []) :: (227, 3, 12, 261, 4, .null, []) :: (230, 1, 1, 0, 2, .null, []) :: (231, 3, 18, 5, 25, .null, []) :: (234, 2, 1, 8, 0, .null, []) :: (236, 2, 0, 0, 0, .int 10, []) :: (238, 1, 6, 0, 0, .null, []) :: (239, 2, 0, 0, 0, .int 10, []) :: (241, 1, 5, 0, 2, .null, []) :: (242, 2, 1, 10, 0, .null, []) :: (244, 1, 5, 0, 0, .null, []) :: (245, 1, 21, 0, 0, .null, []) :: (246, 1, 1, 0, 2, .null, []) :: (247, 3, 18, 5, 25, .null, []) :: (250, 2, 1, 8, 0, .null, []) :: (252, 1, 21, 0, 0, .null, []) :: (253, 1, 11, 0, 0, .null, []) :: (254, 3, 12, 261, 4, .null, []) :: (257, 1, 0, 0, 0, .int 1, []) :: (258, 3, 14, 262, 0, .null, []) :: []
def qM_rests_180 : List CE := (180, 2, 1, 8, 0, .null, []) :: (182, 3, 12, 321, 2, .null, []) :: (185, 1, 0, 0, 0, .int 1, []) :: (186, 2, 2, 9, 0, .null, []) :: (188, 1, 0, 0, 0, .int 0, []) :: (189, 2, 2, 10, 0, .null, []) :: qM_rests_191
def qM_rests_153 : List CE := (153, 1, 1, 0, 2, .null, []) :: (154, 3, 18, 5, 2, .null, []) :: (157, 1, 1, 1, 0, .null, []) :: (158, 2, 1, 4, 0, .null, []) :: (160, 1, 24, 0, 0, .null, []) :: (161, 1, 1, 0, 2, .null, []) :: (162, 3, 18, 5, 2, .null, []) :: (165, 1, 1, 2, 0, .null, []) :: (166, 2, 1, 5, 0, .null, []) :: (168, 1, 24, 0, 0, .null, []) :: (169, 1, 0, 0, 0, .int 0, []) :: (170, 2, 2, 6, 0, .null, []) :: (172, 2, 0, 0, 0, .int (-4), []) :: (174, 2, 2, 7, 0, .null, []) :: (176, 2, 0, 0, 0, .int 99, []) :: (178, 2, 2, 8, 0, .null, []) :: qM_rests_180
def qM_rests_78 : List CE := (78, 2, 1, 6, 0, .null, []) :: (80, 2, 0, 0, 0, .int 100, []) :: (82, 3, 13, 153, 3, .null, []) :: (85, 1, 1, 0, 2, .null, []) :: (86, 3, 18, 5, 2, .null, []) :: (89, 1, 1, 1, 0, .null, []) :: (90, 2, 0, 0, 0, .int 11, []) :: (92, 2, 1, 6, 0, .null, []) :: (94, 2, 0, 0, 0, .int 10, []) :: (96, 1, 6, 0, 0, .null, []) :: (97, 1, 5, 0, 2, .null, []) :: (98, 1, 24, 0, 0, .null, []) :: (99, 1, 1, 0, 2, .null, []) :: (100, 3, 18, 5, 2, .null, []) :: (103, 1, 1, 2, 0, .null, []) :: (104, 2, 0, 0, 0, .int 11, []) :: (106, 2, 1, 6, 0, .null, []) :: (108, 2, 0, 0, 0, .int 10, []) :: (110, 1, 6, 0, 1, .null, []) :: (111, 1, 5, 0, 2, .null, []) :: (112, 1, 24, 0, 0, .null, []) :: (113, 1, 1, 0, 2, .null, []) :: (114, 3, 18, 5, 24, .null, []) :: (117, 2, 1, 6, 0, .null, []) :: (119, 1, 1, 0, 2, .null, []) :: (120, 1, 1, 0, 2, .null, []) :: (121, 3, 18, 5, 3, .null, []) :: (124, 1, 1, 1, 0, .null, []) :: (125, 1, 20, 0, 0, .null, []) :: (126, 3, 37, 125, 2, .null, [(0, 5)]) :: (129, 1, 25, 0, 0, .null, []) :: (130, 1, 1, 0, 2, .null, []) :: (131, 3, 18, 5, 25, .null, []) :: (134, 2, 1, 6, 0, .null, []) :: (136, 1, 1, 0, 2, .null, []) :: (137, 1, 1, 0, 2, .null, []) :: (138, 3, 18, 5, 3, .null, []) :: (141, 1, 1, 2, 0, .null, []) :: (142, 1, 20, 0, 0, .null, []) :: (143, 3, 37, 125, 2, .null, [(0, 5)]) :: (146, 1, 25, 0, 0, .null, []) :: (147, 3, 4, 6, 0, .int 1, []) :: (150, 3, 14, 78, 0, .null, []) :: []
def qM_rests_59 : List CE := (59, 1, 1, 0, 2, .null, []) :: (60, 3, 18, 5, 2, .null, []) :: (63, 1, 1, 1, 0, .null, []) :: (64, 1, 20, 0, 0, .null, []) :: (65, 2, 2, 4, 0, .null, []) :: (67, 1, 1, 0, 2, .null, []) :: (68, 3, 18, 5, 2, .null, []) :: (71, 1, 1, 2, 0, .null, []) :: (72, 1, 20, 0, 0, .null, []) :: (73, 2, 2, 5, 0, .null, []) :: (75, 1, 0, 0, 0, .int 0, []) :: (76, 2, 2, 6, 0, .null, []) :: qM_rests_78
def qM_rests_56 : List CE := (56, 2, 0, 0, 0, .int (-2), []) :: (58, 1, 30, 0, 0, .null, []) :: []
def qM_rests_21 : List CE := (21, 1, 1, 0, 2, .null, []) :: (22, 3, 18, 5, 1, .null, []) :: (25, 1, 1, 1, 0, .null, []) :: (26, 1, 20, 0, 0, .null, []) :: (27, 1, 0, 0, 0, .int 1, []) :: (28, 3, 13, 56, 1, .null, []) :: (31, 1, 1, 0, 2, .null, []) :: (32, 3, 18, 5, 1, .null, []) :: (35, 1, 1, 2, 0, .null, []) :: (36, 1, 20, 0, 0, .null, []) :: (37, 1, 0, 0, 0, .int 1, []) :: (38, 3, 13, 56, 1, .null, []) :: (41, 1, 1, 0, 2, .null, []) :: (42, 3, 18, 5, 3, .null, []) :: (45, 1, 1, 1, 0, .null, []) :: (46, 1, 20, 0, 0, .null, []) :: (47, 1, 1, 0, 2, .null, []) :: (48, 3, 18, 5, 3, .null, []) :: (51, 1, 1, 2, 0, .null, []) :: (52, 1, 20, 0, 0, .null, []) :: (53, 3, 13, 59, 1, .null, []) :: qM_rests_56
def qM_rests_19 : List CE := (19, 1, 0, 0, 0, .int (-1), []) :: (20, 1, 30, 0, 0, .null, []) :: []
def qM_rests_0 : List CE := (0, 1, 1, 0, 2, .null, []) :: (1, 1, 1, 1, 0, .null, []) :: (2, 1, 1, 2, 0, .null, []) :: (3, 3, 37, 88, 3, .null, [(0, 5)]) :: (6, 3, 12, 19, 0, .null, []) :: (9, 1, 1, 3, 0, .null, []) :: (10, 1, 10, 0, 2, .null, []) :: (11, 1, 0, 0, 0, .long 0, []) :: (12, 1, 0, 0, 0, .long 1, []) :: (13, 3, 28, 86, 3, .null, []) :: (16, 3, 12, 21, 1, .null, []) :: qM_rests_19
def qM_bought_221 : List CE := (221, 1, 1, 0, 2, .null, []) :: (222, 1, 0, 0, 0, .int 0, []) :: (223, 3, 19, 5, 8, .int 0, []) :: (226, 2, 1, 5, 0, .null, []) :: (228, 1, 30, 0, 0, .null, []) :: []
def qM_bought_215 : List CE := (215, 3, 4, 7, 0, .int 1, []) :: (218, 3, 14, 110, 0, .null, []) :: []
def qM_bought_213 : List CE := (213, 2, 2, 6, 0, .null, []) :: qM_bought_215
def qM_bought_211 : List CE := (211, 2, 1, 6, 0, .null, []) :: qM_bought_213
def qM_bought_196 : List CE := (196, 2, 2, 5, 0, .null, []) :: (198, 2, 1, 8, 0, .null, []) :: (200, 3, 12, 211, 0, .null, []) :: (203, 2, 1, 7, 0, .null, []) :: (205, 3, 28, 101, 1, .null, []) :: (208, 3, 14, 213, 0, .null, []) :: []
def qM_bought_194 : List CE := (194, 2, 1, 5, 0, .null, []) :: qM_bought_196
def qM_bought_182 : List CE := (182, 2, 2, 8, 0, .null, []) :: (184, 2, 1, 8, 0, .null, []) :: (186, 3, 12, 194, 0, .null, []) :: (189, 2, 1, 7, 0, .null, []) :: (191, 3, 14, 196, 0, .null, []) :: []
def qM_bought_181 : List CE := (181, 1, 0, 0, 0, .int 0, []) :: qM_bought_182
def qM_bought_110 : List CE := (110, 2, 1, 7, 0, .null, []) :: (112, 1, 0, 0, 0, .int 1, []) :: (113, 1, 1, 0, 2, .null, []) :: (114, 3, 18, 5, 0, .null, []) :: (117, 1, 5, 0, 6, .null, []) :: (118, 3, 13, 221, 3, .null, []) :: (121, 2, 1, 7, 0, .null, []) :: (123, 2, 1, 4, 0, .null, []) :: (125, 1, 0, 0, 0, .int (-1), []) :: (126, 1, 5, 0, 5, .null, []) :: (127, 1, 5, 0, 3, .null, []) :: (128, 3, 12, 215, 1, .null, []) :: (131, 2, 1, 7, 0, .null, []) :: (133, 3, 28, 101, 1, .null, []) :: (136, 2, 1, 6, 0, .null, []) :: (138, 3, 13, 215, 3, .null, []) :: (141, 1, 1, 0, 2, .null, []) :: (142, 2, 1, 7, 0, .null, []) :: (144, 3, 19, 5, 8, .int 0, []) :: (147, 1, 1, 0, 2, .null, []) :: (148, 1, 0, 0, 0, .int 0, []) :: (149, 3, 37, 111, 2, .null, [(0, 5)]) :: (152, 1, 1, 0, 2, .null, []) :: (153, 1, 1, 1, 0, .null, []) :: (154, 3, 37, 114, 2, .null, [(0, 5)]) :: (157, 3, 12, 181, 0, .null, []) :: (160, 1, 1, 0, 2, .null, []) :: (161, 3, 18, 5, 17, .null, []) :: (164, 1, 1, 1, 0, .null, []) :: (165, 1, 21, 0, 0, .null, []) :: (166, 1, 1, 2, 0, .null, []) :: (167, 1, 10, 0, 2, .null, []) :: (168, 1, 1, 0, 2, .null, []) :: (169, 3, 18, 5, 18, .null, []) :: (172, 1, 7, 0, 2, .null, []) :: (173, 1, 11, 0, 0, .null, []) :: (174, 3, 12, 181, 4, .null, []) :: (177, 1, 0, 0, 0, .int 1, []) :: (178, 3, 14, 182, 0, .null, []) :: []
def qM_bought_94 : List CE := (94, 1, 1, 0, 2, .null, []) :: (95, 1, 1, 3, 0, .null, []) :: (96, 3, 19, 5, 20, .int 0, []) :: (99, 2, 0, 0, 0, .int (-4), []) :: (101, 2, 2, 5, 0, .null, []) :: (103, 2, 0, 0, 0, .int 9, []) :: (105, 2, 2, 6, 0, .null, []) :: (107, 1, 0, 0, 0, .int 0, []) :: (108, 2, 2, 7, 0, .null, []) :: qM_bought_110
def qM_bought_85 : List CE := (85, 1, 5, 0, 4, .null, []) :: (86, 2, 2, 4, 0, .null, []) :: (88, 3, 4, 5, 0, .int 1, []) :: (91, 3, 14, 51, 0, .null, []) :: []
def qM_bought_81 : List CE := (81, 1, 0, 0, 0, .int 1, []) :: (82, 2, 1, 5, 0, .null, []) :: (84, 1, 5, 0, 6, .null, []) :: qM_bought_85
def qM_bought_77 : List CE := (77, 1, 0, 0, 0, .int 0, []) :: (78, 3, 14, 85, 0, .null, []) :: []
def qM_bought_51 : List CE := (51, 2, 1, 5, 0, .null, []) :: (53, 1, 1, 0, 2, .null, []) :: (54, 3, 18, 5, 0, .null, []) :: (57, 3, 13, 94, 3, .null, []) :: (60, 2, 1, 4, 0, .null, []) :: (62, 2, 1, 5, 0, .null, []) :: (64, 1, 1, 1, 0, .null, []) :: (65, 3, 13, 77, 0, .null, []) :: (68, 1, 1, 0, 2, .null, []) :: (69, 2, 1, 5, 0, .null, []) :: (71, 3, 37, 97, 2, .null, [(0, 5)]) :: (74, 3, 12, 81, 0, .null, []) :: qM_bought_77
def qM_bought_45 : List CE := (45, 1, 0, 0, 0, .int 0, []) :: (46, 2, 2, 4, 0, .null, []) :: (48, 1, 0, 0, 0, .int 0, []) :: (49, 2, 2, 5, 0, .null, []) :: qM_bought_51
def qM_bought_34 : List CE := (34, 1, 1, 0, 2, .null, []) :: (35, 1, 1, 1, 0, .null, []) :: (36, 3, 37, 97, 2, .null, [(0, 5)]) :: (39, 3, 12, 45, 0, .null, []) :: (42, 2, 0, 0, 0, .int (-2), []) :: (44, 1, 30, 0, 0, .null, []) :: []
def qM_bought_32 : List CE := (32, 1, 0, 0, 0, .int (-1), []) :: (33, 1, 30, 0, 0, .null, []) :: []
def qM_bought_0 : List CE := (0, 1, 1, 0, 2, .null, []) :: (1, 1, 1, 1, 0, .null, []) :: (2, 3, 37, 87, 2, .null, [(0, 5)]) :: (5, 3, 12, 32, 0, .null, []) :: (8, 1, 1, 2, 0, .null, []) :: (9, 1, 10, 0, 2, .null, []) :: (10, 1, 0, 0, 0, .long 0, []) :: (11, 3, 0, 0, 0, .long 99, []) :: (14, 3, 28, 86, 3, .null, []) :: (17, 3, 12, 32, 0, .null, []) :: (20, 1, 1, 3, 0, .null, []) :: (21, 1, 10, 0, 2, .null, []) :: (22, 1, 0, 0, 0, .long 0, []) :: (23, 3, 0, 0, 0, .long 99, []) :: (26, 3, 28, 86, 3, .null, []) :: (29, 3, 12, 34, 1, .null, []) :: qM_bought_32
def qM_lay_25 : List CE := (25, 1, 1, 2, 0, .null, []) :: (26, 1, 1, 1, 2, .null, []) :: (27, 1, 27, 0, 0, .null, []) :: (28, 1, 5, 0, 0, .null, []) :: (29, 1, 30, 0, 0, .null, []) :: []
def qM_lay_2 : List CE := (2, 1, 1, 3, 0, .null, []) :: (3, 1, 1, 1, 2, .null, []) :: (4, 1, 27, 0, 0, .null, []) :: (5, 3, 13, 25, 3, .null, []) :: (8, 1, 1, 0, 2, .null, []) :: (9, 3, 18, 5, 26, .null, []) :: (12, 1, 1, 2, 0, .null, []) :: (13, 1, 1, 3, 0, .null, []) :: (14, 1, 5, 0, 0, .null, []) :: (15, 1, 1, 1, 2, .null, []) :: (16, 1, 1, 3, 0, .null, []) :: (17, 1, 20, 0, 0, .null, []) :: (18, 1, 24, 0, 0, .null, []) :: (19, 3, 4, 3, 0, .int 1, []) :: (22, 3, 14, 2, 0, .null, []) :: []
def qM_lay_0 : List CE := (0, 1, 0, 0, 0, .int 0, []) :: (1, 1, 2, 3, 0, .null, []) :: qM_lay_2
def qM_gives_25 : List CE := (25, 1, 1, 1, 0, .null, []) :: (26, 1, 1, 2, 2, .null, []) :: (27, 1, 27, 0, 0, .null, []) :: (28, 1, 5, 0, 0, .null, []) :: (29, 1, 30, 0, 0, .null, []) :: []
def qM_gives_2 : List CE := (2, 1, 1, 3, 0, .null, []) :: (3, 1, 1, 2, 2, .null, []) :: (4, 1, 27, 0, 0, .null, []) :: (5, 3, 13, 25, 3, .null, []) :: (8, 1, 1, 2, 2, .null, []) :: (9, 1, 1, 3, 0, .null, []) :: (10, 1, 1, 0, 2, .null, []) :: (11, 3, 18, 5, 26, .null, []) :: (14, 1, 1, 1, 0, .null, []) :: (15, 1, 1, 3, 0, .null, []) :: (16, 1, 5, 0, 0, .null, []) :: (17, 1, 20, 0, 0, .null, []) :: (18, 1, 24, 0, 0, .null, []) :: (19, 3, 4, 3, 0, .int 1, []) :: (22, 3, 14, 2, 0, .null, []) :: []
def qM_gives_0 : List CE := (0, 1, 0, 0, 0, .int 0, []) :: (1, 1, 2, 3, 0, .null, []) :: qM_gives_2
def qM_image_0 : List CE := (0, 1, 1, 0, 2, .null, []) :: (1, 1, 1, 0, 2, .null, []) :: (2, 3, 18, 5, 1, .null, []) :: (5, 1, 0, 0, 0, .int 0, []) :: (6, 3, 37, 130, 3, .null, [(0, 5)]) :: (9, 1, 2, 1, 0, .null, []) :: (10, 1, 1, 0, 2, .null, []) :: (11, 1, 1, 0, 2, .null, []) :: (12, 3, 18, 5, 2, .null, []) :: (15, 1, 1, 1, 0, .null, []) :: (16, 3, 37, 130, 3, .null, [(0, 5)]) :: (19, 1, 2, 1, 0, .null, []) :: (20, 1, 1, 0, 2, .null, []) :: (21, 1, 1, 0, 2, .null, []) :: (22, 3, 18, 5, 3, .null, []) :: (25, 1, 1, 1, 0, .null, []) :: (26, 3, 37, 130, 3, .null, [(0, 5)]) :: (29, 1, 2, 1, 0, .null, []) :: (30, 1, 1, 0, 2, .null, []) :: (31, 1, 1, 0, 2, .null, []) :: (32, 3, 18, 5, 4, .null, []) :: (35, 1, 1, 1, 0, .null, []) :: (36, 3, 37, 130, 3, .null, [(0, 5)]) :: (39, 1, 2, 1, 0, .null, []) :: (40, 1, 1, 0, 2, .null, []) :: (41, 1, 1, 0, 2, .null, []) :: (42, 3, 18, 5, 5, .null, []) :: (45, 1, 1, 1, 0, .null, []) :: (46, 3, 37, 130, 3, .null, [(0, 5)]) :: (49, 1, 2, 1, 0, .null, []) :: (50, 1, 1, 0, 2, .null, []) :: (51, 3, 18, 5, 26, .null, []) :: (54, 1, 1, 1, 0, .null, []) :: (55, 1, 1, 0, 2, .null, []) :: (56, 3, 18, 5, 0, .null, []) :: (59, 1, 24, 0, 0, .null, []) :: (60, 1, 1, 0, 2, .null, []) :: (61, 3, 18, 5, 26, .null, []) :: (64, 1, 1, 1, 0, .null, []) :: (65, 1, 0, 0, 0, .int 1, []) :: (66, 1, 5, 0, 0, .null, []) :: (67, 1, 1, 0, 2, .null, []) :: (68, 3, 18, 5, 6, .null, []) :: (71, 1, 24, 0, 0, .null, []) :: (72, 1, 1, 0, 2, .null, []) :: (73, 3, 18, 5, 26, .null, []) :: (76, 1, 1, 1, 0, .null, []) :: (77, 1, 0, 0, 0, .int 2, []) :: (78, 1, 5, 0, 0, .null, []) :: (79, 1, 1, 0, 2, .null, []) :: (80, 3, 18, 5, 7, .null, []) :: (83, 1, 24, 0, 0, .null, []) :: (84, 1, 1, 0, 2, .null, []) :: (85, 1, 0, 0, 0, .int 1, []) :: (86, 3, 19, 5, 27, .int 1, []) :: (89, 1, 0, 0, 0, .int 1, []) :: (90, 1, 30, 0, 0, .null, []) :: []
def qM_restore_10 : List CE := (10, 1, 1, 0, 2, .null, []) :: (11, 1, 0, 0, 0, .int 0, []) :: (12, 1, 1, 0, 2, .null, []) :: (13, 3, 18, 5, 1, .null, []) :: (16, 3, 37, 131, 3, .null, [(0, 5)]) :: (19, 1, 2, 1, 0, .null, []) :: (20, 1, 1, 0, 2, .null, []) :: (21, 1, 1, 1, 0, .null, []) :: (22, 1, 1, 0, 2, .null, []) :: (23, 3, 18, 5, 2, .null, []) :: (26, 3, 37, 131, 3, .null, [(0, 5)]) :: (29, 1, 2, 1, 0, .null, []) :: (30, 1, 1, 0, 2, .null, []) :: (31, 1, 1, 1, 0, .null, []) :: (32, 1, 1, 0, 2, .null, []) :: (33, 3, 18, 5, 3, .null, []) :: (36, 3, 37, 131, 3, .null, [(0, 5)]) :: (39, 1, 2, 1, 0, .null, []) :: (40, 1, 1, 0, 2, .null, []) :: (41, 1, 1, 1, 0, .null, []) :: (42, 1, 1, 0, 2, .null, []) :: (43, 3, 18, 5, 4, .null, []) :: (46, 3, 37, 131, 3, .null, [(0, 5)]) :: (49, 1, 2, 1, 0, .null, []) :: (50, 1, 1, 0, 2, .null, []) :: (51, 1, 1, 1, 0, .null, []) :: (52, 1, 1, 0, 2, .null, []) :: (53, 3, 18, 5, 5, .null, []) :: (56, 3, 37, 131, 3, .null, [(0, 5)]) :: (59, 1, 2, 1, 0, .null, []) :: (60, 1, 1, 0, 2, .null, []) :: (61, 1, 1, 0, 2, .null, []) :: (62, 3, 18, 5, 26, .null, []) :: (65, 1, 1, 1, 0, .null, []) :: (66, 1, 20, 0, 0, .null, []) :: (67, 3, 19, 5, 0, .int 0, []) :: (70, 1, 1, 0, 2, .null, []) :: (71, 1, 1, 0, 2, .null, []) :: (72, 3, 18, 5, 26, .null, []) :: (75, 1, 1, 1, 0, .null, []) :: (76, 1, 0, 0, 0, .int 1, []) :: (77, 1, 5, 0, 0, .null, []) :: (78, 1, 20, 0, 0, .null, []) :: (79, 3, 19, 5, 6, .int 0, []) :: (82, 1, 1, 0, 2, .null, []) :: (83, 1, 1, 0, 2, .null, []) :: (84, 3, 18, 5, 26, .null, []) :: (87, 1, 1, 1, 0, .null, []) :: (88, 1, 0, 0, 0, .int 2, []) :: (89, 1, 5, 0, 0, .null, []) :: (90, 1, 20, 0, 0, .null, []) :: (91, 3, 19, 5, 7, .int 0, []) :: (94, 1, 0, 0, 0, .int 1, []) :: (95, 1, 30, 0, 0, .null, []) :: []
def qM_restore_0 : List CE := (0, 1, 1, 0, 2, .null, []) :: (1, 3, 18, 5, 27, .null, []) :: (4, 3, 12, 10, 1, .null, []) :: (7, 2, 0, 0, 0, .int (-4), []) :: (9, 1, 30, 0, 0, .null, []) :: []
def qM_isSheet_0 : List CE := (0, 1, 1, 0, 0, .null, []) :: (1, 1, 10, 0, 2, .null, []) :: (2, 1, 0, 0, 0, .long 0, []) :: (3, 3, 0, 0, 0, .long 3, []) :: (6, 3, 28, 86, 3, .null, []) :: (9, 1, 30, 0, 1, .null, []) :: []
def qM_isLane_0 : List CE := (0, 1, 1, 0, 0, .null, []) :: (1, 1, 10, 0, 2, .null, []) :: (2, 1, 0, 0, 0, .long 0, []) :: (3, 3, 0, 0, 0, .long 2, []) :: (6, 3, 28, 86, 3, .null, []) :: (9, 1, 30, 0, 1, .null, []) :: []
def qM_why_52 : List CE := (52, 1, 30, 0, 0, .null, []) :: []
def qM_why_51 : List CE := (51, 1, 0, 0, 0, .int 0, []) :: qM_why_52
def qM_why_46 : List CE := (46, 2, 0, 0, 0, .int (-13), []) :: (48, 3, 14, 52, 0, .null, []) :: []
def qM_why_25 : List CE := (25, 1, 1, 3, 0, .null, []) :: (26, 3, 12, 46, 2, .null, []) :: (29, 1, 1, 3, 0, .null, []) :: (30, 1, 10, 0, 2, .null, []) :: (31, 2, 1, 4, 0, .null, []) :: (33, 1, 10, 0, 2, .null, []) :: (34, 1, 7, 0, 0, .null, []) :: (35, 1, 1, 0, 2, .null, []) :: (36, 3, 18, 5, 29, .null, []) :: (39, 1, 1, 1, 0, .null, []) :: (40, 1, 20, 0, 0, .null, []) :: (41, 1, 10, 0, 2, .null, []) :: (42, 1, 11, 0, 0, .null, []) :: (43, 3, 12, 51, 5, .null, []) :: qM_why_46
def qM_why_12 : List CE := (12, 1, 1, 0, 2, .null, []) :: (13, 3, 18, 5, 28, .null, []) :: (16, 1, 1, 1, 0, .null, []) :: (17, 1, 20, 0, 0, .null, []) :: (18, 1, 1, 2, 0, .null, []) :: (19, 3, 13, 25, 0, .null, []) :: (22, 2, 0, 0, 0, .int (-12), []) :: (24, 1, 30, 0, 0, .null, []) :: []
def qM_why_0 : List CE := (0, 1, 1, 0, 2, .null, []) :: (1, 3, 18, 5, 28, .null, []) :: (4, 1, 1, 1, 0, .null, []) :: (5, 1, 20, 0, 0, .null, []) :: (6, 3, 12, 12, 3, .null, []) :: (9, 2, 0, 0, 0, .int (-11), []) :: (11, 1, 30, 0, 0, .null, []) :: []
def qM_book_182 : List CE := (182, 2, 0, 0, 0, .int (-4), []) :: (184, 1, 30, 0, 0, .null, []) :: []
def qM_book_176 : List CE := (176, 3, 4, 6, 0, .int 1, []) :: (179, 3, 14, 137, 0, .null, []) :: []
def qM_book_137 : List CE := (137, 2, 1, 6, 0, .null, []) :: (139, 1, 1, 0, 2, .null, []) :: (140, 3, 18, 5, 0, .null, []) :: (143, 3, 13, 182, 3, .null, []) :: (146, 1, 1, 0, 2, .null, []) :: (147, 3, 18, 5, 22, .null, []) :: (150, 2, 1, 6, 0, .null, []) :: (152, 1, 20, 0, 0, .null, []) :: (153, 1, 10, 0, 2, .null, []) :: (154, 1, 1, 0, 2, .null, []) :: (155, 3, 18, 5, 30, .null, []) :: (158, 2, 1, 5, 0, .null, []) :: (160, 1, 1, 0, 2, .null, []) :: (161, 3, 18, 5, 0, .null, []) :: (164, 1, 5, 0, 0, .null, []) :: (165, 2, 1, 6, 0, .null, []) :: (167, 1, 5, 0, 0, .null, []) :: (168, 1, 21, 0, 0, .null, []) :: (169, 1, 11, 0, 0, .null, []) :: (170, 3, 12, 176, 0, .null, []) :: (173, 2, 1, 6, 0, .null, []) :: (175, 1, 30, 0, 0, .null, []) :: []
def qM_book_126 : List CE := (126, 1, 1, 0, 2, .null, []) :: (127, 1, 1, 0, 2, .null, []) :: (128, 3, 18, 5, 23, .null, []) :: (131, 3, 37, 122, 2, .null, [(0, 5)]) :: (134, 1, 0, 0, 0, .int 0, []) :: (135, 2, 2, 6, 0, .null, []) :: qM_book_137
def qM_book_93 : List CE := (93, 2, 1, 6, 0, .null, []) :: (95, 1, 1, 0, 2, .null, []) :: (96, 3, 18, 5, 0, .null, []) :: (99, 3, 13, 126, 3, .null, []) :: (102, 1, 1, 0, 2, .null, []) :: (103, 3, 18, 5, 23, .null, []) :: (106, 2, 1, 6, 0, .null, []) :: (108, 1, 1, 0, 2, .null, []) :: (109, 3, 18, 5, 30, .null, []) :: (112, 2, 1, 5, 0, .null, []) :: (114, 2, 1, 6, 0, .null, []) :: (116, 1, 5, 0, 0, .null, []) :: (117, 1, 21, 0, 0, .null, []) :: (118, 1, 10, 0, 3, .null, []) :: (119, 1, 24, 0, 0, .null, []) :: (120, 3, 4, 6, 0, .int 1, []) :: (123, 3, 14, 93, 0, .null, []) :: []
def qM_book_90 : List CE := (90, 1, 0, 0, 0, .int 0, []) :: (91, 2, 2, 6, 0, .null, []) :: qM_book_93
def qM_book_84 : List CE := (84, 3, 4, 6, 0, .int 1, []) :: (87, 3, 14, 50, 0, .null, []) :: []
def qM_book_50 : List CE := (50, 2, 1, 6, 0, .null, []) :: (52, 1, 0, 0, 0, .int 2, []) :: (53, 1, 1, 0, 2, .null, []) :: (54, 3, 18, 5, 0, .null, []) :: (57, 1, 5, 0, 2, .null, []) :: (58, 3, 13, 90, 3, .null, []) :: (61, 1, 1, 0, 2, .null, []) :: (62, 3, 18, 5, 30, .null, []) :: (65, 2, 1, 5, 0, .null, []) :: (67, 2, 1, 6, 0, .null, []) :: (69, 1, 5, 0, 0, .null, []) :: (70, 1, 21, 0, 0, .null, []) :: (71, 1, 0, 0, 0, .long 0, []) :: (72, 3, 0, 0, 0, .long 99, []) :: (75, 3, 28, 86, 3, .null, []) :: (78, 3, 12, 84, 1, .null, []) :: (81, 2, 0, 0, 0, .int (-2), []) :: (83, 1, 30, 0, 0, .null, []) :: []
def qM_book_39 : List CE := (39, 2, 0, 0, 0, .int 20, []) :: (41, 1, 1, 1, 0, .null, []) :: (42, 1, 5, 0, 2, .null, []) :: (43, 1, 1, 3, 0, .null, []) :: (44, 1, 5, 0, 0, .null, []) :: (45, 2, 2, 5, 0, .null, []) :: (47, 1, 0, 0, 0, .int 0, []) :: (48, 2, 2, 6, 0, .null, []) :: qM_book_50
def qM_book_16 : List CE := (16, 1, 1, 0, 2, .null, []) :: (17, 1, 1, 1, 0, .null, []) :: (18, 1, 1, 2, 0, .null, []) :: (19, 1, 1, 3, 0, .null, []) :: (20, 1, 0, 0, 0, .int 2, []) :: (21, 1, 1, 0, 2, .null, []) :: (22, 3, 18, 5, 0, .null, []) :: (25, 1, 5, 0, 2, .null, []) :: (26, 3, 37, 136, 5, .null, [(0, 5)]) :: (29, 2, 2, 4, 0, .null, []) :: (31, 2, 1, 4, 0, .null, []) :: (33, 3, 12, 39, 3, .null, []) :: (36, 2, 1, 4, 0, .null, []) :: (38, 1, 30, 0, 0, .null, []) :: []
def qM_book_14 : List CE := (14, 1, 0, 0, 0, .int (-1), []) :: (15, 1, 30, 0, 0, .null, []) :: []
def qM_book_0 : List CE := (0, 1, 1, 1, 0, .null, []) :: (1, 3, 28, 134, 1, .null, []) :: (4, 3, 12, 14, 0, .null, []) :: (7, 1, 1, 2, 0, .null, []) :: (8, 3, 28, 135, 1, .null, []) :: (11, 3, 12, 16, 1, .null, []) :: qM_book_14
def qM_comesTo_44 : List CE := (44, 1, 25, 0, 0, .null, []) :: (45, 1, 32, 0, 0, .null, []) :: []
def qM_comesTo_43 : List CE := (43, 1, 1, 3, 1, .null, []) :: qM_comesTo_44
def qM_comesTo_30 : List CE := (30, 2, 1, 5, 0, .null, []) :: (32, 1, 0, 0, 0, .int 1, []) :: (33, 3, 13, 43, 1, .null, []) :: (36, 1, 1, 3, 1, .null, []) :: (37, 1, 10, 0, 3, .null, []) :: (38, 1, 10, 0, 5, .null, []) :: (39, 1, 10, 0, 2, .null, []) :: (40, 3, 14, 44, 0, .null, []) :: []
def qM_comesTo_0 : List CE := (0, 1, 1, 0, 2, .null, []) :: (1, 3, 18, 5, 28, .null, []) :: (4, 1, 1, 1, 0, .null, []) :: (5, 1, 20, 0, 0, .null, []) :: (6, 2, 2, 5, 0, .null, []) :: (8, 1, 1, 0, 2, .null, []) :: (9, 3, 18, 5, 30, .null, []) :: (12, 2, 0, 0, 0, .int 20, []) :: (14, 1, 1, 1, 0, .null, []) :: (15, 1, 5, 0, 2, .null, []) :: (16, 1, 1, 2, 0, .null, []) :: (17, 1, 5, 0, 0, .null, []) :: (18, 2, 1, 5, 0, .null, []) :: (20, 3, 12, 30, 1, .null, []) :: (23, 1, 1, 3, 1, .null, []) :: (24, 1, 10, 0, 3, .null, []) :: (25, 1, 10, 0, 4, .null, []) :: (26, 1, 10, 0, 2, .null, []) :: (27, 3, 14, 44, 0, .null, []) :: []
def qM_film_72 : List CE := (72, 1, 1, 0, 2, .null, []) :: (73, 3, 18, 5, 0, .null, []) :: (76, 1, 30, 0, 0, .null, []) :: []
def qM_film_40 : List CE := (40, 2, 1, 5, 0, .null, []) :: (42, 1, 1, 0, 2, .null, []) :: (43, 3, 18, 5, 0, .null, []) :: (46, 3, 13, 72, 3, .null, []) :: (49, 1, 1, 0, 2, .null, []) :: (50, 1, 1, 1, 0, .null, []) :: (51, 1, 1, 3, 0, .null, []) :: (52, 2, 1, 5, 0, .null, []) :: (54, 1, 5, 0, 0, .null, []) :: (55, 1, 1, 0, 2, .null, []) :: (56, 3, 18, 5, 2, .null, []) :: (59, 2, 1, 5, 0, .null, []) :: (61, 1, 20, 0, 0, .null, []) :: (62, 1, 10, 0, 2, .null, []) :: (63, 3, 37, 138, 4, .null, [(0, 5)]) :: (66, 3, 4, 5, 0, .int 1, []) :: (69, 3, 14, 40, 0, .null, []) :: []
def qM_film_37 : List CE := (37, 1, 0, 0, 0, .int 0, []) :: (38, 2, 2, 5, 0, .null, []) :: qM_film_40
def qM_film_16 : List CE := (16, 1, 1, 0, 2, .null, []) :: (17, 1, 1, 1, 0, .null, []) :: (18, 1, 1, 2, 0, .null, []) :: (19, 1, 1, 3, 0, .null, []) :: (20, 1, 1, 0, 2, .null, []) :: (21, 3, 18, 5, 0, .null, []) :: (24, 3, 37, 136, 5, .null, [(0, 5)]) :: (27, 2, 2, 4, 0, .null, []) :: (29, 2, 1, 4, 0, .null, []) :: (31, 3, 12, 37, 3, .null, []) :: (34, 2, 1, 4, 0, .null, []) :: (36, 1, 30, 0, 0, .null, []) :: []
def qM_film_14 : List CE := (14, 1, 0, 0, 0, .int (-1), []) :: (15, 1, 30, 0, 0, .null, []) :: []
def qM_film_0 : List CE := (0, 1, 1, 1, 0, .null, []) :: (1, 3, 28, 134, 1, .null, []) :: (4, 3, 12, 14, 0, .null, []) :: (7, 1, 1, 2, 0, .null, []) :: (8, 3, 28, 135, 1, .null, []) :: (11, 3, 12, 16, 1, .null, []) :: qM_film_14
def qM_sheet_72 : List CE := (72, 1, 1, 3, 0, .null, []) :: (73, 1, 30, 0, 0, .null, []) :: []
def qM_sheet_46 : List CE := (46, 2, 1, 4, 0, .null, []) :: (48, 2, 0, 0, 0, .int 20, []) :: (50, 3, 13, 72, 3, .null, []) :: (53, 1, 1, 0, 2, .null, []) :: (54, 3, 18, 5, 30, .null, []) :: (57, 2, 0, 0, 0, .int 20, []) :: (59, 1, 1, 1, 0, .null, []) :: (60, 1, 5, 0, 2, .null, []) :: (61, 2, 1, 4, 0, .null, []) :: (63, 1, 5, 0, 0, .null, []) :: (64, 1, 0, 0, 0, .long 0, []) :: (65, 1, 25, 0, 0, .null, []) :: (66, 3, 4, 4, 0, .int 1, []) :: (69, 3, 14, 46, 0, .null, []) :: []
def qM_sheet_29 : List CE := (29, 1, 1, 0, 2, .null, []) :: (30, 3, 18, 5, 28, .null, []) :: (33, 1, 1, 1, 0, .null, []) :: (34, 1, 1, 2, 0, .null, []) :: (35, 1, 24, 0, 0, .null, []) :: (36, 1, 1, 0, 2, .null, []) :: (37, 3, 18, 5, 29, .null, []) :: (40, 1, 1, 1, 0, .null, []) :: (41, 1, 1, 3, 0, .null, []) :: (42, 1, 24, 0, 0, .null, []) :: (43, 1, 0, 0, 0, .int 0, []) :: (44, 2, 2, 4, 0, .null, []) :: qM_sheet_46
def qM_sheet_22 : List CE := (22, 1, 1, 3, 0, .null, []) :: (23, 3, 12, 29, 3, .null, []) :: (26, 2, 0, 0, 0, .int (-14), []) :: (28, 1, 30, 0, 0, .null, []) :: []
def qM_sheet_20 : List CE := (20, 1, 0, 0, 0, .int (-1), []) :: (21, 1, 30, 0, 0, .null, []) :: []
def qM_sheet_0 : List CE := (0, 1, 1, 1, 0, .null, []) :: (1, 3, 28, 134, 1, .null, []) :: (4, 3, 12, 20, 0, .null, []) :: (7, 1, 1, 2, 0, .null, []) :: (8, 3, 28, 135, 1, .null, []) :: (11, 3, 12, 20, 0, .null, []) :: (14, 1, 1, 3, 0, .null, []) :: (15, 2, 0, 0, 0, .int 20, []) :: (17, 3, 13, 22, 5, .null, []) :: qM_sheet_20
def qM_drop_21 : List CE := (21, 1, 1, 0, 2, .null, []) :: (22, 3, 18, 5, 28, .null, []) :: (25, 1, 1, 1, 0, .null, []) :: (26, 1, 0, 0, 0, .int (-1), []) :: (27, 1, 24, 0, 0, .null, []) :: (28, 1, 1, 0, 2, .null, []) :: (29, 3, 18, 5, 29, .null, []) :: (32, 1, 1, 1, 0, .null, []) :: (33, 1, 20, 0, 0, .null, []) :: (34, 1, 30, 0, 0, .null, []) :: []
def qM_drop_9 : List CE := (9, 1, 1, 0, 2, .null, []) :: (10, 3, 18, 5, 28, .null, []) :: (13, 1, 1, 1, 0, .null, []) :: (14, 1, 20, 0, 0, .null, []) :: (15, 3, 12, 21, 3, .null, []) :: (18, 2, 0, 0, 0, .int (-11), []) :: (20, 1, 30, 0, 0, .null, []) :: []
def qM_drop_0 : List CE := (0, 1, 1, 1, 0, .null, []) :: (1, 3, 28, 134, 1, .null, []) :: (4, 3, 12, 9, 1, .null, []) :: (7, 1, 0, 0, 0, .int (-1), []) :: (8, 1, 30, 0, 0, .null, []) :: []
def qM_item_34 : List CE := (34, 1, 1, 0, 2, .null, []) :: (35, 1, 1, 1, 0, .null, []) :: (36, 1, 1, 3, 0, .null, []) :: (37, 2, 1, 4, 1, .null, []) :: (39, 3, 37, 138, 4, .null, [(0, 5)]) :: (42, 1, 0, 0, 0, .int 1, []) :: (43, 1, 30, 0, 0, .null, []) :: []
def qM_item_16 : List CE := (16, 1, 1, 0, 2, .null, []) :: (17, 1, 1, 1, 0, .null, []) :: (18, 1, 1, 2, 0, .null, []) :: (19, 1, 1, 3, 0, .null, []) :: (20, 1, 0, 0, 0, .int 1, []) :: (21, 3, 37, 136, 5, .null, [(0, 5)]) :: (24, 2, 2, 6, 0, .null, []) :: (26, 2, 1, 6, 0, .null, []) :: (28, 3, 12, 34, 3, .null, []) :: (31, 2, 1, 6, 0, .null, []) :: (33, 1, 30, 0, 0, .null, []) :: []
def qM_item_14 : List CE := (14, 1, 0, 0, 0, .int (-1), []) :: (15, 1, 30, 0, 0, .null, []) :: []
def qM_item_0 : List CE := (0, 1, 1, 1, 0, .null, []) :: (1, 3, 28, 134, 1, .null, []) :: (4, 3, 12, 14, 0, .null, []) :: (7, 1, 1, 2, 0, .null, []) :: (8, 3, 28, 135, 1, .null, []) :: (11, 3, 12, 16, 1, .null, []) :: qM_item_14
def qM_copy_173 : List CE := (173, 2, 1, 5, 0, .null, []) :: (175, 1, 30, 0, 0, .null, []) :: []
def qM_copy_138 : List CE := (138, 2, 1, 6, 0, .null, []) :: (140, 2, 1, 5, 0, .null, []) :: (142, 3, 13, 173, 3, .null, []) :: (145, 1, 1, 0, 2, .null, []) :: (146, 3, 18, 5, 30, .null, []) :: (149, 2, 0, 0, 0, .int 20, []) :: (151, 1, 1, 3, 0, .null, []) :: (152, 1, 5, 0, 2, .null, []) :: (153, 2, 1, 4, 0, .null, []) :: (155, 1, 5, 0, 0, .null, []) :: (156, 2, 1, 6, 0, .null, []) :: (158, 1, 5, 0, 0, .null, []) :: (159, 1, 1, 0, 2, .null, []) :: (160, 3, 18, 5, 31, .null, []) :: (163, 2, 1, 6, 0, .null, []) :: (165, 1, 21, 0, 0, .null, []) :: (166, 1, 25, 0, 0, .null, []) :: (167, 3, 4, 6, 0, .int 1, []) :: (170, 3, 14, 138, 0, .null, []) :: []
def qM_copy_135 : List CE := (135, 1, 0, 0, 0, .int 0, []) :: (136, 2, 2, 6, 0, .null, []) :: qM_copy_138
def qM_copy_101 : List CE := (101, 2, 1, 6, 0, .null, []) :: (103, 2, 1, 5, 0, .null, []) :: (105, 3, 13, 135, 3, .null, []) :: (108, 1, 1, 0, 2, .null, []) :: (109, 3, 18, 5, 31, .null, []) :: (112, 2, 1, 6, 0, .null, []) :: (114, 1, 1, 0, 2, .null, []) :: (115, 3, 18, 5, 30, .null, []) :: (118, 2, 0, 0, 0, .int 20, []) :: (120, 1, 1, 1, 0, .null, []) :: (121, 1, 5, 0, 2, .null, []) :: (122, 1, 1, 2, 0, .null, []) :: (123, 1, 5, 0, 0, .null, []) :: (124, 2, 1, 6, 0, .null, []) :: (126, 1, 5, 0, 0, .null, []) :: (127, 1, 21, 0, 0, .null, []) :: (128, 1, 25, 0, 0, .null, []) :: (129, 3, 4, 6, 0, .int 1, []) :: (132, 3, 14, 101, 0, .null, []) :: []
def qM_copy_98 : List CE := (98, 1, 0, 0, 0, .int 0, []) :: (99, 2, 2, 6, 0, .null, []) :: qM_copy_101
def qM_copy_95 : List CE := (95, 2, 0, 0, 0, .int (-13), []) :: (97, 1, 30, 0, 0, .null, []) :: []
def qM_copy_55 : List CE := (55, 2, 1, 5, 0, .null, []) :: (57, 3, 12, 95, 2, .null, []) :: (60, 1, 1, 0, 2, .null, []) :: (61, 1, 1, 1, 0, .null, []) :: (62, 1, 1, 0, 2, .null, []) :: (63, 3, 18, 5, 28, .null, []) :: (66, 1, 1, 1, 0, .null, []) :: (67, 1, 20, 0, 0, .null, []) :: (68, 1, 1, 2, 0, .null, []) :: (69, 2, 1, 5, 0, .null, []) :: (71, 3, 37, 136, 5, .null, [(0, 5)]) :: (74, 3, 12, 95, 2, .null, []) :: (77, 1, 1, 0, 2, .null, []) :: (78, 1, 1, 3, 0, .null, []) :: (79, 1, 1, 0, 2, .null, []) :: (80, 3, 18, 5, 28, .null, []) :: (83, 1, 1, 3, 0, .null, []) :: (84, 1, 20, 0, 0, .null, []) :: (85, 2, 1, 4, 0, .null, []) :: (87, 2, 1, 5, 0, .null, []) :: (89, 3, 37, 136, 5, .null, [(0, 5)]) :: (92, 3, 12, 98, 3, .null, []) :: qM_copy_95
def qM_copy_37 : List CE := (37, 1, 1, 0, 2, .null, []) :: (38, 3, 18, 5, 28, .null, []) :: (41, 1, 1, 1, 0, .null, []) :: (42, 1, 20, 0, 0, .null, []) :: (43, 1, 1, 0, 2, .null, []) :: (44, 3, 18, 5, 28, .null, []) :: (47, 1, 1, 3, 0, .null, []) :: (48, 1, 20, 0, 0, .null, []) :: (49, 3, 13, 55, 0, .null, []) :: (52, 2, 0, 0, 0, .int (-12), []) :: (54, 1, 30, 0, 0, .null, []) :: []
def qM_copy_34 : List CE := (34, 2, 0, 0, 0, .int (-11), []) :: (36, 1, 30, 0, 0, .null, []) :: []
def qM_copy_16 : List CE := (16, 1, 1, 0, 2, .null, []) :: (17, 3, 18, 5, 28, .null, []) :: (20, 1, 1, 1, 0, .null, []) :: (21, 1, 20, 0, 0, .null, []) :: (22, 3, 12, 34, 2, .null, []) :: (25, 1, 1, 0, 2, .null, []) :: (26, 3, 18, 5, 28, .null, []) :: (29, 1, 1, 3, 0, .null, []) :: (30, 1, 20, 0, 0, .null, []) :: (31, 3, 12, 37, 3, .null, []) :: qM_copy_34
def qM_copy_14 : List CE := (14, 1, 0, 0, 0, .int (-1), []) :: (15, 1, 30, 0, 0, .null, []) :: []
def qM_copy_0 : List CE := (0, 1, 1, 1, 0, .null, []) :: (1, 3, 28, 134, 1, .null, []) :: (4, 3, 12, 14, 0, .null, []) :: (7, 1, 1, 3, 0, .null, []) :: (8, 3, 28, 134, 1, .null, []) :: (11, 3, 12, 16, 1, .null, []) :: qM_copy_14
def qL_law_1196 : List CE := (1196, 1, 0, 0, 0, .int 1, []) :: (1197, 1, 30, 0, 1, .null, []) :: []
def qL_law_1190 : List CE := (1190, 3, 4, 3, 0, .int 6, []) :: (1193, 3, 14, 18, 0, .null, []) :: []
def qL_law_1127 : List CE := (1127, 1, 1, 1, 2, .null, []) :: (1128, 1, 1, 0, 2, .null, []) :: (1129, 1, 1, 3, 0, .null, []) :: (1130, 1, 0, 0, 0, .int 1, []) :: (1131, 1, 5, 0, 0, .null, []) :: (1132, 1, 20, 0, 0, .null, []) :: (1133, 1, 1, 0, 2, .null, []) :: (1134, 1, 1, 3, 0, .null, []) :: (1135, 1, 0, 0, 0, .int 2, []) :: (1136, 1, 5, 0, 0, .null, []) :: (1137, 1, 20, 0, 0, .null, []) :: (1138, 1, 1, 0, 2, .null, []) :: (1139, 1, 1, 3, 0, .null, []) :: (1140, 1, 0, 0, 0, .int 3, []) :: (1141, 1, 5, 0, 0, .null, []) :: (1142, 1, 20, 0, 0, .null, []) :: (1143, 1, 1, 0, 2, .null, []) :: (1144, 1, 1, 3, 0, .null, []) :: (1145, 1, 0, 0, 0, .int 4, []) :: (1146, 1, 5, 0, 0, .null, []) :: (1147, 1, 20, 0, 0, .null, []) :: (1148, 1, 1, 0, 2, .null, []) :: (1149, 1, 1, 3, 0, .null, []) :: (1150, 1, 0, 0, 0, .int 5, []) :: (1151, 1, 5, 0, 0, .null, []) :: (1152, 1, 20, 0, 0, .null, []) :: (1153, 3, 37, 68, 6, .null, [(0, 4)]) :: (1156, 1, 1, 2, 2, .null, []) :: (1157, 1, 1, 0, 2, .null, []) :: (1158, 1, 1, 3, 0, .null, []) :: (1159, 1, 0, 0, 0, .int 1, []) :: (1160, 1, 5, 0, 0, .null, []) :: (1161, 1, 20, 0, 0, .null, []) :: (1162, 1, 1, 0, 2, .null, []) :: (1163, 1, 1, 3, 0, .null, []) :: (1164, 1, 0, 0, 0, .int 2, []) :: (1165, 1, 5, 0, 0, .null, []) :: (1166, 1, 20, 0, 0, .null, []) :: (1167, 1, 1, 0, 2, .null, []) :: (1168, 1, 1, 3, 0, .null, []) :: (1169, 1, 0, 0, 0, .int 3, []) :: (1170, 1, 5, 0, 0, .null, []) :: (1171, 1, 20, 0, 0, .null, []) :: (1172, 1, 1, 0, 2, .null, []) :: (1173, 1, 1, 3, 0, .null, []) :: (1174, 1, 0, 0, 0, .int 4, []) :: (1175, 1, 5, 0, 0, .null, []) :: (1176, 1, 20, 0, 0, .null, []) :: (1177, 1, 1, 0, 2, .null, []) :: (1178, 1, 1, 3, 0, .null, []) :: (1179, 1, 0, 0, 0, .int 5, []) :: (1180, 1, 5, 0, 0, .null, []) :: (1181, 1, 20, 0, 0, .null, []) :: (1182, 3, 37, 143, 6, .null, [(0, 5)]) :: (1185, 3, 13, 1190, 0, .null, []) :: (1188, 1, 0, 0, 0, .int 0, []) :: (1189, 1, 30, 0, 1, .null, []) :: []
def qL_law_1044 : List CE := (1044, 1, 1, 1, 2, .null, []) :: (1045, 1, 1, 0, 2, .null, []) :: (1046, 1, 1, 3, 0, .null, []) :: (1047, 1, 0, 0, 0, .int 1, []) :: (1048, 1, 5, 0, 0, .null, []) :: (1049, 1, 20, 0, 0, .null, []) :: (1050, 1, 1, 0, 2, .null, []) :: (1051, 1, 1, 3, 0, .null, []) :: (1052, 1, 0, 0, 0, .int 2, []) :: (1053, 1, 5, 0, 0, .null, []) :: (1054, 1, 20, 0, 0, .null, []) :: (1055, 1, 1, 0, 2, .null, []) :: (1056, 1, 1, 3, 0, .null, []) :: (1057, 1, 0, 0, 0, .int 3, []) :: (1058, 1, 5, 0, 0, .null, []) :: (1059, 1, 20, 0, 0, .null, []) :: (1060, 1, 1, 0, 2, .null, []) :: (1061, 1, 1, 3, 0, .null, []) :: (1062, 1, 0, 0, 0, .int 4, []) :: (1063, 1, 5, 0, 0, .null, []) :: (1064, 1, 20, 0, 0, .null, []) :: (1065, 1, 10, 0, 2, .null, []) :: (1066, 2, 0, 0, 0, .int 32, []) :: (1068, 1, 9, 0, 0, .null, []) :: (1069, 1, 1, 0, 2, .null, []) :: (1070, 1, 1, 3, 0, .null, []) :: (1071, 1, 0, 0, 0, .int 5, []) :: (1072, 1, 5, 0, 0, .null, []) :: (1073, 1, 20, 0, 0, .null, []) :: (1074, 1, 10, 0, 2, .null, []) :: (1075, 3, 0, 0, 0, .long 4294967295, []) :: (1078, 1, 7, 0, 3, .null, []) :: (1079, 1, 7, 0, 4, .null, []) :: (1080, 3, 37, 67, 5, .null, [(0, 4)]) :: (1083, 1, 1, 2, 2, .null, []) :: (1084, 1, 1, 0, 2, .null, []) :: (1085, 1, 1, 3, 0, .null, []) :: (1086, 1, 0, 0, 0, .int 1, []) :: (1087, 1, 5, 0, 0, .null, []) :: (1088, 1, 20, 0, 0, .null, []) :: (1089, 1, 1, 0, 2, .null, []) :: (1090, 1, 1, 3, 0, .null, []) :: (1091, 1, 0, 0, 0, .int 2, []) :: (1092, 1, 5, 0, 0, .null, []) :: (1093, 1, 20, 0, 0, .null, []) :: (1094, 1, 1, 0, 2, .null, []) :: (1095, 1, 1, 3, 0, .null, []) :: (1096, 1, 0, 0, 0, .int 3, []) :: (1097, 1, 5, 0, 0, .null, []) :: (1098, 1, 20, 0, 0, .null, []) :: (1099, 1, 1, 0, 2, .null, []) :: (1100, 1, 1, 3, 0, .null, []) :: (1101, 1, 0, 0, 0, .int 4, []) :: (1102, 1, 5, 0, 0, .null, []) :: (1103, 1, 20, 0, 0, .null, []) :: (1104, 1, 10, 0, 2, .null, []) :: (1105, 2, 0, 0, 0, .int 32, []) :: (1107, 1, 9, 0, 0, .null, []) :: (1108, 1, 1, 0, 2, .null, []) :: (1109, 1, 1, 3, 0, .null, []) :: (1110, 1, 0, 0, 0, .int 5, []) :: (1111, 1, 5, 0, 0, .null, []) :: (1112, 1, 20, 0, 0, .null, []) :: (1113, 1, 10, 0, 2, .null, []) :: (1114, 3, 0, 0, 0, .long 4294967295, []) :: (1117, 1, 7, 0, 3, .null, []) :: (1118, 1, 7, 0, 4, .null, []) :: (1119, 3, 37, 142, 5, .null, [(0, 5)]) :: (1122, 3, 13, 1190, 0, .null, []) :: (1125, 1, 0, 0, 0, .int 0, []) :: (1126, 1, 30, 0, 1, .null, []) :: []
def qL_law_1021 : List CE := (1021, 1, 1, 1, 2, .null, []) :: (1022, 1, 1, 0, 2, .null, []) :: (1023, 1, 1, 3, 0, .null, []) :: (1024, 1, 0, 0, 0, .int 1, []) :: (1025, 1, 5, 0, 0, .null, []) :: (1026, 1, 20, 0, 0, .null, []) :: (1027, 3, 37, 66, 2, .null, [(0, 4)]) :: (1030, 1, 1, 2, 2, .null, []) :: (1031, 1, 1, 0, 2, .null, []) :: (1032, 1, 1, 3, 0, .null, []) :: (1033, 1, 0, 0, 0, .int 1, []) :: (1034, 1, 5, 0, 0, .null, []) :: (1035, 1, 20, 0, 0, .null, []) :: (1036, 3, 37, 141, 2, .null, [(0, 5)]) :: (1039, 3, 13, 1190, 0, .null, []) :: (1042, 1, 0, 0, 0, .int 0, []) :: (1043, 1, 30, 0, 1, .null, []) :: []
def qL_law_978 : List CE := (978, 1, 1, 1, 2, .null, []) :: (979, 1, 1, 0, 2, .null, []) :: (980, 1, 1, 3, 0, .null, []) :: (981, 1, 0, 0, 0, .int 1, []) :: (982, 1, 5, 0, 0, .null, []) :: (983, 1, 20, 0, 0, .null, []) :: (984, 1, 1, 0, 2, .null, []) :: (985, 1, 1, 3, 0, .null, []) :: (986, 1, 0, 0, 0, .int 2, []) :: (987, 1, 5, 0, 0, .null, []) :: (988, 1, 20, 0, 0, .null, []) :: (989, 1, 1, 0, 2, .null, []) :: (990, 1, 1, 3, 0, .null, []) :: (991, 1, 0, 0, 0, .int 3, []) :: (992, 1, 5, 0, 0, .null, []) :: (993, 1, 20, 0, 0, .null, []) :: (994, 3, 37, 65, 4, .null, [(0, 4)]) :: (997, 1, 1, 2, 2, .null, []) :: (998, 1, 1, 0, 2, .null, []) :: (999, 1, 1, 3, 0, .null, []) :: (1000, 1, 0, 0, 0, .int 1, []) :: (1001, 1, 5, 0, 0, .null, []) :: (1002, 1, 20, 0, 0, .null, []) :: (1003, 1, 1, 0, 2, .null, []) :: (1004, 1, 1, 3, 0, .null, []) :: (1005, 1, 0, 0, 0, .int 2, []) :: (1006, 1, 5, 0, 0, .null, []) :: (1007, 1, 20, 0, 0, .null, []) :: (1008, 1, 1, 0, 2, .null, []) :: (1009, 1, 1, 3, 0, .null, []) :: (1010, 1, 0, 0, 0, .int 3, []) :: (1011, 1, 5, 0, 0, .null, []) :: (1012, 1, 20, 0, 0, .null, []) :: (1013, 3, 37, 140, 4, .null, [(0, 5)]) :: (1016, 3, 13, 1190, 0, .null, []) :: (1019, 1, 0, 0, 0, .int 0, []) :: (1020, 1, 30, 0, 1, .null, []) :: []
def qL_law_935 : List CE := (935, 1, 1, 1, 2, .null, []) :: (936, 1, 1, 0, 2, .null, []) :: (937, 1, 1, 3, 0, .null, []) :: (938, 1, 0, 0, 0, .int 1, []) :: (939, 1, 5, 0, 0, .null, []) :: (940, 1, 20, 0, 0, .null, []) :: (941, 1, 1, 0, 2, .null, []) :: (942, 1, 1, 3, 0, .null, []) :: (943, 1, 0, 0, 0, .int 2, []) :: (944, 1, 5, 0, 0, .null, []) :: (945, 1, 20, 0, 0, .null, []) :: (946, 1, 1, 0, 2, .null, []) :: (947, 1, 1, 3, 0, .null, []) :: (948, 1, 0, 0, 0, .int 3, []) :: (949, 1, 5, 0, 0, .null, []) :: (950, 1, 20, 0, 0, .null, []) :: (951, 3, 37, 64, 4, .null, [(0, 4)]) :: (954, 1, 1, 2, 2, .null, []) :: (955, 1, 1, 0, 2, .null, []) :: (956, 1, 1, 3, 0, .null, []) :: (957, 1, 0, 0, 0, .int 1, []) :: (958, 1, 5, 0, 0, .null, []) :: (959, 1, 20, 0, 0, .null, []) :: (960, 1, 1, 0, 2, .null, []) :: (961, 1, 1, 3, 0, .null, []) :: (962, 1, 0, 0, 0, .int 2, []) :: (963, 1, 5, 0, 0, .null, []) :: (964, 1, 20, 0, 0, .null, []) :: (965, 1, 1, 0, 2, .null, []) :: (966, 1, 1, 3, 0, .null, []) :: (967, 1, 0, 0, 0, .int 3, []) :: (968, 1, 5, 0, 0, .null, []) :: (969, 1, 20, 0, 0, .null, []) :: (970, 3, 37, 139, 4, .null, [(0, 5)]) :: (973, 3, 13, 1190, 0, .null, []) :: (976, 1, 0, 0, 0, .int 0, []) :: (977, 1, 30, 0, 1, .null, []) :: []
def qL_law_892 : List CE := (892, 1, 1, 1, 2, .null, []) :: (893, 1, 1, 0, 2, .null, []) :: (894, 1, 1, 3, 0, .null, []) :: (895, 1, 0, 0, 0, .int 1, []) :: (896, 1, 5, 0, 0, .null, []) :: (897, 1, 20, 0, 0, .null, []) :: (898, 1, 1, 0, 2, .null, []) :: (899, 1, 1, 3, 0, .null, []) :: (900, 1, 0, 0, 0, .int 2, []) :: (901, 1, 5, 0, 0, .null, []) :: (902, 1, 20, 0, 0, .null, []) :: (903, 1, 1, 0, 2, .null, []) :: (904, 1, 1, 3, 0, .null, []) :: (905, 1, 0, 0, 0, .int 3, []) :: (906, 1, 5, 0, 0, .null, []) :: (907, 1, 20, 0, 0, .null, []) :: (908, 3, 37, 63, 4, .null, [(0, 4)]) :: (911, 1, 1, 2, 2, .null, []) :: (912, 1, 1, 0, 2, .null, []) :: (913, 1, 1, 3, 0, .null, []) :: (914, 1, 0, 0, 0, .int 1, []) :: (915, 1, 5, 0, 0, .null, []) :: (916, 1, 20, 0, 0, .null, []) :: (917, 1, 1, 0, 2, .null, []) :: (918, 1, 1, 3, 0, .null, []) :: (919, 1, 0, 0, 0, .int 2, []) :: (920, 1, 5, 0, 0, .null, []) :: (921, 1, 20, 0, 0, .null, []) :: (922, 1, 1, 0, 2, .null, []) :: (923, 1, 1, 3, 0, .null, []) :: (924, 1, 0, 0, 0, .int 3, []) :: (925, 1, 5, 0, 0, .null, []) :: (926, 1, 20, 0, 0, .null, []) :: (927, 3, 37, 137, 4, .null, [(0, 5)]) :: (930, 3, 13, 1190, 0, .null, []) :: (933, 1, 0, 0, 0, .int 0, []) :: (934, 1, 30, 0, 1, .null, []) :: []
def qL_law_879 : List CE := (879, 1, 1, 1, 2, .null, []) :: (880, 3, 37, 62, 1, .null, [(0, 4)]) :: (883, 1, 1, 2, 2, .null, []) :: (884, 3, 37, 133, 1, .null, [(0, 5)]) :: (887, 3, 13, 1190, 0, .null, []) :: (890, 1, 0, 0, 0, .int 0, []) :: (891, 1, 30, 0, 1, .null, []) :: []
def qL_law_866 : List CE := (866, 1, 1, 1, 2, .null, []) :: (867, 3, 37, 61, 1, .null, [(0, 4)]) :: (870, 1, 1, 2, 2, .null, []) :: (871, 3, 37, 132, 1, .null, [(0, 5)]) :: (874, 3, 13, 1190, 0, .null, []) :: (877, 1, 0, 0, 0, .int 0, []) :: (878, 1, 30, 0, 1, .null, []) :: []
def qL_law_823 : List CE := (823, 1, 1, 1, 2, .null, []) :: (824, 1, 1, 0, 2, .null, []) :: (825, 1, 1, 3, 0, .null, []) :: (826, 1, 0, 0, 0, .int 1, []) :: (827, 1, 5, 0, 0, .null, []) :: (828, 1, 20, 0, 0, .null, []) :: (829, 1, 1, 0, 2, .null, []) :: (830, 1, 1, 3, 0, .null, []) :: (831, 1, 0, 0, 0, .int 2, []) :: (832, 1, 5, 0, 0, .null, []) :: (833, 1, 20, 0, 0, .null, []) :: (834, 1, 1, 0, 2, .null, []) :: (835, 1, 1, 3, 0, .null, []) :: (836, 1, 0, 0, 0, .int 3, []) :: (837, 1, 5, 0, 0, .null, []) :: (838, 1, 20, 0, 0, .null, []) :: (839, 3, 37, 60, 4, .null, [(0, 4)]) :: (842, 1, 1, 2, 2, .null, []) :: (843, 1, 1, 0, 2, .null, []) :: (844, 1, 1, 3, 0, .null, []) :: (845, 1, 0, 0, 0, .int 1, []) :: (846, 1, 5, 0, 0, .null, []) :: (847, 1, 20, 0, 0, .null, []) :: (848, 1, 1, 0, 2, .null, []) :: (849, 1, 1, 3, 0, .null, []) :: (850, 1, 0, 0, 0, .int 2, []) :: (851, 1, 5, 0, 0, .null, []) :: (852, 1, 20, 0, 0, .null, []) :: (853, 1, 1, 0, 2, .null, []) :: (854, 1, 1, 3, 0, .null, []) :: (855, 1, 0, 0, 0, .int 3, []) :: (856, 1, 5, 0, 0, .null, []) :: (857, 1, 20, 0, 0, .null, []) :: (858, 3, 37, 129, 4, .null, [(0, 5)]) :: (861, 3, 13, 1190, 0, .null, []) :: (864, 1, 0, 0, 0, .int 0, []) :: (865, 1, 30, 0, 1, .null, []) :: []
def qL_law_780 : List CE := (780, 1, 1, 1, 2, .null, []) :: (781, 1, 1, 0, 2, .null, []) :: (782, 1, 1, 3, 0, .null, []) :: (783, 1, 0, 0, 0, .int 1, []) :: (784, 1, 5, 0, 0, .null, []) :: (785, 1, 20, 0, 0, .null, []) :: (786, 1, 1, 0, 2, .null, []) :: (787, 1, 1, 3, 0, .null, []) :: (788, 1, 0, 0, 0, .int 2, []) :: (789, 1, 5, 0, 0, .null, []) :: (790, 1, 20, 0, 0, .null, []) :: (791, 1, 1, 0, 2, .null, []) :: (792, 1, 1, 3, 0, .null, []) :: (793, 1, 0, 0, 0, .int 3, []) :: (794, 1, 5, 0, 0, .null, []) :: (795, 1, 20, 0, 0, .null, []) :: (796, 3, 37, 59, 4, .null, [(0, 4)]) :: (799, 1, 1, 2, 2, .null, []) :: (800, 1, 1, 0, 2, .null, []) :: (801, 1, 1, 3, 0, .null, []) :: (802, 1, 0, 0, 0, .int 1, []) :: (803, 1, 5, 0, 0, .null, []) :: (804, 1, 20, 0, 0, .null, []) :: (805, 1, 1, 0, 2, .null, []) :: (806, 1, 1, 3, 0, .null, []) :: (807, 1, 0, 0, 0, .int 2, []) :: (808, 1, 5, 0, 0, .null, []) :: (809, 1, 20, 0, 0, .null, []) :: (810, 1, 1, 0, 2, .null, []) :: (811, 1, 1, 3, 0, .null, []) :: (812, 1, 0, 0, 0, .int 3, []) :: (813, 1, 5, 0, 0, .null, []) :: (814, 1, 20, 0, 0, .null, []) :: (815, 3, 37, 128, 4, .null, [(0, 5)]) :: (818, 3, 13, 1190, 0, .null, []) :: (821, 1, 0, 0, 0, .int 0, []) :: (822, 1, 30, 0, 1, .null, []) :: []
def qL_law_757 : List CE := (757, 1, 1, 1, 2, .null, []) :: (758, 1, 1, 0, 2, .null, []) :: (759, 1, 1, 3, 0, .null, []) :: (760, 1, 0, 0, 0, .int 1, []) :: (761, 1, 5, 0, 0, .null, []) :: (762, 1, 20, 0, 0, .null, []) :: (763, 3, 37, 58, 2, .null, [(0, 4)]) :: (766, 1, 1, 2, 2, .null, []) :: (767, 1, 1, 0, 2, .null, []) :: (768, 1, 1, 3, 0, .null, []) :: (769, 1, 0, 0, 0, .int 1, []) :: (770, 1, 5, 0, 0, .null, []) :: (771, 1, 20, 0, 0, .null, []) :: (772, 3, 37, 127, 2, .null, [(0, 5)]) :: (775, 3, 13, 1190, 0, .null, []) :: (778, 1, 0, 0, 0, .int 0, []) :: (779, 1, 30, 0, 1, .null, []) :: []
def qL_law_723 : List CE := (723, 1, 1, 1, 2, .null, []) :: (724, 1, 1, 0, 2, .null, []) :: (725, 1, 1, 3, 0, .null, []) :: (726, 1, 0, 0, 0, .int 1, []) :: (727, 1, 5, 0, 0, .null, []) :: (728, 1, 20, 0, 0, .null, []) :: (729, 1, 1, 0, 2, .null, []) :: (730, 1, 1, 3, 0, .null, []) :: (731, 1, 0, 0, 0, .int 2, []) :: (732, 1, 5, 0, 0, .null, []) :: (733, 1, 20, 0, 0, .null, []) :: (734, 3, 37, 57, 3, .null, [(0, 4)]) :: (737, 1, 1, 2, 2, .null, []) :: (738, 1, 1, 0, 2, .null, []) :: (739, 1, 1, 3, 0, .null, []) :: (740, 1, 0, 0, 0, .int 1, []) :: (741, 1, 5, 0, 0, .null, []) :: (742, 1, 20, 0, 0, .null, []) :: (743, 1, 1, 0, 2, .null, []) :: (744, 1, 1, 3, 0, .null, []) :: (745, 1, 0, 0, 0, .int 2, []) :: (746, 1, 5, 0, 0, .null, []) :: (747, 1, 20, 0, 0, .null, []) :: (748, 3, 37, 126, 3, .null, [(0, 5)]) :: (751, 1, 11, 0, 0, .null, []) :: (752, 3, 12, 1190, 0, .null, []) :: (755, 1, 0, 0, 0, .int 0, []) :: (756, 1, 30, 0, 1, .null, []) :: []
def qL_law_700 : List CE := (700, 1, 1, 1, 2, .null, []) :: (701, 1, 1, 0, 2, .null, []) :: (702, 1, 1, 3, 0, .null, []) :: (703, 1, 0, 0, 0, .int 1, []) :: (704, 1, 5, 0, 0, .null, []) :: (705, 1, 20, 0, 0, .null, []) :: (706, 3, 37, 56, 2, .null, [(0, 4)]) :: (709, 1, 1, 2, 2, .null, []) :: (710, 1, 1, 0, 2, .null, []) :: (711, 1, 1, 3, 0, .null, []) :: (712, 1, 0, 0, 0, .int 1, []) :: (713, 1, 5, 0, 0, .null, []) :: (714, 1, 20, 0, 0, .null, []) :: (715, 3, 37, 124, 2, .null, [(0, 5)]) :: (718, 3, 13, 1190, 0, .null, []) :: (721, 1, 0, 0, 0, .int 0, []) :: (722, 1, 30, 0, 1, .null, []) :: []
def qL_law_687 : List CE := (687, 1, 1, 1, 2, .null, []) :: (688, 3, 37, 55, 1, .null, [(0, 4)]) :: (691, 1, 1, 2, 2, .null, []) :: (692, 3, 37, 123, 1, .null, [(0, 5)]) :: (695, 3, 13, 1190, 0, .null, []) :: (698, 1, 0, 0, 0, .int 0, []) :: (699, 1, 30, 0, 1, .null, []) :: []
def qL_law_643 : List CE := (643, 1, 1, 1, 2, .null, []) :: (644, 1, 1, 0, 2, .null, []) :: (645, 1, 1, 3, 0, .null, []) :: (646, 1, 0, 0, 0, .int 1, []) :: (647, 1, 5, 0, 0, .null, []) :: (648, 1, 20, 0, 0, .null, []) :: (649, 1, 1, 0, 2, .null, []) :: (650, 1, 1, 3, 0, .null, []) :: (651, 1, 0, 0, 0, .int 2, []) :: (652, 1, 5, 0, 0, .null, []) :: (653, 1, 20, 0, 0, .null, []) :: (654, 1, 1, 0, 2, .null, []) :: (655, 1, 1, 3, 0, .null, []) :: (656, 1, 0, 0, 0, .int 3, []) :: (657, 1, 5, 0, 0, .null, []) :: (658, 1, 20, 0, 0, .null, []) :: (659, 3, 37, 54, 4, .null, [(0, 4)]) :: (662, 1, 1, 2, 2, .null, []) :: (663, 1, 1, 0, 2, .null, []) :: (664, 1, 1, 3, 0, .null, []) :: (665, 1, 0, 0, 0, .int 1, []) :: (666, 1, 5, 0, 0, .null, []) :: (667, 1, 20, 0, 0, .null, []) :: (668, 1, 1, 0, 2, .null, []) :: (669, 1, 1, 3, 0, .null, []) :: (670, 1, 0, 0, 0, .int 2, []) :: (671, 1, 5, 0, 0, .null, []) :: (672, 1, 20, 0, 0, .null, []) :: (673, 1, 1, 0, 2, .null, []) :: (674, 1, 1, 3, 0, .null, []) :: (675, 1, 0, 0, 0, .int 3, []) :: (676, 1, 5, 0, 0, .null, []) :: (677, 1, 20, 0, 0, .null, []) :: (678, 3, 37, 121, 4, .null, [(0, 5)]) :: (681, 1, 11, 0, 0, .null, []) :: (682, 3, 12, 1190, 0, .null, []) :: (685, 1, 0, 0, 0, .int 0, []) :: (686, 1, 30, 0, 1, .null, []) :: []
def qL_law_579 : List CE := (579, 1, 1, 1, 2, .null, []) :: (580, 1, 1, 0, 2, .null, []) :: (581, 1, 1, 3, 0, .null, []) :: (582, 1, 0, 0, 0, .int 1, []) :: (583, 1, 5, 0, 0, .null, []) :: (584, 1, 20, 0, 0, .null, []) :: (585, 1, 1, 0, 2, .null, []) :: (586, 1, 1, 3, 0, .null, []) :: (587, 1, 0, 0, 0, .int 2, []) :: (588, 1, 5, 0, 0, .null, []) :: (589, 1, 20, 0, 0, .null, []) :: (590, 1, 1, 0, 2, .null, []) :: (591, 1, 1, 3, 0, .null, []) :: (592, 1, 0, 0, 0, .int 3, []) :: (593, 1, 5, 0, 0, .null, []) :: (594, 1, 20, 0, 0, .null, []) :: (595, 1, 1, 0, 2, .null, []) :: (596, 1, 1, 3, 0, .null, []) :: (597, 1, 0, 0, 0, .int 4, []) :: (598, 1, 5, 0, 0, .null, []) :: (599, 1, 20, 0, 0, .null, []) :: (600, 1, 1, 0, 2, .null, []) :: (601, 1, 1, 3, 0, .null, []) :: (602, 1, 0, 0, 0, .int 5, []) :: (603, 1, 5, 0, 0, .null, []) :: (604, 1, 20, 0, 0, .null, []) :: (605, 3, 37, 53, 6, .null, [(0, 4)]) :: (608, 1, 1, 2, 2, .null, []) :: (609, 1, 1, 0, 2, .null, []) :: (610, 1, 1, 3, 0, .null, []) :: (611, 1, 0, 0, 0, .int 1, []) :: (612, 1, 5, 0, 0, .null, []) :: (613, 1, 20, 0, 0, .null, []) :: (614, 1, 1, 0, 2, .null, []) :: (615, 1, 1, 3, 0, .null, []) :: (616, 1, 0, 0, 0, .int 2, []) :: (617, 1, 5, 0, 0, .null, []) :: (618, 1, 20, 0, 0, .null, []) :: (619, 1, 1, 0, 2, .null, []) :: (620, 1, 1, 3, 0, .null, []) :: (621, 1, 0, 0, 0, .int 3, []) :: (622, 1, 5, 0, 0, .null, []) :: (623, 1, 20, 0, 0, .null, []) :: (624, 1, 1, 0, 2, .null, []) :: (625, 1, 1, 3, 0, .null, []) :: (626, 1, 0, 0, 0, .int 4, []) :: (627, 1, 5, 0, 0, .null, []) :: (628, 1, 20, 0, 0, .null, []) :: (629, 1, 1, 0, 2, .null, []) :: (630, 1, 1, 3, 0, .null, []) :: (631, 1, 0, 0, 0, .int 5, []) :: (632, 1, 5, 0, 0, .null, []) :: (633, 1, 20, 0, 0, .null, []) :: (634, 3, 37, 120, 6, .null, [(0, 5)]) :: (637, 1, 11, 0, 0, .null, []) :: (638, 3, 12, 1190, 0, .null, []) :: (641, 1, 0, 0, 0, .int 0, []) :: (642, 1, 30, 0, 1, .null, []) :: []
def qL_law_545 : List CE := (545, 1, 1, 1, 2, .null, []) :: (546, 1, 1, 0, 2, .null, []) :: (547, 1, 1, 3, 0, .null, []) :: (548, 1, 0, 0, 0, .int 1, []) :: (549, 1, 5, 0, 0, .null, []) :: (550, 1, 20, 0, 0, .null, []) :: (551, 1, 1, 0, 2, .null, []) :: (552, 1, 1, 3, 0, .null, []) :: (553, 1, 0, 0, 0, .int 2, []) :: (554, 1, 5, 0, 0, .null, []) :: (555, 1, 20, 0, 0, .null, []) :: (556, 3, 37, 52, 3, .null, [(0, 4)]) :: (559, 1, 1, 2, 2, .null, []) :: (560, 1, 1, 0, 2, .null, []) :: (561, 1, 1, 3, 0, .null, []) :: (562, 1, 0, 0, 0, .int 1, []) :: (563, 1, 5, 0, 0, .null, []) :: (564, 1, 20, 0, 0, .null, []) :: (565, 1, 1, 0, 2, .null, []) :: (566, 1, 1, 3, 0, .null, []) :: (567, 1, 0, 0, 0, .int 2, []) :: (568, 1, 5, 0, 0, .null, []) :: (569, 1, 20, 0, 0, .null, []) :: (570, 3, 37, 117, 3, .null, [(0, 5)]) :: (573, 1, 11, 0, 0, .null, []) :: (574, 3, 12, 1190, 0, .null, []) :: (577, 1, 0, 0, 0, .int 0, []) :: (578, 1, 30, 0, 1, .null, []) :: []
def qL_law_501 : List CE := (501, 1, 1, 1, 2, .null, []) :: (502, 1, 1, 0, 2, .null, []) :: (503, 1, 1, 3, 0, .null, []) :: (504, 1, 0, 0, 0, .int 1, []) :: (505, 1, 5, 0, 0, .null, []) :: (506, 1, 20, 0, 0, .null, []) :: (507, 1, 1, 0, 2, .null, []) :: (508, 1, 1, 3, 0, .null, []) :: (509, 1, 0, 0, 0, .int 2, []) :: (510, 1, 5, 0, 0, .null, []) :: (511, 1, 20, 0, 0, .null, []) :: (512, 1, 1, 0, 2, .null, []) :: (513, 1, 1, 3, 0, .null, []) :: (514, 1, 0, 0, 0, .int 3, []) :: (515, 1, 5, 0, 0, .null, []) :: (516, 1, 20, 0, 0, .null, []) :: (517, 3, 37, 51, 4, .null, [(0, 4)]) :: (520, 1, 1, 2, 2, .null, []) :: (521, 1, 1, 0, 2, .null, []) :: (522, 1, 1, 3, 0, .null, []) :: (523, 1, 0, 0, 0, .int 1, []) :: (524, 1, 5, 0, 0, .null, []) :: (525, 1, 20, 0, 0, .null, []) :: (526, 1, 1, 0, 2, .null, []) :: (527, 1, 1, 3, 0, .null, []) :: (528, 1, 0, 0, 0, .int 2, []) :: (529, 1, 5, 0, 0, .null, []) :: (530, 1, 20, 0, 0, .null, []) :: (531, 1, 1, 0, 2, .null, []) :: (532, 1, 1, 3, 0, .null, []) :: (533, 1, 0, 0, 0, .int 3, []) :: (534, 1, 5, 0, 0, .null, []) :: (535, 1, 20, 0, 0, .null, []) :: (536, 3, 37, 116, 4, .null, [(0, 5)]) :: (539, 1, 11, 0, 0, .null, []) :: (540, 3, 12, 1190, 0, .null, []) :: (543, 1, 0, 0, 0, .int 0, []) :: (544, 1, 30, 0, 1, .null, []) :: []
def qL_law_467 : List CE := (467, 1, 1, 1, 2, .null, []) :: (468, 1, 1, 0, 2, .null, []) :: (469, 1, 1, 3, 0, .null, []) :: (470, 1, 0, 0, 0, .int 1, []) :: (471, 1, 5, 0, 0, .null, []) :: (472, 1, 20, 0, 0, .null, []) :: (473, 1, 1, 0, 2, .null, []) :: (474, 1, 1, 3, 0, .null, []) :: (475, 1, 0, 0, 0, .int 2, []) :: (476, 1, 5, 0, 0, .null, []) :: (477, 1, 20, 0, 0, .null, []) :: (478, 3, 37, 50, 3, .null, [(0, 4)]) :: (481, 1, 1, 2, 2, .null, []) :: (482, 1, 1, 0, 2, .null, []) :: (483, 1, 1, 3, 0, .null, []) :: (484, 1, 0, 0, 0, .int 1, []) :: (485, 1, 5, 0, 0, .null, []) :: (486, 1, 20, 0, 0, .null, []) :: (487, 1, 1, 0, 2, .null, []) :: (488, 1, 1, 3, 0, .null, []) :: (489, 1, 0, 0, 0, .int 2, []) :: (490, 1, 5, 0, 0, .null, []) :: (491, 1, 20, 0, 0, .null, []) :: (492, 3, 37, 115, 3, .null, [(0, 5)]) :: (495, 1, 11, 0, 0, .null, []) :: (496, 3, 12, 1190, 0, .null, []) :: (499, 1, 0, 0, 0, .int 0, []) :: (500, 1, 30, 0, 1, .null, []) :: []
def qL_law_444 : List CE := (444, 1, 1, 1, 2, .null, []) :: (445, 1, 1, 0, 2, .null, []) :: (446, 1, 1, 3, 0, .null, []) :: (447, 1, 0, 0, 0, .int 1, []) :: (448, 1, 5, 0, 0, .null, []) :: (449, 1, 20, 0, 0, .null, []) :: (450, 3, 37, 49, 2, .null, [(0, 4)]) :: (453, 1, 1, 2, 2, .null, []) :: (454, 1, 1, 0, 2, .null, []) :: (455, 1, 1, 3, 0, .null, []) :: (456, 1, 0, 0, 0, .int 1, []) :: (457, 1, 5, 0, 0, .null, []) :: (458, 1, 20, 0, 0, .null, []) :: (459, 3, 37, 100, 2, .null, [(0, 5)]) :: (462, 3, 13, 1190, 0, .null, []) :: (465, 1, 0, 0, 0, .int 0, []) :: (466, 1, 30, 0, 1, .null, []) :: []
def qL_law_431 : List CE := (431, 1, 1, 1, 2, .null, []) :: (432, 3, 37, 48, 1, .null, [(0, 4)]) :: (435, 1, 1, 2, 2, .null, []) :: (436, 3, 37, 110, 1, .null, [(0, 5)]) :: (439, 3, 13, 1190, 0, .null, []) :: (442, 1, 0, 0, 0, .int 0, []) :: (443, 1, 30, 0, 1, .null, []) :: []
def qL_law_368 : List CE := (368, 1, 1, 1, 2, .null, []) :: (369, 1, 1, 0, 2, .null, []) :: (370, 1, 1, 3, 0, .null, []) :: (371, 1, 0, 0, 0, .int 1, []) :: (372, 1, 5, 0, 0, .null, []) :: (373, 1, 20, 0, 0, .null, []) :: (374, 1, 10, 0, 2, .null, []) :: (375, 2, 0, 0, 0, .int 32, []) :: (377, 1, 9, 0, 0, .null, []) :: (378, 1, 1, 0, 2, .null, []) :: (379, 1, 1, 3, 0, .null, []) :: (380, 1, 0, 0, 0, .int 2, []) :: (381, 1, 5, 0, 0, .null, []) :: (382, 1, 20, 0, 0, .null, []) :: (383, 1, 10, 0, 2, .null, []) :: (384, 3, 0, 0, 0, .long 4294967295, []) :: (387, 1, 7, 0, 3, .null, []) :: (388, 1, 7, 0, 4, .null, []) :: (389, 1, 1, 0, 2, .null, []) :: (390, 1, 1, 3, 0, .null, []) :: (391, 1, 0, 0, 0, .int 3, []) :: (392, 1, 5, 0, 0, .null, []) :: (393, 1, 20, 0, 0, .null, []) :: (394, 3, 37, 47, 3, .null, [(0, 4)]) :: (397, 1, 1, 2, 2, .null, []) :: (398, 1, 1, 0, 2, .null, []) :: (399, 1, 1, 3, 0, .null, []) :: (400, 1, 0, 0, 0, .int 1, []) :: (401, 1, 5, 0, 0, .null, []) :: (402, 1, 20, 0, 0, .null, []) :: (403, 1, 10, 0, 2, .null, []) :: (404, 2, 0, 0, 0, .int 32, []) :: (406, 1, 9, 0, 0, .null, []) :: (407, 1, 1, 0, 2, .null, []) :: (408, 1, 1, 3, 0, .null, []) :: (409, 1, 0, 0, 0, .int 2, []) :: (410, 1, 5, 0, 0, .null, []) :: (411, 1, 20, 0, 0, .null, []) :: (412, 1, 10, 0, 2, .null, []) :: (413, 3, 0, 0, 0, .long 4294967295, []) :: (416, 1, 7, 0, 3, .null, []) :: (417, 1, 7, 0, 4, .null, []) :: (418, 1, 1, 0, 2, .null, []) :: (419, 1, 1, 3, 0, .null, []) :: (420, 1, 0, 0, 0, .int 3, []) :: (421, 1, 5, 0, 0, .null, []) :: (422, 1, 20, 0, 0, .null, []) :: (423, 3, 37, 102, 3, .null, [(0, 5)]) :: (426, 3, 13, 1190, 0, .null, []) :: (429, 1, 0, 0, 0, .int 0, []) :: (430, 1, 30, 0, 1, .null, []) :: []
def qL_law_335 : List CE := (335, 1, 1, 1, 2, .null, []) :: (336, 1, 1, 0, 2, .null, []) :: (337, 1, 1, 3, 0, .null, []) :: (338, 1, 0, 0, 0, .int 1, []) :: (339, 1, 5, 0, 0, .null, []) :: (340, 1, 20, 0, 0, .null, []) :: (341, 1, 1, 0, 2, .null, []) :: (342, 1, 1, 3, 0, .null, []) :: (343, 1, 0, 0, 0, .int 2, []) :: (344, 1, 5, 0, 0, .null, []) :: (345, 1, 20, 0, 0, .null, []) :: (346, 3, 37, 46, 3, .null, [(0, 4)]) :: (349, 1, 1, 2, 2, .null, []) :: (350, 1, 1, 0, 2, .null, []) :: (351, 1, 1, 3, 0, .null, []) :: (352, 1, 0, 0, 0, .int 1, []) :: (353, 1, 5, 0, 0, .null, []) :: (354, 1, 20, 0, 0, .null, []) :: (355, 1, 1, 0, 2, .null, []) :: (356, 1, 1, 3, 0, .null, []) :: (357, 1, 0, 0, 0, .int 2, []) :: (358, 1, 5, 0, 0, .null, []) :: (359, 1, 20, 0, 0, .null, []) :: (360, 3, 37, 99, 3, .null, [(0, 5)]) :: (363, 3, 13, 1190, 0, .null, []) :: (366, 1, 0, 0, 0, .int 0, []) :: (367, 1, 30, 0, 1, .null, []) :: []
def qL_law_312 : List CE := (312, 1, 1, 1, 2, .null, []) :: (313, 1, 1, 0, 2, .null, []) :: (314, 1, 1, 3, 0, .null, []) :: (315, 1, 0, 0, 0, .int 1, []) :: (316, 1, 5, 0, 0, .null, []) :: (317, 1, 20, 0, 0, .null, []) :: (318, 3, 37, 45, 2, .null, [(0, 4)]) :: (321, 1, 1, 2, 2, .null, []) :: (322, 1, 1, 0, 2, .null, []) :: (323, 1, 1, 3, 0, .null, []) :: (324, 1, 0, 0, 0, .int 1, []) :: (325, 1, 5, 0, 0, .null, []) :: (326, 1, 20, 0, 0, .null, []) :: (327, 3, 37, 95, 2, .null, [(0, 5)]) :: (330, 3, 13, 1190, 0, .null, []) :: (333, 1, 0, 0, 0, .int 0, []) :: (334, 1, 30, 0, 1, .null, []) :: []
def qL_law_269 : List CE := (269, 1, 1, 1, 2, .null, []) :: (270, 1, 1, 0, 2, .null, []) :: (271, 1, 1, 3, 0, .null, []) :: (272, 1, 0, 0, 0, .int 1, []) :: (273, 1, 5, 0, 0, .null, []) :: (274, 1, 20, 0, 0, .null, []) :: (275, 1, 1, 0, 2, .null, []) :: (276, 1, 1, 3, 0, .null, []) :: (277, 1, 0, 0, 0, .int 2, []) :: (278, 1, 5, 0, 0, .null, []) :: (279, 1, 20, 0, 0, .null, []) :: (280, 1, 1, 0, 2, .null, []) :: (281, 1, 1, 3, 0, .null, []) :: (282, 1, 0, 0, 0, .int 3, []) :: (283, 1, 5, 0, 0, .null, []) :: (284, 1, 20, 0, 0, .null, []) :: (285, 3, 37, 44, 4, .null, [(0, 4)]) :: (288, 1, 1, 2, 2, .null, []) :: (289, 1, 1, 0, 2, .null, []) :: (290, 1, 1, 3, 0, .null, []) :: (291, 1, 0, 0, 0, .int 1, []) :: (292, 1, 5, 0, 0, .null, []) :: (293, 1, 20, 0, 0, .null, []) :: (294, 1, 1, 0, 2, .null, []) :: (295, 1, 1, 3, 0, .null, []) :: (296, 1, 0, 0, 0, .int 2, []) :: (297, 1, 5, 0, 0, .null, []) :: (298, 1, 20, 0, 0, .null, []) :: (299, 1, 1, 0, 2, .null, []) :: (300, 1, 1, 3, 0, .null, []) :: (301, 1, 0, 0, 0, .int 3, []) :: (302, 1, 5, 0, 0, .null, []) :: (303, 1, 20, 0, 0, .null, []) :: (304, 3, 37, 94, 4, .null, [(0, 5)]) :: (307, 3, 13, 1190, 0, .null, []) :: (310, 1, 0, 0, 0, .int 0, []) :: (311, 1, 30, 0, 1, .null, []) :: []
def qL_law_236 : List CE := (236, 1, 1, 1, 2, .null, []) :: (237, 1, 1, 0, 2, .null, []) :: (238, 1, 1, 3, 0, .null, []) :: (239, 1, 0, 0, 0, .int 1, []) :: (240, 1, 5, 0, 0, .null, []) :: (241, 1, 20, 0, 0, .null, []) :: (242, 1, 1, 0, 2, .null, []) :: (243, 1, 1, 3, 0, .null, []) :: (244, 1, 0, 0, 0, .int 2, []) :: (245, 1, 5, 0, 0, .null, []) :: (246, 1, 20, 0, 0, .null, []) :: (247, 3, 37, 43, 3, .null, [(0, 4)]) :: (250, 1, 1, 2, 2, .null, []) :: (251, 1, 1, 0, 2, .null, []) :: (252, 1, 1, 3, 0, .null, []) :: (253, 1, 0, 0, 0, .int 1, []) :: (254, 1, 5, 0, 0, .null, []) :: (255, 1, 20, 0, 0, .null, []) :: (256, 1, 1, 0, 2, .null, []) :: (257, 1, 1, 3, 0, .null, []) :: (258, 1, 0, 0, 0, .int 2, []) :: (259, 1, 5, 0, 0, .null, []) :: (260, 1, 20, 0, 0, .null, []) :: (261, 3, 37, 93, 3, .null, [(0, 5)]) :: (264, 3, 13, 1190, 0, .null, []) :: (267, 1, 0, 0, 0, .int 0, []) :: (268, 1, 30, 0, 1, .null, []) :: []
def qL_law_193 : List CE := (193, 1, 1, 1, 2, .null, []) :: (194, 1, 1, 0, 2, .null, []) :: (195, 1, 1, 3, 0, .null, []) :: (196, 1, 0, 0, 0, .int 1, []) :: (197, 1, 5, 0, 0, .null, []) :: (198, 1, 20, 0, 0, .null, []) :: (199, 1, 1, 0, 2, .null, []) :: (200, 1, 1, 3, 0, .null, []) :: (201, 1, 0, 0, 0, .int 2, []) :: (202, 1, 5, 0, 0, .null, []) :: (203, 1, 20, 0, 0, .null, []) :: (204, 1, 1, 0, 2, .null, []) :: (205, 1, 1, 3, 0, .null, []) :: (206, 1, 0, 0, 0, .int 3, []) :: (207, 1, 5, 0, 0, .null, []) :: (208, 1, 20, 0, 0, .null, []) :: (209, 3, 37, 42, 4, .null, [(0, 4)]) :: (212, 1, 1, 2, 2, .null, []) :: (213, 1, 1, 0, 2, .null, []) :: (214, 1, 1, 3, 0, .null, []) :: (215, 1, 0, 0, 0, .int 1, []) :: (216, 1, 5, 0, 0, .null, []) :: (217, 1, 20, 0, 0, .null, []) :: (218, 1, 1, 0, 2, .null, []) :: (219, 1, 1, 3, 0, .null, []) :: (220, 1, 0, 0, 0, .int 2, []) :: (221, 1, 5, 0, 0, .null, []) :: (222, 1, 20, 0, 0, .null, []) :: (223, 1, 1, 0, 2, .null, []) :: (224, 1, 1, 3, 0, .null, []) :: (225, 1, 0, 0, 0, .int 3, []) :: (226, 1, 5, 0, 0, .null, []) :: (227, 1, 20, 0, 0, .null, []) :: (228, 3, 37, 92, 4, .null, [(0, 5)]) :: (231, 3, 13, 1190, 0, .null, []) :: (234, 1, 0, 0, 0, .int 0, []) :: (235, 1, 30, 0, 1, .null, []) :: []
def qL_law_160 : List CE := (160, 1, 1, 1, 2, .null, []) :: (161, 1, 1, 0, 2, .null, []) :: (162, 1, 1, 3, 0, .null, []) :: (163, 1, 0, 0, 0, .int 1, []) :: (164, 1, 5, 0, 0, .null, []) :: (165, 1, 20, 0, 0, .null, []) :: (166, 1, 1, 0, 2, .null, []) :: (167, 1, 1, 3, 0, .null, []) :: (168, 1, 0, 0, 0, .int 2, []) :: (169, 1, 5, 0, 0, .null, []) :: (170, 1, 20, 0, 0, .null, []) :: (171, 3, 37, 41, 3, .null, [(0, 4)]) :: (174, 1, 1, 2, 2, .null, []) :: (175, 1, 1, 0, 2, .null, []) :: (176, 1, 1, 3, 0, .null, []) :: (177, 1, 0, 0, 0, .int 1, []) :: (178, 1, 5, 0, 0, .null, []) :: (179, 1, 20, 0, 0, .null, []) :: (180, 1, 1, 0, 2, .null, []) :: (181, 1, 1, 3, 0, .null, []) :: (182, 1, 0, 0, 0, .int 2, []) :: (183, 1, 5, 0, 0, .null, []) :: (184, 1, 20, 0, 0, .null, []) :: (185, 3, 37, 90, 3, .null, [(0, 5)]) :: (188, 3, 13, 1190, 0, .null, []) :: (191, 1, 0, 0, 0, .int 0, []) :: (192, 1, 30, 0, 1, .null, []) :: []
def qL_law_18 : List CE := (18, 1, 1, 3, 0, .null, []) :: (19, 1, 1, 0, 2, .null, []) :: (20, 1, 27, 0, 0, .null, []) :: (21, 2, 0, 0, 0, .int 6, []) :: (23, 1, 5, 0, 1, .null, []) :: (24, 3, 13, 1196, 4, .null, []) :: (27, 1, 1, 0, 2, .null, []) :: (28, 1, 1, 3, 0, .null, []) :: (29, 1, 20, 0, 0, .null, []) :: (30, 2, 0, 0, 0, .int 31, []) :: (32, 1, 5, 0, 3, .null, []) :: (33, 127, 33, 1190, 0, .null, [(0, 160), (1, 193), (2, 236), (3, 269), (4, 312), (5, 335), (6, 368), (7, 431), (8, 444), (9, 467), (10, 501), (11, 545), (12, 579), (13, 643), (14, 687), (15, 700), (16, 723), (17, 757), (18, 780), (19, 823), (20, 866), (21, 879), (22, 892), (23, 935), (24, 978), (25, 1021), (26, 1044), (27, 1127)]) :: []
def jt_0 : List (Nat × List CE) := [(0, qJI_bitCount_0)]
def jt_1 : List (Nat × List CE) := [(0, qR_reaches_0)]
def jt_2 : List (Nat × List CE) := [(0, qR_solve_0), (57, qR_solve_57), (86, qR_solve_86), (87, qR_solve_87), (94, qR_solve_94)]
def jt_3 : List (Nat × List CE) := [(0, qR_fillRows_0), (2, qR_fillRows_2), (29, qR_fillRows_29), (60, qR_fillRows_60), (90, qR_fillRows_90), (96, qR_fillRows_96)]
def jt_4 : List (Nat × List CE) := [(0, qR_clearRows_0), (4, qR_clearRows_4), (26, qR_clearRows_26), (61, qR_clearRows_61), (67, qR_clearRows_67), (79, qR_clearRows_79), (85, qR_clearRows_85)]
def jt_5 : List (Nat × List CE) := [(0, qR_clearRow_0), (7, qR_clearRow_7), (44, qR_clearRow_44), (96, qR_clearRow_96)]
def jt_6 : List (Nat × List CE) := [(0, qR_rentAbove_0), (5, qR_rentAbove_5), (52, qR_rentAbove_52), (58, qR_rentAbove_58)]
def jt_7 : List (Nat × List CE) := [(0, qR_movesAbove_0), (24, qR_movesAbove_24), (36, qR_movesAbove_36), (37, qR_movesAbove_37)]
def jt_8 : List (Nat × List CE) := [(0, qR_stepsAbove_0), (26, qR_stepsAbove_26), (27, qR_stepsAbove_27)]
def jt_9 : List (Nat × List CE) := [(0, qR_reprice_0), (12, qR_reprice_12), (50, qR_reprice_50), (56, qR_reprice_56)]
def jt_10 : List (Nat × List CE) := [(0, qR_incomeAbove_0), (5, qR_incomeAbove_5), (65, qR_incomeAbove_65), (71, qR_incomeAbove_71)]
def jt_11 : List (Nat × List CE) := [(0, qR_areNear_0), (2, qR_areNear_2), (53, qR_areNear_53), (59, qR_areNear_59)]
def jt_12 : List (Nat × List CE) := [(0, qS_renew_0), (17, qS_renew_17), (36, qS_renew_36)]
def jt_13 : List (Nat × List CE) := [(0, qS_holds_0), (22, qS_holds_22), (23, qS_holds_23)]
def jt_14 : List (Nat × List CE) := [(0, qP_append_0), (5, qP_append_5), (42, qP_append_42)]
def jt_15 : List (Nat × List CE) := [(0, qP_readTown_0), (42, qP_readTown_42), (53, qP_readTown_53), (54, qP_readTown_54)]
def jt_16 : List (Nat × List CE) := [(0, qP_readHouses_0), (2, qP_readHouses_2), (27, qP_readHouses_27), (55, qP_readHouses_55), (82, qP_readHouses_82), (84, qP_readHouses_84), (97, qP_readHouses_97), (102, qP_readHouses_102), (118, qP_readHouses_118)]
def jt_17 : List (Nat × List CE) := [(0, qP_readShares_0), (5, qP_readShares_5), (34, qP_readShares_34), (77, qP_readShares_77), (82, qP_readShares_82), (118, qP_readShares_118), (147, qP_readShares_147), (171, qP_readShares_171), (185, qP_readShares_185), (190, qP_readShares_190), (206, qP_readShares_206)]
def jt_18 : List (Nat × List CE) := [(0, qP_faultHere_0)]
def jt_19 : List (Nat × List CE) := [(0, qP_pairPlace_0)]
def jt_20 : List (Nat × List CE) := [(0, qP_nextSign_0), (38, qP_nextSign_38), (61, qP_nextSign_61), (62, qP_nextSign_62)]
def jt_21 : List (Nat × List CE) := [(0, qP_kindOf_0), (44, qP_kindOf_44), (46, qP_kindOf_46), (48, qP_kindOf_48), (50, qP_kindOf_50), (52, qP_kindOf_52)]
def jt_22 : List (Nat × List CE) := [(0, qP_digitOf_0), (18, qP_digitOf_18), (20, qP_digitOf_20)]
def jt_23 : List (Nat × List CE) := [(0, qP_readDigit_0), (25, qP_readDigit_25)]
def jt_24 : List (Nat × List CE) := [(0, qP_readNumber_0), (12, qP_readNumber_12), (64, qP_readNumber_64), (78, qP_readNumber_78), (81, qP_readNumber_81)]
def jt_25 : List (Nat × List CE) := [(0, qT_has_0), (16, qT_has_16), (17, qT_has_17)]
def jt_26 : List (Nat × List CE) := [(0, qT_hasTwo_0), (25, qT_hasTwo_25), (26, qT_hasTwo_26)]
def jt_27 : List (Nat × List CE) := [(0, qT_isFixed_0), (20, qT_isFixed_20), (24, qT_isFixed_24), (25, qT_isFixed_25)]
def jt_28 : List (Nat × List CE) := [(0, qT_build_0)]
def jt_29 : List (Nat × List CE) := [(0, qT_shareOf_0)]
def jt_30 : List (Nat × List CE) := [(0, qT_putShare_0)]
def jt_31 : List (Nat × List CE) := [(0, qT_pullDown_0), (2, qT_pullDown_2), (21, qT_pullDown_21)]
def jt_32 : List (Nat × List CE) := [(0, qT_clear_0), (7, qT_clear_7), (26, qT_clear_26)]
def jt_33 : List (Nat × List CE) := [(0, qT_weight_0), (4, qT_weight_4), (27, qT_weight_27)]
def jt_34 : List (Nat × List CE) := [(0, qT_pairs_0), (4, qT_pairs_4), (14, qT_pairs_14), (31, qT_pairs_31), (37, qT_pairs_37), (43, qT_pairs_43)]
def jt_35 : List (Nat × List CE) := [(0, qT_fixedSet_0), (4, qT_fixedSet_4), (26, qT_fixedSet_26), (32, qT_fixedSet_32)]
def jt_36 : List (Nat × List CE) := [(0, qT_reachedSet_0), (9, qT_reachedSet_9), (27, qT_reachedSet_27), (56, qT_reachedSet_56), (62, qT_reachedSet_62), (79, qT_reachedSet_79)]
def jt_37 : List (Nat × List CE) := [(0, qT_besideSet_0), (4, qT_besideSet_4), (27, qT_besideSet_27), (33, qT_besideSet_33)]
def jt_38 : List (Nat × List CE) := [(0, qT_passYear_0), (19, qT_passYear_19), (46, qT_passYear_46), (64, qT_passYear_64), (70, qT_passYear_70)]
def jt_39 : List (Nat × List CE) := [(0, qT_askingAfter_0), (17, qT_askingAfter_17), (22, qT_askingAfter_22), (55, qT_askingAfter_55), (84, qT_askingAfter_84), (86, qT_askingAfter_86)]
def jt_40 : List (Nat × List CE) := [(0, qT_takeFrom_0)]
def jt_41 : List (Nat × List CE) := [(0, qC_house_0), (16, qC_house_16), (18, qC_house_18), (33, qC_house_33)]
def jt_42 : List (Nat × List CE) := [(0, qC_share_0), (19, qC_share_19), (21, qC_share_21)]
def jt_43 : List (Nat × List CE) := [(0, qC_ask_0), (18, qC_ask_18), (20, qC_ask_20), (36, qC_ask_36)]
def jt_44 : List (Nat × List CE) := [(0, qC_set_0), (13, qC_set_13), (48, qC_set_48), (84, qC_set_84)]
def jt_45 : List (Nat × List CE) := [(0, qC_purse_0), (9, qC_purse_9)]
def jt_46 : List (Nat × List CE) := [(0, qC_told_0), (13, qC_told_13), (52, qC_told_52), (62, qC_told_62), (72, qC_told_72), (82, qC_told_82), (92, qC_told_92), (101, qC_told_101), (119, qC_told_119), (120, qC_told_120), (121, qC_told_121)]
def jt_47 : List (Nat × List CE) := [(0, qC_type_0), (19, qC_type_19), (21, qC_type_21), (38, qC_type_38)]
def jt_48 : List (Nat × List CE) := [(0, qC_town_0), (53, qC_town_53)]
def jt_49 : List (Nat × List CE) := [(0, qC_count_0), (36, qC_count_36), (44, qC_count_44), (55, qC_count_55), (66, qC_count_66), (74, qC_count_74), (82, qC_count_82)]
def jt_50 : List (Nat × List CE) := [(0, qC_rent_0), (18, qC_rent_18), (22, qC_rent_22), (48, qC_rent_48)]
def jt_51 : List (Nat × List CE) := [(0, qC_moves_0), (29, qC_moves_29), (33, qC_moves_33), (48, qC_moves_48), (74, qC_moves_74)]
def jt_52 : List (Nat × List CE) := [(0, qC_walk_0), (18, qC_walk_18), (22, qC_walk_22), (48, qC_walk_48)]
def jt_53 : List (Nat × List CE) := [(0, qC_change_0), (39, qC_change_39), (43, qC_change_43)]
def jt_54 : List (Nat × List CE) := [(0, qC_pulled_0), (19, qC_pulled_19), (23, qC_pulled_23)]
def jt_55 : List (Nat × List CE) := [(0, qC_year_0), (16, qC_year_16)]
def jt_56 : List (Nat × List CE) := [(0, qC_near_0), (9, qC_near_9), (33, qC_near_33), (56, qC_near_56), (70, qC_near_70)]
def jt_57 : List (Nat × List CE) := [(0, qC_income_0), (14, qC_income_14), (18, qC_income_18)]
def jt_58 : List (Nat × List CE) := [(0, qC_best_0), (13, qC_best_13), (29, qC_best_29), (49, qC_best_49), (101, qC_best_101), (107, qC_best_107)]
def jt_59 : List (Nat × List CE) := [(0, qC_rests_0), (21, qC_rests_21), (23, qC_rests_23), (70, qC_rests_70), (73, qC_rests_73), (89, qC_rests_89), (135, qC_rests_135), (141, qC_rests_141), (150, qC_rests_150), (152, qC_rests_152)]
def jt_60 : List (Nat × List CE) := [(0, qC_bought_0), (25, qC_bought_25), (27, qC_bought_27), (41, qC_bought_41), (72, qC_bought_72), (106, qC_bought_106), (110, qC_bought_110), (111, qC_bought_111), (142, qC_bought_142), (148, qC_bought_148)]
def jt_61 : List (Nat × List CE) := [(0, qC_image_0)]
def jt_62 : List (Nat × List CE) := [(0, qC_restore_0), (10, qC_restore_10)]
def jt_63 : List (Nat × List CE) := [(0, qC_book_0), (26, qC_book_26), (37, qC_book_37), (79, qC_book_79), (82, qC_book_82), (88, qC_book_88), (102, qC_book_102), (141, qC_book_141), (152, qC_book_152), (200, qC_book_200), (206, qC_book_206)]
def jt_64 : List (Nat × List CE) := [(0, qC_film_0), (24, qC_film_24), (27, qC_film_27), (70, qC_film_70)]
def jt_65 : List (Nat × List CE) := [(0, qC_sheet_0), (20, qC_sheet_20), (22, qC_sheet_22), (29, qC_sheet_29)]
def jt_66 : List (Nat × List CE) := [(0, qC_drop_0), (9, qC_drop_9), (24, qC_drop_24)]
def jt_67 : List (Nat × List CE) := [(0, qC_item_0), (18, qC_item_18)]
def jt_68 : List (Nat × List CE) := [(0, qC_copy_0), (14, qC_copy_14), (16, qC_copy_16), (48, qC_copy_48), (51, qC_copy_51), (67, qC_copy_67), (90, qC_copy_90), (93, qC_copy_93)]
def jt_69 : List (Nat × List CE) := [(0, qC_isPence_0), (14, qC_isPence_14), (15, qC_isPence_15)]
def jt_70 : List (Nat × List CE) := [(0, qC_isShare_0), (13, qC_isShare_13), (14, qC_isShare_14)]
def jt_71 : List (Nat × List CE) := [(0, qC_isOwner_0), (13, qC_isOwner_13), (14, qC_isOwner_14)]
def jt_72 : List (Nat × List CE) := [(0, qC_isPart_0), (9, qC_isPart_9), (13, qC_isPart_13), (14, qC_isPart_14)]
def jt_73 : List (Nat × List CE) := [(0, qC_isSheet_0), (13, qC_isSheet_13), (14, qC_isSheet_14)]
def jt_74 : List (Nat × List CE) := [(0, qC_isLane_0), (13, qC_isLane_13), (14, qC_isLane_14)]
def jt_75 : List (Nat × List CE) := [(0, qC_isIn_0), (13, qC_isIn_13), (14, qC_isIn_14)]
def jt_76 : List (Nat × List CE) := [(0, qC_areSigns_0), (2, qC_areSigns_2), (28, qC_areSigns_28), (30, qC_areSigns_30), (36, qC_areSigns_36)]
def jt_77 : List (Nat × List CE) := [(0, qC_byteOf_0)]
def jt_78 : List (Nat × List CE) := [(0, qC_lowestBits_0), (9, qC_lowestBits_9), (21, qC_lowestBits_21), (22, qC_lowestBits_22)]
def jt_79 : List (Nat × List CE) := [(0, qC_lowest_0), (19, qC_lowest_19), (28, qC_lowest_28), (29, qC_lowest_29)]
def jt_80 : List (Nat × List CE) := [(0, qC_commonDivisor_0), (9, qC_commonDivisor_9), (44, qC_commonDivisor_44)]
def jt_81 : List (Nat × List CE) := [(0, qC_trialLessNow_0), (26, qC_trialLessNow_26), (71, qC_trialLessNow_71)]
def jt_82 : List (Nat × List CE) := [(0, qC_fillIncomes_0), (13, qC_fillIncomes_13), (107, qC_fillIncomes_107)]
def jt_83 : List (Nat × List CE) := [(0, qC_isRest_0), (13, qC_isRest_13), (64, qC_isRest_64), (66, qC_isRest_66), (72, qC_isRest_72)]
def jt_84 : List (Nat × List CE) := [(0, qC_isCheapWhenBought_0), (3, qC_isCheapWhenBought_3), (41, qC_isCheapWhenBought_41), (51, qC_isCheapWhenBought_51), (70, qC_isCheapWhenBought_70), (80, qC_isCheapWhenBought_80), (87, qC_isCheapWhenBought_87), (137, qC_isCheapWhenBought_137), (138, qC_isCheapWhenBought_138)]
def jt_85 : List (Nat × List CE) := [(0, qC_refusal_0), (14, qC_refusal_14), (16, qC_refusal_16), (31, qC_refusal_31), (47, qC_refusal_47), (66, qC_refusal_66), (68, qC_refusal_68)]
def jt_86 : List (Nat × List CE) := [(0, qM_in_0), (17, qM_in_17), (18, qM_in_18)]
def jt_87 : List (Nat × List CE) := [(0, qM_isHouse_0)]
def jt_88 : List (Nat × List CE) := [(0, qM_areTwo_0), (25, qM_areTwo_25), (26, qM_areTwo_26)]
def jt_89 : List (Nat × List CE) := [(0, qM_comes_0), (43, qM_comes_43), (85, qM_comes_85)]
def jt_90 : List (Nat × List CE) := [(0, qM_house_0), (24, qM_house_24), (26, qM_house_26), (38, qM_house_38)]
def jt_91 : List (Nat × List CE) := [(0, qM_puts_0)]
def jt_92 : List (Nat × List CE) := [(0, qM_share_0), (21, qM_share_21), (23, qM_share_23)]
def jt_93 : List (Nat × List CE) := [(0, qM_ask_0), (20, qM_ask_20), (22, qM_ask_22), (35, qM_ask_35)]
def jt_94 : List (Nat × List CE) := [(0, qM_set_0), (31, qM_set_31), (34, qM_set_34), (40, qM_set_40), (42, qM_set_42), (55, qM_set_55), (61, qM_set_61), (77, qM_set_77), (84, qM_set_84)]
def jt_95 : List (Nat × List CE) := [(0, qM_purse_0), (14, qM_purse_14)]
def jt_96 : List (Nat × List CE) := [(0, qM_weight_0), (4, qM_weight_4), (32, qM_weight_32)]
def jt_97 : List (Nat × List CE) := [(0, qM_isFixed_0), (32, qM_isFixed_32), (36, qM_isFixed_36), (37, qM_isFixed_37)]
def jt_98 : List (Nat × List CE) := [(0, qM_reached_0), (4, qM_reached_4), (27, qM_reached_27), (28, qM_reached_28), (36, qM_reached_36), (38, qM_reached_38), (48, qM_reached_48), (59, qM_reached_59), (97, qM_reached_97), (98, qM_reached_98), (112, qM_reached_112), (113, qM_reached_113), (121, qM_reached_121), (127, qM_reached_127), (133, qM_reached_133)]
def jt_99 : List (Nat × List CE) := [(0, qM_told_0), (20, qM_told_20), (22, qM_told_22), (56, qM_told_56), (63, qM_told_63), (70, qM_told_70), (77, qM_told_77), (84, qM_told_84), (90, qM_told_90)]
def jt_100 : List (Nat × List CE) := [(0, qM_count_0), (7, qM_count_7), (30, qM_count_30), (31, qM_count_31), (36, qM_count_36), (64, qM_count_64), (65, qM_count_65), (73, qM_count_73), (79, qM_count_79), (116, qM_count_116), (121, qM_count_121), (123, qM_count_123), (131, qM_count_131), (133, qM_count_133), (138, qM_count_138)]
def jt_101 : List (Nat × List CE) := [(0, qM_size_0), (4, qM_size_4), (20, qM_size_20)]
def jt_102 : List (Nat × List CE) := [(0, qM_type_0), (14, qM_type_14), (17, qM_type_17), (48, qM_type_48), (54, qM_type_54), (68, qM_type_68), (73, qM_type_73), (115, qM_type_115)]
def jt_103 : List (Nat × List CE) := [(0, qM_here_0), (38, qM_here_38), (61, qM_here_61), (62, qM_here_62)]
def jt_104 : List (Nat × List CE) := [(0, qM_has_0), (19, qM_has_19), (20, qM_has_20), (34, qM_has_34), (35, qM_has_35)]
def jt_105 : List (Nat × List CE) := [(0, qM_must_0), (11, qM_must_11), (15, qM_must_15), (36, qM_must_36), (40, qM_must_40), (41, qM_must_41), (60, qM_must_60), (61, qM_must_61)]
def jt_106 : List (Nat × List CE) := [(0, qM_number_0), (24, qM_number_24), (31, qM_number_31), (38, qM_number_38), (82, qM_number_82), (99, qM_number_99), (113, qM_number_113), (123, qM_number_123), (124, qM_number_124), (139, qM_number_139), (143, qM_number_143)]
def jt_107 : List (Nat × List CE) := [(0, qM_kindOf_0), (10, qM_kindOf_10), (20, qM_kindOf_20), (30, qM_kindOf_30), (40, qM_kindOf_40), (42, qM_kindOf_42)]
def jt_108 : List (Nat × List CE) := [(0, qM_readHouses_0), (4, qM_readHouses_4), (20, qM_readHouses_20), (27, qM_readHouses_27), (40, qM_readHouses_40), (44, qM_readHouses_44), (45, qM_readHouses_45), (64, qM_readHouses_64), (65, qM_readHouses_65), (116, qM_readHouses_116), (117, qM_readHouses_117), (121, qM_readHouses_121)]
def jt_109 : List (Nat × List CE) := [(0, qM_readPairs_0), (4, qM_readPairs_4), (62, qM_readPairs_62), (66, qM_readPairs_66), (67, qM_readPairs_67), (84, qM_readPairs_84), (88, qM_readPairs_88), (104, qM_readPairs_104), (108, qM_readPairs_108), (109, qM_readPairs_109), (168, qM_readPairs_168), (190, qM_readPairs_190), (191, qM_readPairs_191), (195, qM_readPairs_195)]
def jt_110 : List (Nat × List CE) := [(0, qM_town_0), (12, qM_town_12), (32, qM_town_32), (51, qM_town_51), (66, qM_town_66), (70, qM_town_70), (71, qM_town_71), (94, qM_town_94), (101, qM_town_101), (134, qM_town_134), (136, qM_town_136), (163, qM_town_163), (169, qM_town_169)]
def jt_111 : List (Nat × List CE) := [(0, qM_solves_0), (10, qM_solves_10), (20, qM_solves_20), (47, qM_solves_47), (48, qM_solves_48), (55, qM_solves_55), (79, qM_solves_79), (89, qM_solves_89), (100, qM_solves_100), (101, qM_solves_101), (126, qM_solves_126), (127, qM_solves_127), (146, qM_solves_146), (147, qM_solves_147), (156, qM_solves_156), (191, qM_solves_191), (205, qM_solves_205), (212, qM_solves_212), (230, qM_solves_230), (231, qM_solves_231), (232, qM_solves_232), (238, qM_solves_238), (243, qM_solves_243), (276, qM_solves_276), (284, qM_solves_284), (313, qM_solves_313)]
def jt_112 : List (Nat × List CE) := [(0, qM_clears_0), (14, qM_clears_14), (40, qM_clears_40), (108, qM_clears_108), (130, qM_clears_130), (152, qM_clears_152), (159, qM_clears_159)]
def jt_113 : List (Nat × List CE) := [(0, qM_lowest_0), (11, qM_lowest_11), (12, qM_lowest_12), (17, qM_lowest_17), (42, qM_lowest_42), (54, qM_lowest_54), (58, qM_lowest_58)]
def jt_114 : List (Nat × List CE) := [(0, qM_isKnown_0), (16, qM_isKnown_16), (17, qM_isKnown_17)]
def jt_115 : List (Nat × List CE) := [(0, qM_rent_0), (18, qM_rent_18), (22, qM_rent_22), (52, qM_rent_52), (55, qM_rent_55)]
def jt_116 : List (Nat × List CE) := [(0, qM_moves_0), (26, qM_moves_26), (30, qM_moves_30), (42, qM_moves_42), (74, qM_moves_74), (77, qM_moves_77)]
def jt_117 : List (Nat × List CE) := [(0, qM_walk_0), (18, qM_walk_18), (22, qM_walk_22), (52, qM_walk_52), (55, qM_walk_55)]
def jt_118 : List (Nat × List CE) := [(0, qM_differs_0), (22, qM_differs_22), (23, qM_differs_23), (42, qM_differs_42), (69, qM_differs_69), (78, qM_differs_78)]
def jt_119 : List (Nat × List CE) := [(0, qM_keeps_0), (2, qM_keeps_2), (26, qM_keeps_26)]
def jt_120 : List (Nat × List CE) := [(0, qM_change_0), (41, qM_change_41), (45, qM_change_45)]
def jt_121 : List (Nat × List CE) := [(0, qM_pulled_0), (19, qM_pulled_19), (23, qM_pulled_23), (56, qM_pulled_56), (79, qM_pulled_79)]
def jt_122 : List (Nat × List CE) := [(0, qM_goesOn_0), (2, qM_goesOn_2), (22, qM_goesOn_22), (59, qM_goesOn_59), (71, qM_goesOn_71), (77, qM_goesOn_77), (81, qM_goesOn_81), (112, qM_goesOn_112), (113, qM_goesOn_113), (134, qM_goesOn_134), (136, qM_goesOn_136), (143, qM_goesOn_143)]
def jt_123 : List (Nat × List CE) := [(0, qM_year_0), (13, qM_year_13), (25, qM_year_25), (53, qM_year_53), (54, qM_year_54), (74, qM_year_74)]
def jt_124 : List (Nat × List CE) := [(0, qM_near_0), (14, qM_near_14), (21, qM_near_21), (47, qM_near_47), (49, qM_near_49), (60, qM_near_60), (105, qM_near_105), (107, qM_near_107), (135, qM_near_135), (139, qM_near_139), (140, qM_near_140), (147, qM_near_147), (153, qM_near_153), (164, qM_near_164), (193, qM_near_193), (199, qM_near_199)]
def jt_125 : List (Nat × List CE) := [(0, qM_incomeOf_0), (10, qM_incomeOf_10), (64, qM_incomeOf_64), (65, qM_incomeOf_65), (83, qM_incomeOf_83), (84, qM_incomeOf_84), (92, qM_incomeOf_92)]
def jt_126 : List (Nat × List CE) := [(0, qM_income_0), (22, qM_income_22), (26, qM_income_26)]
def jt_127 : List (Nat × List CE) := [(0, qM_best_0), (10, qM_best_10), (23, qM_best_23), (40, qM_best_40), (80, qM_best_80), (81, qM_best_81), (95, qM_best_95), (97, qM_best_97), (105, qM_best_105)]
def jt_128 : List (Nat × List CE) := [(0, qM_rests_0), (19, qM_rests_19), (21, qM_rests_21), (56, qM_rests_56), (59, qM_rests_59), (78, qM_rests_78), (153, qM_rests_153), (180, qM_rests_180), (191, qM_rests_191), (261, qM_rests_261), (262, qM_rests_262), (270, qM_rests_270), (281, qM_rests_281), (282, qM_rests_282), (311, qM_rests_311), (313, qM_rests_313), (321, qM_rests_321), (330, qM_rests_330), (332, qM_rests_332)]
def jt_129 : List (Nat × List CE) := [(0, qM_bought_0), (32, qM_bought_32), (34, qM_bought_34), (45, qM_bought_45), (51, qM_bought_51), (77, qM_bought_77), (81, qM_bought_81), (85, qM_bought_85), (94, qM_bought_94), (110, qM_bought_110), (181, qM_bought_181), (182, qM_bought_182), (194, qM_bought_194), (196, qM_bought_196), (211, qM_bought_211), (213, qM_bought_213), (215, qM_bought_215), (221, qM_bought_221)]
def jt_130 : List (Nat × List CE) := [(0, qM_lay_0), (2, qM_lay_2), (25, qM_lay_25)]
def jt_131 : List (Nat × List CE) := [(0, qM_gives_0), (2, qM_gives_2), (25, qM_gives_25)]
def jt_132 : List (Nat × List CE) := [(0, qM_image_0)]
def jt_133 : List (Nat × List CE) := [(0, qM_restore_0), (10, qM_restore_10)]
def jt_134 : List (Nat × List CE) := [(0, qM_isSheet_0)]
def jt_135 : List (Nat × List CE) := [(0, qM_isLane_0)]
def jt_136 : List (Nat × List CE) := [(0, qM_why_0), (12, qM_why_12), (25, qM_why_25), (46, qM_why_46), (51, qM_why_51), (52, qM_why_52)]
def jt_137 : List (Nat × List CE) := [(0, qM_book_0), (14, qM_book_14), (16, qM_book_16), (39, qM_book_39), (50, qM_book_50), (84, qM_book_84), (90, qM_book_90), (93, qM_book_93), (126, qM_book_126), (137, qM_book_137), (176, qM_book_176), (182, qM_book_182)]
def jt_138 : List (Nat × List CE) := [(0, qM_comesTo_0), (30, qM_comesTo_30), (43, qM_comesTo_43), (44, qM_comesTo_44)]
def jt_139 : List (Nat × List CE) := [(0, qM_film_0), (14, qM_film_14), (16, qM_film_16), (37, qM_film_37), (40, qM_film_40), (72, qM_film_72)]
def jt_140 : List (Nat × List CE) := [(0, qM_sheet_0), (20, qM_sheet_20), (22, qM_sheet_22), (29, qM_sheet_29), (46, qM_sheet_46), (72, qM_sheet_72)]
def jt_141 : List (Nat × List CE) := [(0, qM_drop_0), (9, qM_drop_9), (21, qM_drop_21)]
def jt_142 : List (Nat × List CE) := [(0, qM_item_0), (14, qM_item_14), (16, qM_item_16), (34, qM_item_34)]
def jt_143 : List (Nat × List CE) := [(0, qM_copy_0), (14, qM_copy_14), (16, qM_copy_16), (34, qM_copy_34), (37, qM_copy_37), (55, qM_copy_55), (95, qM_copy_95), (98, qM_copy_98), (101, qM_copy_101), (135, qM_copy_135), (138, qM_copy_138), (173, qM_copy_173)]
def jt_144 : List (Nat × List CE) := [(18, qL_law_18), (160, qL_law_160), (193, qL_law_193), (236, qL_law_236), (269, qL_law_269), (312, qL_law_312), (335, qL_law_335), (368, qL_law_368), (431, qL_law_431), (444, qL_law_444), (467, qL_law_467), (501, qL_law_501), (545, qL_law_545), (579, qL_law_579), (643, qL_law_643), (687, qL_law_687), (700, qL_law_700), (723, qL_law_723), (757, qL_law_757), (780, qL_law_780), (823, qL_law_823), (866, qL_law_866), (879, qL_law_879), (892, qL_law_892), (935, qL_law_935), (978, qL_law_978), (1021, qL_law_1021), (1044, qL_law_1044), (1127, qL_law_1127), (1190, qL_law_1190), (1196, qL_law_1196)]
def jt : List (List (Nat × List CE)) := [jt_0, jt_1, jt_2, jt_3, jt_4, jt_5, jt_6, jt_7, jt_8, jt_9, jt_10, jt_11, jt_12, jt_13, jt_14, jt_15, jt_16, jt_17, jt_18, jt_19, jt_20, jt_21, jt_22, jt_23, jt_24, jt_25, jt_26, jt_27, jt_28, jt_29, jt_30, jt_31, jt_32, jt_33, jt_34, jt_35, jt_36, jt_37, jt_38, jt_39, jt_40, jt_41, jt_42, jt_43, jt_44, jt_45, jt_46, jt_47, jt_48, jt_49, jt_50, jt_51, jt_52, jt_53, jt_54, jt_55, jt_56, jt_57, jt_58, jt_59, jt_60, jt_61, jt_62, jt_63, jt_64, jt_65, jt_66, jt_67, jt_68, jt_69, jt_70, jt_71, jt_72, jt_73, jt_74, jt_75, jt_76, jt_77, jt_78, jt_79, jt_80, jt_81, jt_82, jt_83, jt_84, jt_85, jt_86, jt_87, jt_88, jt_89, jt_90, jt_91, jt_92, jt_93, jt_94, jt_95, jt_96, jt_97, jt_98, jt_99, jt_100, jt_101, jt_102, jt_103, jt_104, jt_105, jt_106, jt_107, jt_108, jt_109, jt_110, jt_111, jt_112, jt_113, jt_114, jt_115, jt_116, jt_117, jt_118, jt_119, jt_120, jt_121, jt_122, jt_123, jt_124, jt_125, jt_126, jt_127, jt_128, jt_129, jt_130, jt_131, jt_132, jt_133, jt_134, jt_135, jt_136, jt_137, jt_138, jt_139, jt_140, jt_141, jt_142, jt_143, jt_144]
def J (m t : Nat) : List CE := ((jt.getD m []).lookup t).getD []
theorem jJI_bitCount_0 : J 0 0 = qJI_bitCount_0 := rfl
theorem jR_reaches_0 : J 1 0 = qR_reaches_0 := rfl
theorem jR_solve_0 : J 2 0 = qR_solve_0 := rfl
theorem jR_solve_57 : J 2 57 = qR_solve_57 := rfl
theorem jR_solve_86 : J 2 86 = qR_solve_86 := rfl
theorem jR_solve_87 : J 2 87 = qR_solve_87 := rfl
theorem jR_solve_94 : J 2 94 = qR_solve_94 := rfl
theorem jR_fillRows_0 : J 3 0 = qR_fillRows_0 := rfl
theorem jR_fillRows_2 : J 3 2 = qR_fillRows_2 := rfl
theorem jR_fillRows_29 : J 3 29 = qR_fillRows_29 := rfl
theorem jR_fillRows_60 : J 3 60 = qR_fillRows_60 := rfl
theorem jR_fillRows_90 : J 3 90 = qR_fillRows_90 := rfl
theorem jR_fillRows_96 : J 3 96 = qR_fillRows_96 := rfl
theorem jR_clearRows_0 : J 4 0 = qR_clearRows_0 := rfl
theorem jR_clearRows_4 : J 4 4 = qR_clearRows_4 := rfl
theorem jR_clearRows_26 : J 4 26 = qR_clearRows_26 := rfl
theorem jR_clearRows_61 : J 4 61 = qR_clearRows_61 := rfl
theorem jR_clearRows_67 : J 4 67 = qR_clearRows_67 := rfl
theorem jR_clearRows_79 : J 4 79 = qR_clearRows_79 := rfl
theorem jR_clearRows_85 : J 4 85 = qR_clearRows_85 := rfl
theorem jR_clearRow_0 : J 5 0 = qR_clearRow_0 := rfl
theorem jR_clearRow_7 : J 5 7 = qR_clearRow_7 := rfl
theorem jR_clearRow_44 : J 5 44 = qR_clearRow_44 := rfl
theorem jR_clearRow_96 : J 5 96 = qR_clearRow_96 := rfl
theorem jR_rentAbove_0 : J 6 0 = qR_rentAbove_0 := rfl
theorem jR_rentAbove_5 : J 6 5 = qR_rentAbove_5 := rfl
theorem jR_rentAbove_52 : J 6 52 = qR_rentAbove_52 := rfl
theorem jR_rentAbove_58 : J 6 58 = qR_rentAbove_58 := rfl
theorem jR_movesAbove_0 : J 7 0 = qR_movesAbove_0 := rfl
theorem jR_movesAbove_24 : J 7 24 = qR_movesAbove_24 := rfl
theorem jR_movesAbove_36 : J 7 36 = qR_movesAbove_36 := rfl
theorem jR_movesAbove_37 : J 7 37 = qR_movesAbove_37 := rfl
theorem jR_stepsAbove_0 : J 8 0 = qR_stepsAbove_0 := rfl
theorem jR_stepsAbove_26 : J 8 26 = qR_stepsAbove_26 := rfl
theorem jR_stepsAbove_27 : J 8 27 = qR_stepsAbove_27 := rfl
theorem jR_reprice_0 : J 9 0 = qR_reprice_0 := rfl
theorem jR_reprice_12 : J 9 12 = qR_reprice_12 := rfl
theorem jR_reprice_50 : J 9 50 = qR_reprice_50 := rfl
theorem jR_reprice_56 : J 9 56 = qR_reprice_56 := rfl
theorem jR_incomeAbove_0 : J 10 0 = qR_incomeAbove_0 := rfl
theorem jR_incomeAbove_5 : J 10 5 = qR_incomeAbove_5 := rfl
theorem jR_incomeAbove_65 : J 10 65 = qR_incomeAbove_65 := rfl
theorem jR_incomeAbove_71 : J 10 71 = qR_incomeAbove_71 := rfl
theorem jR_areNear_0 : J 11 0 = qR_areNear_0 := rfl
theorem jR_areNear_2 : J 11 2 = qR_areNear_2 := rfl
theorem jR_areNear_53 : J 11 53 = qR_areNear_53 := rfl
theorem jR_areNear_59 : J 11 59 = qR_areNear_59 := rfl
theorem jS_renew_0 : J 12 0 = qS_renew_0 := rfl
theorem jS_renew_17 : J 12 17 = qS_renew_17 := rfl
theorem jS_renew_36 : J 12 36 = qS_renew_36 := rfl
theorem jS_holds_0 : J 13 0 = qS_holds_0 := rfl
theorem jS_holds_22 : J 13 22 = qS_holds_22 := rfl
theorem jS_holds_23 : J 13 23 = qS_holds_23 := rfl
theorem jP_append_0 : J 14 0 = qP_append_0 := rfl
theorem jP_append_5 : J 14 5 = qP_append_5 := rfl
theorem jP_append_42 : J 14 42 = qP_append_42 := rfl
theorem jP_readTown_0 : J 15 0 = qP_readTown_0 := rfl
theorem jP_readTown_42 : J 15 42 = qP_readTown_42 := rfl
theorem jP_readTown_53 : J 15 53 = qP_readTown_53 := rfl
theorem jP_readTown_54 : J 15 54 = qP_readTown_54 := rfl
theorem jP_readHouses_0 : J 16 0 = qP_readHouses_0 := rfl
theorem jP_readHouses_2 : J 16 2 = qP_readHouses_2 := rfl
theorem jP_readHouses_27 : J 16 27 = qP_readHouses_27 := rfl
theorem jP_readHouses_55 : J 16 55 = qP_readHouses_55 := rfl
theorem jP_readHouses_82 : J 16 82 = qP_readHouses_82 := rfl
theorem jP_readHouses_84 : J 16 84 = qP_readHouses_84 := rfl
theorem jP_readHouses_97 : J 16 97 = qP_readHouses_97 := rfl
theorem jP_readHouses_102 : J 16 102 = qP_readHouses_102 := rfl
theorem jP_readHouses_118 : J 16 118 = qP_readHouses_118 := rfl
theorem jP_readShares_0 : J 17 0 = qP_readShares_0 := rfl
theorem jP_readShares_5 : J 17 5 = qP_readShares_5 := rfl
theorem jP_readShares_34 : J 17 34 = qP_readShares_34 := rfl
theorem jP_readShares_77 : J 17 77 = qP_readShares_77 := rfl
theorem jP_readShares_82 : J 17 82 = qP_readShares_82 := rfl
theorem jP_readShares_118 : J 17 118 = qP_readShares_118 := rfl
theorem jP_readShares_147 : J 17 147 = qP_readShares_147 := rfl
theorem jP_readShares_171 : J 17 171 = qP_readShares_171 := rfl
theorem jP_readShares_185 : J 17 185 = qP_readShares_185 := rfl
theorem jP_readShares_190 : J 17 190 = qP_readShares_190 := rfl
theorem jP_readShares_206 : J 17 206 = qP_readShares_206 := rfl
theorem jP_faultHere_0 : J 18 0 = qP_faultHere_0 := rfl
theorem jP_pairPlace_0 : J 19 0 = qP_pairPlace_0 := rfl
theorem jP_nextSign_0 : J 20 0 = qP_nextSign_0 := rfl
theorem jP_nextSign_38 : J 20 38 = qP_nextSign_38 := rfl
theorem jP_nextSign_61 : J 20 61 = qP_nextSign_61 := rfl
theorem jP_nextSign_62 : J 20 62 = qP_nextSign_62 := rfl
theorem jP_kindOf_0 : J 21 0 = qP_kindOf_0 := rfl
theorem jP_kindOf_44 : J 21 44 = qP_kindOf_44 := rfl
theorem jP_kindOf_46 : J 21 46 = qP_kindOf_46 := rfl
theorem jP_kindOf_48 : J 21 48 = qP_kindOf_48 := rfl
theorem jP_kindOf_50 : J 21 50 = qP_kindOf_50 := rfl
theorem jP_kindOf_52 : J 21 52 = qP_kindOf_52 := rfl
theorem jP_digitOf_0 : J 22 0 = qP_digitOf_0 := rfl
theorem jP_digitOf_18 : J 22 18 = qP_digitOf_18 := rfl
theorem jP_digitOf_20 : J 22 20 = qP_digitOf_20 := rfl
theorem jP_readDigit_0 : J 23 0 = qP_readDigit_0 := rfl
theorem jP_readDigit_25 : J 23 25 = qP_readDigit_25 := rfl
theorem jP_readNumber_0 : J 24 0 = qP_readNumber_0 := rfl
theorem jP_readNumber_12 : J 24 12 = qP_readNumber_12 := rfl
theorem jP_readNumber_64 : J 24 64 = qP_readNumber_64 := rfl
theorem jP_readNumber_78 : J 24 78 = qP_readNumber_78 := rfl
theorem jP_readNumber_81 : J 24 81 = qP_readNumber_81 := rfl
theorem jT_has_0 : J 25 0 = qT_has_0 := rfl
theorem jT_has_16 : J 25 16 = qT_has_16 := rfl
theorem jT_has_17 : J 25 17 = qT_has_17 := rfl
theorem jT_hasTwo_0 : J 26 0 = qT_hasTwo_0 := rfl
theorem jT_hasTwo_25 : J 26 25 = qT_hasTwo_25 := rfl
theorem jT_hasTwo_26 : J 26 26 = qT_hasTwo_26 := rfl
theorem jT_isFixed_0 : J 27 0 = qT_isFixed_0 := rfl
theorem jT_isFixed_20 : J 27 20 = qT_isFixed_20 := rfl
theorem jT_isFixed_24 : J 27 24 = qT_isFixed_24 := rfl
theorem jT_isFixed_25 : J 27 25 = qT_isFixed_25 := rfl
theorem jT_build_0 : J 28 0 = qT_build_0 := rfl
theorem jT_shareOf_0 : J 29 0 = qT_shareOf_0 := rfl
theorem jT_putShare_0 : J 30 0 = qT_putShare_0 := rfl
theorem jT_pullDown_0 : J 31 0 = qT_pullDown_0 := rfl
theorem jT_pullDown_2 : J 31 2 = qT_pullDown_2 := rfl
theorem jT_pullDown_21 : J 31 21 = qT_pullDown_21 := rfl
theorem jT_clear_0 : J 32 0 = qT_clear_0 := rfl
theorem jT_clear_7 : J 32 7 = qT_clear_7 := rfl
theorem jT_clear_26 : J 32 26 = qT_clear_26 := rfl
theorem jT_weight_0 : J 33 0 = qT_weight_0 := rfl
theorem jT_weight_4 : J 33 4 = qT_weight_4 := rfl
theorem jT_weight_27 : J 33 27 = qT_weight_27 := rfl
theorem jT_pairs_0 : J 34 0 = qT_pairs_0 := rfl
theorem jT_pairs_4 : J 34 4 = qT_pairs_4 := rfl
theorem jT_pairs_14 : J 34 14 = qT_pairs_14 := rfl
theorem jT_pairs_31 : J 34 31 = qT_pairs_31 := rfl
theorem jT_pairs_37 : J 34 37 = qT_pairs_37 := rfl
theorem jT_pairs_43 : J 34 43 = qT_pairs_43 := rfl
theorem jT_fixedSet_0 : J 35 0 = qT_fixedSet_0 := rfl
theorem jT_fixedSet_4 : J 35 4 = qT_fixedSet_4 := rfl
theorem jT_fixedSet_26 : J 35 26 = qT_fixedSet_26 := rfl
theorem jT_fixedSet_32 : J 35 32 = qT_fixedSet_32 := rfl
theorem jT_reachedSet_0 : J 36 0 = qT_reachedSet_0 := rfl
theorem jT_reachedSet_9 : J 36 9 = qT_reachedSet_9 := rfl
theorem jT_reachedSet_27 : J 36 27 = qT_reachedSet_27 := rfl
theorem jT_reachedSet_56 : J 36 56 = qT_reachedSet_56 := rfl
theorem jT_reachedSet_62 : J 36 62 = qT_reachedSet_62 := rfl
theorem jT_reachedSet_79 : J 36 79 = qT_reachedSet_79 := rfl
theorem jT_besideSet_0 : J 37 0 = qT_besideSet_0 := rfl
theorem jT_besideSet_4 : J 37 4 = qT_besideSet_4 := rfl
theorem jT_besideSet_27 : J 37 27 = qT_besideSet_27 := rfl
theorem jT_besideSet_33 : J 37 33 = qT_besideSet_33 := rfl
theorem jT_passYear_0 : J 38 0 = qT_passYear_0 := rfl
theorem jT_passYear_19 : J 38 19 = qT_passYear_19 := rfl
theorem jT_passYear_46 : J 38 46 = qT_passYear_46 := rfl
theorem jT_passYear_64 : J 38 64 = qT_passYear_64 := rfl
theorem jT_passYear_70 : J 38 70 = qT_passYear_70 := rfl
theorem jT_askingAfter_0 : J 39 0 = qT_askingAfter_0 := rfl
theorem jT_askingAfter_17 : J 39 17 = qT_askingAfter_17 := rfl
theorem jT_askingAfter_22 : J 39 22 = qT_askingAfter_22 := rfl
theorem jT_askingAfter_55 : J 39 55 = qT_askingAfter_55 := rfl
theorem jT_askingAfter_84 : J 39 84 = qT_askingAfter_84 := rfl
theorem jT_askingAfter_86 : J 39 86 = qT_askingAfter_86 := rfl
theorem jT_takeFrom_0 : J 40 0 = qT_takeFrom_0 := rfl
theorem jC_house_0 : J 41 0 = qC_house_0 := rfl
theorem jC_house_16 : J 41 16 = qC_house_16 := rfl
theorem jC_house_18 : J 41 18 = qC_house_18 := rfl
theorem jC_house_33 : J 41 33 = qC_house_33 := rfl
theorem jC_share_0 : J 42 0 = qC_share_0 := rfl
theorem jC_share_19 : J 42 19 = qC_share_19 := rfl
theorem jC_share_21 : J 42 21 = qC_share_21 := rfl
theorem jC_ask_0 : J 43 0 = qC_ask_0 := rfl
theorem jC_ask_18 : J 43 18 = qC_ask_18 := rfl
theorem jC_ask_20 : J 43 20 = qC_ask_20 := rfl
theorem jC_ask_36 : J 43 36 = qC_ask_36 := rfl
theorem jC_set_0 : J 44 0 = qC_set_0 := rfl
theorem jC_set_13 : J 44 13 = qC_set_13 := rfl
theorem jC_set_48 : J 44 48 = qC_set_48 := rfl
theorem jC_set_84 : J 44 84 = qC_set_84 := rfl
theorem jC_purse_0 : J 45 0 = qC_purse_0 := rfl
theorem jC_purse_9 : J 45 9 = qC_purse_9 := rfl
theorem jC_told_0 : J 46 0 = qC_told_0 := rfl
theorem jC_told_13 : J 46 13 = qC_told_13 := rfl
theorem jC_told_52 : J 46 52 = qC_told_52 := rfl
theorem jC_told_62 : J 46 62 = qC_told_62 := rfl
theorem jC_told_72 : J 46 72 = qC_told_72 := rfl
theorem jC_told_82 : J 46 82 = qC_told_82 := rfl
theorem jC_told_92 : J 46 92 = qC_told_92 := rfl
theorem jC_told_101 : J 46 101 = qC_told_101 := rfl
theorem jC_told_119 : J 46 119 = qC_told_119 := rfl
theorem jC_told_120 : J 46 120 = qC_told_120 := rfl
theorem jC_told_121 : J 46 121 = qC_told_121 := rfl
theorem jC_type_0 : J 47 0 = qC_type_0 := rfl
theorem jC_type_19 : J 47 19 = qC_type_19 := rfl
theorem jC_type_21 : J 47 21 = qC_type_21 := rfl
theorem jC_type_38 : J 47 38 = qC_type_38 := rfl
theorem jC_town_0 : J 48 0 = qC_town_0 := rfl
theorem jC_town_53 : J 48 53 = qC_town_53 := rfl
theorem jC_count_0 : J 49 0 = qC_count_0 := rfl
theorem jC_count_36 : J 49 36 = qC_count_36 := rfl
theorem jC_count_44 : J 49 44 = qC_count_44 := rfl
theorem jC_count_55 : J 49 55 = qC_count_55 := rfl
theorem jC_count_66 : J 49 66 = qC_count_66 := rfl
theorem jC_count_74 : J 49 74 = qC_count_74 := rfl
theorem jC_count_82 : J 49 82 = qC_count_82 := rfl
theorem jC_rent_0 : J 50 0 = qC_rent_0 := rfl
theorem jC_rent_18 : J 50 18 = qC_rent_18 := rfl
theorem jC_rent_22 : J 50 22 = qC_rent_22 := rfl
theorem jC_rent_48 : J 50 48 = qC_rent_48 := rfl
theorem jC_moves_0 : J 51 0 = qC_moves_0 := rfl
theorem jC_moves_29 : J 51 29 = qC_moves_29 := rfl
theorem jC_moves_33 : J 51 33 = qC_moves_33 := rfl
theorem jC_moves_48 : J 51 48 = qC_moves_48 := rfl
theorem jC_moves_74 : J 51 74 = qC_moves_74 := rfl
theorem jC_walk_0 : J 52 0 = qC_walk_0 := rfl
theorem jC_walk_18 : J 52 18 = qC_walk_18 := rfl
theorem jC_walk_22 : J 52 22 = qC_walk_22 := rfl
theorem jC_walk_48 : J 52 48 = qC_walk_48 := rfl
theorem jC_change_0 : J 53 0 = qC_change_0 := rfl
theorem jC_change_39 : J 53 39 = qC_change_39 := rfl
theorem jC_change_43 : J 53 43 = qC_change_43 := rfl
theorem jC_pulled_0 : J 54 0 = qC_pulled_0 := rfl
theorem jC_pulled_19 : J 54 19 = qC_pulled_19 := rfl
theorem jC_pulled_23 : J 54 23 = qC_pulled_23 := rfl
theorem jC_year_0 : J 55 0 = qC_year_0 := rfl
theorem jC_year_16 : J 55 16 = qC_year_16 := rfl
theorem jC_near_0 : J 56 0 = qC_near_0 := rfl
theorem jC_near_9 : J 56 9 = qC_near_9 := rfl
theorem jC_near_33 : J 56 33 = qC_near_33 := rfl
theorem jC_near_56 : J 56 56 = qC_near_56 := rfl
theorem jC_near_70 : J 56 70 = qC_near_70 := rfl
theorem jC_income_0 : J 57 0 = qC_income_0 := rfl
theorem jC_income_14 : J 57 14 = qC_income_14 := rfl
theorem jC_income_18 : J 57 18 = qC_income_18 := rfl
theorem jC_best_0 : J 58 0 = qC_best_0 := rfl
theorem jC_best_13 : J 58 13 = qC_best_13 := rfl
theorem jC_best_29 : J 58 29 = qC_best_29 := rfl
theorem jC_best_49 : J 58 49 = qC_best_49 := rfl
theorem jC_best_101 : J 58 101 = qC_best_101 := rfl
theorem jC_best_107 : J 58 107 = qC_best_107 := rfl
theorem jC_rests_0 : J 59 0 = qC_rests_0 := rfl
theorem jC_rests_21 : J 59 21 = qC_rests_21 := rfl
theorem jC_rests_23 : J 59 23 = qC_rests_23 := rfl
theorem jC_rests_70 : J 59 70 = qC_rests_70 := rfl
theorem jC_rests_73 : J 59 73 = qC_rests_73 := rfl
theorem jC_rests_89 : J 59 89 = qC_rests_89 := rfl
theorem jC_rests_135 : J 59 135 = qC_rests_135 := rfl
theorem jC_rests_141 : J 59 141 = qC_rests_141 := rfl
theorem jC_rests_150 : J 59 150 = qC_rests_150 := rfl
theorem jC_rests_152 : J 59 152 = qC_rests_152 := rfl
theorem jC_bought_0 : J 60 0 = qC_bought_0 := rfl
theorem jC_bought_25 : J 60 25 = qC_bought_25 := rfl
theorem jC_bought_27 : J 60 27 = qC_bought_27 := rfl
theorem jC_bought_41 : J 60 41 = qC_bought_41 := rfl
theorem jC_bought_72 : J 60 72 = qC_bought_72 := rfl
theorem jC_bought_106 : J 60 106 = qC_bought_106 := rfl
theorem jC_bought_110 : J 60 110 = qC_bought_110 := rfl
theorem jC_bought_111 : J 60 111 = qC_bought_111 := rfl
theorem jC_bought_142 : J 60 142 = qC_bought_142 := rfl
theorem jC_bought_148 : J 60 148 = qC_bought_148 := rfl
theorem jC_image_0 : J 61 0 = qC_image_0 := rfl
theorem jC_restore_0 : J 62 0 = qC_restore_0 := rfl
theorem jC_restore_10 : J 62 10 = qC_restore_10 := rfl
theorem jC_book_0 : J 63 0 = qC_book_0 := rfl
theorem jC_book_26 : J 63 26 = qC_book_26 := rfl
theorem jC_book_37 : J 63 37 = qC_book_37 := rfl
theorem jC_book_79 : J 63 79 = qC_book_79 := rfl
theorem jC_book_82 : J 63 82 = qC_book_82 := rfl
theorem jC_book_88 : J 63 88 = qC_book_88 := rfl
theorem jC_book_102 : J 63 102 = qC_book_102 := rfl
theorem jC_book_141 : J 63 141 = qC_book_141 := rfl
theorem jC_book_152 : J 63 152 = qC_book_152 := rfl
theorem jC_book_200 : J 63 200 = qC_book_200 := rfl
theorem jC_book_206 : J 63 206 = qC_book_206 := rfl
theorem jC_film_0 : J 64 0 = qC_film_0 := rfl
theorem jC_film_24 : J 64 24 = qC_film_24 := rfl
theorem jC_film_27 : J 64 27 = qC_film_27 := rfl
theorem jC_film_70 : J 64 70 = qC_film_70 := rfl
theorem jC_sheet_0 : J 65 0 = qC_sheet_0 := rfl
theorem jC_sheet_20 : J 65 20 = qC_sheet_20 := rfl
theorem jC_sheet_22 : J 65 22 = qC_sheet_22 := rfl
theorem jC_sheet_29 : J 65 29 = qC_sheet_29 := rfl
theorem jC_drop_0 : J 66 0 = qC_drop_0 := rfl
theorem jC_drop_9 : J 66 9 = qC_drop_9 := rfl
theorem jC_drop_24 : J 66 24 = qC_drop_24 := rfl
theorem jC_item_0 : J 67 0 = qC_item_0 := rfl
theorem jC_item_18 : J 67 18 = qC_item_18 := rfl
theorem jC_copy_0 : J 68 0 = qC_copy_0 := rfl
theorem jC_copy_14 : J 68 14 = qC_copy_14 := rfl
theorem jC_copy_16 : J 68 16 = qC_copy_16 := rfl
theorem jC_copy_48 : J 68 48 = qC_copy_48 := rfl
theorem jC_copy_51 : J 68 51 = qC_copy_51 := rfl
theorem jC_copy_67 : J 68 67 = qC_copy_67 := rfl
theorem jC_copy_90 : J 68 90 = qC_copy_90 := rfl
theorem jC_copy_93 : J 68 93 = qC_copy_93 := rfl
theorem jC_isPence_0 : J 69 0 = qC_isPence_0 := rfl
theorem jC_isPence_14 : J 69 14 = qC_isPence_14 := rfl
theorem jC_isPence_15 : J 69 15 = qC_isPence_15 := rfl
theorem jC_isShare_0 : J 70 0 = qC_isShare_0 := rfl
theorem jC_isShare_13 : J 70 13 = qC_isShare_13 := rfl
theorem jC_isShare_14 : J 70 14 = qC_isShare_14 := rfl
theorem jC_isOwner_0 : J 71 0 = qC_isOwner_0 := rfl
theorem jC_isOwner_13 : J 71 13 = qC_isOwner_13 := rfl
theorem jC_isOwner_14 : J 71 14 = qC_isOwner_14 := rfl
theorem jC_isPart_0 : J 72 0 = qC_isPart_0 := rfl
theorem jC_isPart_9 : J 72 9 = qC_isPart_9 := rfl
theorem jC_isPart_13 : J 72 13 = qC_isPart_13 := rfl
theorem jC_isPart_14 : J 72 14 = qC_isPart_14 := rfl
theorem jC_isSheet_0 : J 73 0 = qC_isSheet_0 := rfl
theorem jC_isSheet_13 : J 73 13 = qC_isSheet_13 := rfl
theorem jC_isSheet_14 : J 73 14 = qC_isSheet_14 := rfl
theorem jC_isLane_0 : J 74 0 = qC_isLane_0 := rfl
theorem jC_isLane_13 : J 74 13 = qC_isLane_13 := rfl
theorem jC_isLane_14 : J 74 14 = qC_isLane_14 := rfl
theorem jC_isIn_0 : J 75 0 = qC_isIn_0 := rfl
theorem jC_isIn_13 : J 75 13 = qC_isIn_13 := rfl
theorem jC_isIn_14 : J 75 14 = qC_isIn_14 := rfl
theorem jC_areSigns_0 : J 76 0 = qC_areSigns_0 := rfl
theorem jC_areSigns_2 : J 76 2 = qC_areSigns_2 := rfl
theorem jC_areSigns_28 : J 76 28 = qC_areSigns_28 := rfl
theorem jC_areSigns_30 : J 76 30 = qC_areSigns_30 := rfl
theorem jC_areSigns_36 : J 76 36 = qC_areSigns_36 := rfl
theorem jC_byteOf_0 : J 77 0 = qC_byteOf_0 := rfl
theorem jC_lowestBits_0 : J 78 0 = qC_lowestBits_0 := rfl
theorem jC_lowestBits_9 : J 78 9 = qC_lowestBits_9 := rfl
theorem jC_lowestBits_21 : J 78 21 = qC_lowestBits_21 := rfl
theorem jC_lowestBits_22 : J 78 22 = qC_lowestBits_22 := rfl
theorem jC_lowest_0 : J 79 0 = qC_lowest_0 := rfl
theorem jC_lowest_19 : J 79 19 = qC_lowest_19 := rfl
theorem jC_lowest_28 : J 79 28 = qC_lowest_28 := rfl
theorem jC_lowest_29 : J 79 29 = qC_lowest_29 := rfl
theorem jC_commonDivisor_0 : J 80 0 = qC_commonDivisor_0 := rfl
theorem jC_commonDivisor_9 : J 80 9 = qC_commonDivisor_9 := rfl
theorem jC_commonDivisor_44 : J 80 44 = qC_commonDivisor_44 := rfl
theorem jC_trialLessNow_0 : J 81 0 = qC_trialLessNow_0 := rfl
theorem jC_trialLessNow_26 : J 81 26 = qC_trialLessNow_26 := rfl
theorem jC_trialLessNow_71 : J 81 71 = qC_trialLessNow_71 := rfl
theorem jC_fillIncomes_0 : J 82 0 = qC_fillIncomes_0 := rfl
theorem jC_fillIncomes_13 : J 82 13 = qC_fillIncomes_13 := rfl
theorem jC_fillIncomes_107 : J 82 107 = qC_fillIncomes_107 := rfl
theorem jC_isRest_0 : J 83 0 = qC_isRest_0 := rfl
theorem jC_isRest_13 : J 83 13 = qC_isRest_13 := rfl
theorem jC_isRest_64 : J 83 64 = qC_isRest_64 := rfl
theorem jC_isRest_66 : J 83 66 = qC_isRest_66 := rfl
theorem jC_isRest_72 : J 83 72 = qC_isRest_72 := rfl
theorem jC_isCheapWhenBought_0 : J 84 0 = qC_isCheapWhenBought_0 := rfl
theorem jC_isCheapWhenBought_3 : J 84 3 = qC_isCheapWhenBought_3 := rfl
theorem jC_isCheapWhenBought_41 : J 84 41 = qC_isCheapWhenBought_41 := rfl
theorem jC_isCheapWhenBought_51 : J 84 51 = qC_isCheapWhenBought_51 := rfl
theorem jC_isCheapWhenBought_70 : J 84 70 = qC_isCheapWhenBought_70 := rfl
theorem jC_isCheapWhenBought_80 : J 84 80 = qC_isCheapWhenBought_80 := rfl
theorem jC_isCheapWhenBought_87 : J 84 87 = qC_isCheapWhenBought_87 := rfl
theorem jC_isCheapWhenBought_137 : J 84 137 = qC_isCheapWhenBought_137 := rfl
theorem jC_isCheapWhenBought_138 : J 84 138 = qC_isCheapWhenBought_138 := rfl
theorem jC_refusal_0 : J 85 0 = qC_refusal_0 := rfl
theorem jC_refusal_14 : J 85 14 = qC_refusal_14 := rfl
theorem jC_refusal_16 : J 85 16 = qC_refusal_16 := rfl
theorem jC_refusal_31 : J 85 31 = qC_refusal_31 := rfl
theorem jC_refusal_47 : J 85 47 = qC_refusal_47 := rfl
theorem jC_refusal_66 : J 85 66 = qC_refusal_66 := rfl
theorem jC_refusal_68 : J 85 68 = qC_refusal_68 := rfl
theorem jM_in_0 : J 86 0 = qM_in_0 := rfl
theorem jM_in_17 : J 86 17 = qM_in_17 := rfl
theorem jM_in_18 : J 86 18 = qM_in_18 := rfl
theorem jM_isHouse_0 : J 87 0 = qM_isHouse_0 := rfl
theorem jM_areTwo_0 : J 88 0 = qM_areTwo_0 := rfl
theorem jM_areTwo_25 : J 88 25 = qM_areTwo_25 := rfl
theorem jM_areTwo_26 : J 88 26 = qM_areTwo_26 := rfl
theorem jM_comes_0 : J 89 0 = qM_comes_0 := rfl
theorem jM_comes_43 : J 89 43 = qM_comes_43 := rfl
theorem jM_comes_85 : J 89 85 = qM_comes_85 := rfl
theorem jM_house_0 : J 90 0 = qM_house_0 := rfl
theorem jM_house_24 : J 90 24 = qM_house_24 := rfl
theorem jM_house_26 : J 90 26 = qM_house_26 := rfl
theorem jM_house_38 : J 90 38 = qM_house_38 := rfl
theorem jM_puts_0 : J 91 0 = qM_puts_0 := rfl
theorem jM_share_0 : J 92 0 = qM_share_0 := rfl
theorem jM_share_21 : J 92 21 = qM_share_21 := rfl
theorem jM_share_23 : J 92 23 = qM_share_23 := rfl
theorem jM_ask_0 : J 93 0 = qM_ask_0 := rfl
theorem jM_ask_20 : J 93 20 = qM_ask_20 := rfl
theorem jM_ask_22 : J 93 22 = qM_ask_22 := rfl
theorem jM_ask_35 : J 93 35 = qM_ask_35 := rfl
theorem jM_set_0 : J 94 0 = qM_set_0 := rfl
theorem jM_set_31 : J 94 31 = qM_set_31 := rfl
theorem jM_set_34 : J 94 34 = qM_set_34 := rfl
theorem jM_set_40 : J 94 40 = qM_set_40 := rfl
theorem jM_set_42 : J 94 42 = qM_set_42 := rfl
theorem jM_set_55 : J 94 55 = qM_set_55 := rfl
theorem jM_set_61 : J 94 61 = qM_set_61 := rfl
theorem jM_set_77 : J 94 77 = qM_set_77 := rfl
theorem jM_set_84 : J 94 84 = qM_set_84 := rfl
theorem jM_purse_0 : J 95 0 = qM_purse_0 := rfl
theorem jM_purse_14 : J 95 14 = qM_purse_14 := rfl
theorem jM_weight_0 : J 96 0 = qM_weight_0 := rfl
theorem jM_weight_4 : J 96 4 = qM_weight_4 := rfl
theorem jM_weight_32 : J 96 32 = qM_weight_32 := rfl
theorem jM_isFixed_0 : J 97 0 = qM_isFixed_0 := rfl
theorem jM_isFixed_32 : J 97 32 = qM_isFixed_32 := rfl
theorem jM_isFixed_36 : J 97 36 = qM_isFixed_36 := rfl
theorem jM_isFixed_37 : J 97 37 = qM_isFixed_37 := rfl
theorem jM_reached_0 : J 98 0 = qM_reached_0 := rfl
theorem jM_reached_4 : J 98 4 = qM_reached_4 := rfl
theorem jM_reached_27 : J 98 27 = qM_reached_27 := rfl
theorem jM_reached_28 : J 98 28 = qM_reached_28 := rfl
theorem jM_reached_36 : J 98 36 = qM_reached_36 := rfl
theorem jM_reached_38 : J 98 38 = qM_reached_38 := rfl
theorem jM_reached_48 : J 98 48 = qM_reached_48 := rfl
theorem jM_reached_59 : J 98 59 = qM_reached_59 := rfl
theorem jM_reached_97 : J 98 97 = qM_reached_97 := rfl
theorem jM_reached_98 : J 98 98 = qM_reached_98 := rfl
theorem jM_reached_112 : J 98 112 = qM_reached_112 := rfl
theorem jM_reached_113 : J 98 113 = qM_reached_113 := rfl
theorem jM_reached_121 : J 98 121 = qM_reached_121 := rfl
theorem jM_reached_127 : J 98 127 = qM_reached_127 := rfl
theorem jM_reached_133 : J 98 133 = qM_reached_133 := rfl
theorem jM_told_0 : J 99 0 = qM_told_0 := rfl
theorem jM_told_20 : J 99 20 = qM_told_20 := rfl
theorem jM_told_22 : J 99 22 = qM_told_22 := rfl
theorem jM_told_56 : J 99 56 = qM_told_56 := rfl
theorem jM_told_63 : J 99 63 = qM_told_63 := rfl
theorem jM_told_70 : J 99 70 = qM_told_70 := rfl
theorem jM_told_77 : J 99 77 = qM_told_77 := rfl
theorem jM_told_84 : J 99 84 = qM_told_84 := rfl
theorem jM_told_90 : J 99 90 = qM_told_90 := rfl
theorem jM_count_0 : J 100 0 = qM_count_0 := rfl
theorem jM_count_7 : J 100 7 = qM_count_7 := rfl
theorem jM_count_30 : J 100 30 = qM_count_30 := rfl
theorem jM_count_31 : J 100 31 = qM_count_31 := rfl
theorem jM_count_36 : J 100 36 = qM_count_36 := rfl
theorem jM_count_64 : J 100 64 = qM_count_64 := rfl
theorem jM_count_65 : J 100 65 = qM_count_65 := rfl
theorem jM_count_73 : J 100 73 = qM_count_73 := rfl
theorem jM_count_79 : J 100 79 = qM_count_79 := rfl
theorem jM_count_116 : J 100 116 = qM_count_116 := rfl
theorem jM_count_121 : J 100 121 = qM_count_121 := rfl
theorem jM_count_123 : J 100 123 = qM_count_123 := rfl
theorem jM_count_131 : J 100 131 = qM_count_131 := rfl
theorem jM_count_133 : J 100 133 = qM_count_133 := rfl
theorem jM_count_138 : J 100 138 = qM_count_138 := rfl
theorem jM_size_0 : J 101 0 = qM_size_0 := rfl
theorem jM_size_4 : J 101 4 = qM_size_4 := rfl
theorem jM_size_20 : J 101 20 = qM_size_20 := rfl
theorem jM_type_0 : J 102 0 = qM_type_0 := rfl
theorem jM_type_14 : J 102 14 = qM_type_14 := rfl
theorem jM_type_17 : J 102 17 = qM_type_17 := rfl
theorem jM_type_48 : J 102 48 = qM_type_48 := rfl
theorem jM_type_54 : J 102 54 = qM_type_54 := rfl
theorem jM_type_68 : J 102 68 = qM_type_68 := rfl
theorem jM_type_73 : J 102 73 = qM_type_73 := rfl
theorem jM_type_115 : J 102 115 = qM_type_115 := rfl
theorem jM_here_0 : J 103 0 = qM_here_0 := rfl
theorem jM_here_38 : J 103 38 = qM_here_38 := rfl
theorem jM_here_61 : J 103 61 = qM_here_61 := rfl
theorem jM_here_62 : J 103 62 = qM_here_62 := rfl
theorem jM_has_0 : J 104 0 = qM_has_0 := rfl
theorem jM_has_19 : J 104 19 = qM_has_19 := rfl
theorem jM_has_20 : J 104 20 = qM_has_20 := rfl
theorem jM_has_34 : J 104 34 = qM_has_34 := rfl
theorem jM_has_35 : J 104 35 = qM_has_35 := rfl
theorem jM_must_0 : J 105 0 = qM_must_0 := rfl
theorem jM_must_11 : J 105 11 = qM_must_11 := rfl
theorem jM_must_15 : J 105 15 = qM_must_15 := rfl
theorem jM_must_36 : J 105 36 = qM_must_36 := rfl
theorem jM_must_40 : J 105 40 = qM_must_40 := rfl
theorem jM_must_41 : J 105 41 = qM_must_41 := rfl
theorem jM_must_60 : J 105 60 = qM_must_60 := rfl
theorem jM_must_61 : J 105 61 = qM_must_61 := rfl
theorem jM_number_0 : J 106 0 = qM_number_0 := rfl
theorem jM_number_24 : J 106 24 = qM_number_24 := rfl
theorem jM_number_31 : J 106 31 = qM_number_31 := rfl
theorem jM_number_38 : J 106 38 = qM_number_38 := rfl
theorem jM_number_82 : J 106 82 = qM_number_82 := rfl
theorem jM_number_99 : J 106 99 = qM_number_99 := rfl
theorem jM_number_113 : J 106 113 = qM_number_113 := rfl
theorem jM_number_123 : J 106 123 = qM_number_123 := rfl
theorem jM_number_124 : J 106 124 = qM_number_124 := rfl
theorem jM_number_139 : J 106 139 = qM_number_139 := rfl
theorem jM_number_143 : J 106 143 = qM_number_143 := rfl
theorem jM_kindOf_0 : J 107 0 = qM_kindOf_0 := rfl
theorem jM_kindOf_10 : J 107 10 = qM_kindOf_10 := rfl
theorem jM_kindOf_20 : J 107 20 = qM_kindOf_20 := rfl
theorem jM_kindOf_30 : J 107 30 = qM_kindOf_30 := rfl
theorem jM_kindOf_40 : J 107 40 = qM_kindOf_40 := rfl
theorem jM_kindOf_42 : J 107 42 = qM_kindOf_42 := rfl
theorem jM_readHouses_0 : J 108 0 = qM_readHouses_0 := rfl
theorem jM_readHouses_4 : J 108 4 = qM_readHouses_4 := rfl
theorem jM_readHouses_20 : J 108 20 = qM_readHouses_20 := rfl
theorem jM_readHouses_27 : J 108 27 = qM_readHouses_27 := rfl
theorem jM_readHouses_40 : J 108 40 = qM_readHouses_40 := rfl
theorem jM_readHouses_44 : J 108 44 = qM_readHouses_44 := rfl
theorem jM_readHouses_45 : J 108 45 = qM_readHouses_45 := rfl
theorem jM_readHouses_64 : J 108 64 = qM_readHouses_64 := rfl
theorem jM_readHouses_65 : J 108 65 = qM_readHouses_65 := rfl
theorem jM_readHouses_116 : J 108 116 = qM_readHouses_116 := rfl
theorem jM_readHouses_117 : J 108 117 = qM_readHouses_117 := rfl
theorem jM_readHouses_121 : J 108 121 = qM_readHouses_121 := rfl
theorem jM_readPairs_0 : J 109 0 = qM_readPairs_0 := rfl
theorem jM_readPairs_4 : J 109 4 = qM_readPairs_4 := rfl
theorem jM_readPairs_62 : J 109 62 = qM_readPairs_62 := rfl
theorem jM_readPairs_66 : J 109 66 = qM_readPairs_66 := rfl
theorem jM_readPairs_67 : J 109 67 = qM_readPairs_67 := rfl
theorem jM_readPairs_84 : J 109 84 = qM_readPairs_84 := rfl
theorem jM_readPairs_88 : J 109 88 = qM_readPairs_88 := rfl
theorem jM_readPairs_104 : J 109 104 = qM_readPairs_104 := rfl
theorem jM_readPairs_108 : J 109 108 = qM_readPairs_108 := rfl
theorem jM_readPairs_109 : J 109 109 = qM_readPairs_109 := rfl
theorem jM_readPairs_168 : J 109 168 = qM_readPairs_168 := rfl
theorem jM_readPairs_190 : J 109 190 = qM_readPairs_190 := rfl
theorem jM_readPairs_191 : J 109 191 = qM_readPairs_191 := rfl
theorem jM_readPairs_195 : J 109 195 = qM_readPairs_195 := rfl
theorem jM_town_0 : J 110 0 = qM_town_0 := rfl
theorem jM_town_12 : J 110 12 = qM_town_12 := rfl
theorem jM_town_32 : J 110 32 = qM_town_32 := rfl
theorem jM_town_51 : J 110 51 = qM_town_51 := rfl
theorem jM_town_66 : J 110 66 = qM_town_66 := rfl
theorem jM_town_70 : J 110 70 = qM_town_70 := rfl
theorem jM_town_71 : J 110 71 = qM_town_71 := rfl
theorem jM_town_94 : J 110 94 = qM_town_94 := rfl
theorem jM_town_101 : J 110 101 = qM_town_101 := rfl
theorem jM_town_134 : J 110 134 = qM_town_134 := rfl
theorem jM_town_136 : J 110 136 = qM_town_136 := rfl
theorem jM_town_163 : J 110 163 = qM_town_163 := rfl
theorem jM_town_169 : J 110 169 = qM_town_169 := rfl
theorem jM_solves_0 : J 111 0 = qM_solves_0 := rfl
theorem jM_solves_10 : J 111 10 = qM_solves_10 := rfl
theorem jM_solves_20 : J 111 20 = qM_solves_20 := rfl
theorem jM_solves_47 : J 111 47 = qM_solves_47 := rfl
theorem jM_solves_48 : J 111 48 = qM_solves_48 := rfl
theorem jM_solves_55 : J 111 55 = qM_solves_55 := rfl
theorem jM_solves_79 : J 111 79 = qM_solves_79 := rfl
theorem jM_solves_89 : J 111 89 = qM_solves_89 := rfl
theorem jM_solves_100 : J 111 100 = qM_solves_100 := rfl
theorem jM_solves_101 : J 111 101 = qM_solves_101 := rfl
theorem jM_solves_126 : J 111 126 = qM_solves_126 := rfl
theorem jM_solves_127 : J 111 127 = qM_solves_127 := rfl
theorem jM_solves_146 : J 111 146 = qM_solves_146 := rfl
theorem jM_solves_147 : J 111 147 = qM_solves_147 := rfl
theorem jM_solves_156 : J 111 156 = qM_solves_156 := rfl
theorem jM_solves_191 : J 111 191 = qM_solves_191 := rfl
theorem jM_solves_205 : J 111 205 = qM_solves_205 := rfl
theorem jM_solves_212 : J 111 212 = qM_solves_212 := rfl
theorem jM_solves_230 : J 111 230 = qM_solves_230 := rfl
theorem jM_solves_231 : J 111 231 = qM_solves_231 := rfl
theorem jM_solves_232 : J 111 232 = qM_solves_232 := rfl
theorem jM_solves_238 : J 111 238 = qM_solves_238 := rfl
theorem jM_solves_243 : J 111 243 = qM_solves_243 := rfl
theorem jM_solves_276 : J 111 276 = qM_solves_276 := rfl
theorem jM_solves_284 : J 111 284 = qM_solves_284 := rfl
theorem jM_solves_313 : J 111 313 = qM_solves_313 := rfl
theorem jM_clears_0 : J 112 0 = qM_clears_0 := rfl
theorem jM_clears_14 : J 112 14 = qM_clears_14 := rfl
theorem jM_clears_40 : J 112 40 = qM_clears_40 := rfl
theorem jM_clears_108 : J 112 108 = qM_clears_108 := rfl
theorem jM_clears_130 : J 112 130 = qM_clears_130 := rfl
theorem jM_clears_152 : J 112 152 = qM_clears_152 := rfl
theorem jM_clears_159 : J 112 159 = qM_clears_159 := rfl
theorem jM_lowest_0 : J 113 0 = qM_lowest_0 := rfl
theorem jM_lowest_11 : J 113 11 = qM_lowest_11 := rfl
theorem jM_lowest_12 : J 113 12 = qM_lowest_12 := rfl
theorem jM_lowest_17 : J 113 17 = qM_lowest_17 := rfl
theorem jM_lowest_42 : J 113 42 = qM_lowest_42 := rfl
theorem jM_lowest_54 : J 113 54 = qM_lowest_54 := rfl
theorem jM_lowest_58 : J 113 58 = qM_lowest_58 := rfl
theorem jM_isKnown_0 : J 114 0 = qM_isKnown_0 := rfl
theorem jM_isKnown_16 : J 114 16 = qM_isKnown_16 := rfl
theorem jM_isKnown_17 : J 114 17 = qM_isKnown_17 := rfl
theorem jM_rent_0 : J 115 0 = qM_rent_0 := rfl
theorem jM_rent_18 : J 115 18 = qM_rent_18 := rfl
theorem jM_rent_22 : J 115 22 = qM_rent_22 := rfl
theorem jM_rent_52 : J 115 52 = qM_rent_52 := rfl
theorem jM_rent_55 : J 115 55 = qM_rent_55 := rfl
theorem jM_moves_0 : J 116 0 = qM_moves_0 := rfl
theorem jM_moves_26 : J 116 26 = qM_moves_26 := rfl
theorem jM_moves_30 : J 116 30 = qM_moves_30 := rfl
theorem jM_moves_42 : J 116 42 = qM_moves_42 := rfl
theorem jM_moves_74 : J 116 74 = qM_moves_74 := rfl
theorem jM_moves_77 : J 116 77 = qM_moves_77 := rfl
theorem jM_walk_0 : J 117 0 = qM_walk_0 := rfl
theorem jM_walk_18 : J 117 18 = qM_walk_18 := rfl
theorem jM_walk_22 : J 117 22 = qM_walk_22 := rfl
theorem jM_walk_52 : J 117 52 = qM_walk_52 := rfl
theorem jM_walk_55 : J 117 55 = qM_walk_55 := rfl
theorem jM_differs_0 : J 118 0 = qM_differs_0 := rfl
theorem jM_differs_22 : J 118 22 = qM_differs_22 := rfl
theorem jM_differs_23 : J 118 23 = qM_differs_23 := rfl
theorem jM_differs_42 : J 118 42 = qM_differs_42 := rfl
theorem jM_differs_69 : J 118 69 = qM_differs_69 := rfl
theorem jM_differs_78 : J 118 78 = qM_differs_78 := rfl
theorem jM_keeps_0 : J 119 0 = qM_keeps_0 := rfl
theorem jM_keeps_2 : J 119 2 = qM_keeps_2 := rfl
theorem jM_keeps_26 : J 119 26 = qM_keeps_26 := rfl
theorem jM_change_0 : J 120 0 = qM_change_0 := rfl
theorem jM_change_41 : J 120 41 = qM_change_41 := rfl
theorem jM_change_45 : J 120 45 = qM_change_45 := rfl
theorem jM_pulled_0 : J 121 0 = qM_pulled_0 := rfl
theorem jM_pulled_19 : J 121 19 = qM_pulled_19 := rfl
theorem jM_pulled_23 : J 121 23 = qM_pulled_23 := rfl
theorem jM_pulled_56 : J 121 56 = qM_pulled_56 := rfl
theorem jM_pulled_79 : J 121 79 = qM_pulled_79 := rfl
theorem jM_goesOn_0 : J 122 0 = qM_goesOn_0 := rfl
theorem jM_goesOn_2 : J 122 2 = qM_goesOn_2 := rfl
theorem jM_goesOn_22 : J 122 22 = qM_goesOn_22 := rfl
theorem jM_goesOn_59 : J 122 59 = qM_goesOn_59 := rfl
theorem jM_goesOn_71 : J 122 71 = qM_goesOn_71 := rfl
theorem jM_goesOn_77 : J 122 77 = qM_goesOn_77 := rfl
theorem jM_goesOn_81 : J 122 81 = qM_goesOn_81 := rfl
theorem jM_goesOn_112 : J 122 112 = qM_goesOn_112 := rfl
theorem jM_goesOn_113 : J 122 113 = qM_goesOn_113 := rfl
theorem jM_goesOn_134 : J 122 134 = qM_goesOn_134 := rfl
theorem jM_goesOn_136 : J 122 136 = qM_goesOn_136 := rfl
theorem jM_goesOn_143 : J 122 143 = qM_goesOn_143 := rfl
theorem jM_year_0 : J 123 0 = qM_year_0 := rfl
theorem jM_year_13 : J 123 13 = qM_year_13 := rfl
theorem jM_year_25 : J 123 25 = qM_year_25 := rfl
theorem jM_year_53 : J 123 53 = qM_year_53 := rfl
theorem jM_year_54 : J 123 54 = qM_year_54 := rfl
theorem jM_year_74 : J 123 74 = qM_year_74 := rfl
theorem jM_near_0 : J 124 0 = qM_near_0 := rfl
theorem jM_near_14 : J 124 14 = qM_near_14 := rfl
theorem jM_near_21 : J 124 21 = qM_near_21 := rfl
theorem jM_near_47 : J 124 47 = qM_near_47 := rfl
theorem jM_near_49 : J 124 49 = qM_near_49 := rfl
theorem jM_near_60 : J 124 60 = qM_near_60 := rfl
theorem jM_near_105 : J 124 105 = qM_near_105 := rfl
theorem jM_near_107 : J 124 107 = qM_near_107 := rfl
theorem jM_near_135 : J 124 135 = qM_near_135 := rfl
theorem jM_near_139 : J 124 139 = qM_near_139 := rfl
theorem jM_near_140 : J 124 140 = qM_near_140 := rfl
theorem jM_near_147 : J 124 147 = qM_near_147 := rfl
theorem jM_near_153 : J 124 153 = qM_near_153 := rfl
theorem jM_near_164 : J 124 164 = qM_near_164 := rfl
theorem jM_near_193 : J 124 193 = qM_near_193 := rfl
theorem jM_near_199 : J 124 199 = qM_near_199 := rfl
theorem jM_incomeOf_0 : J 125 0 = qM_incomeOf_0 := rfl
theorem jM_incomeOf_10 : J 125 10 = qM_incomeOf_10 := rfl
theorem jM_incomeOf_64 : J 125 64 = qM_incomeOf_64 := rfl
theorem jM_incomeOf_65 : J 125 65 = qM_incomeOf_65 := rfl
theorem jM_incomeOf_83 : J 125 83 = qM_incomeOf_83 := rfl
theorem jM_incomeOf_84 : J 125 84 = qM_incomeOf_84 := rfl
theorem jM_incomeOf_92 : J 125 92 = qM_incomeOf_92 := rfl
theorem jM_income_0 : J 126 0 = qM_income_0 := rfl
theorem jM_income_22 : J 126 22 = qM_income_22 := rfl
theorem jM_income_26 : J 126 26 = qM_income_26 := rfl
theorem jM_best_0 : J 127 0 = qM_best_0 := rfl
theorem jM_best_10 : J 127 10 = qM_best_10 := rfl
theorem jM_best_23 : J 127 23 = qM_best_23 := rfl
theorem jM_best_40 : J 127 40 = qM_best_40 := rfl
theorem jM_best_80 : J 127 80 = qM_best_80 := rfl
theorem jM_best_81 : J 127 81 = qM_best_81 := rfl
theorem jM_best_95 : J 127 95 = qM_best_95 := rfl
theorem jM_best_97 : J 127 97 = qM_best_97 := rfl
theorem jM_best_105 : J 127 105 = qM_best_105 := rfl
theorem jM_rests_0 : J 128 0 = qM_rests_0 := rfl
theorem jM_rests_19 : J 128 19 = qM_rests_19 := rfl
theorem jM_rests_21 : J 128 21 = qM_rests_21 := rfl
theorem jM_rests_56 : J 128 56 = qM_rests_56 := rfl
theorem jM_rests_59 : J 128 59 = qM_rests_59 := rfl
theorem jM_rests_78 : J 128 78 = qM_rests_78 := rfl
theorem jM_rests_153 : J 128 153 = qM_rests_153 := rfl
theorem jM_rests_180 : J 128 180 = qM_rests_180 := rfl
theorem jM_rests_191 : J 128 191 = qM_rests_191 := rfl
theorem jM_rests_261 : J 128 261 = qM_rests_261 := rfl
theorem jM_rests_262 : J 128 262 = qM_rests_262 := rfl
theorem jM_rests_270 : J 128 270 = qM_rests_270 := rfl
theorem jM_rests_281 : J 128 281 = qM_rests_281 := rfl
theorem jM_rests_282 : J 128 282 = qM_rests_282 := rfl
theorem jM_rests_311 : J 128 311 = qM_rests_311 := rfl
theorem jM_rests_313 : J 128 313 = qM_rests_313 := rfl
theorem jM_rests_321 : J 128 321 = qM_rests_321 := rfl
theorem jM_rests_330 : J 128 330 = qM_rests_330 := rfl
theorem jM_rests_332 : J 128 332 = qM_rests_332 := rfl
theorem jM_bought_0 : J 129 0 = qM_bought_0 := rfl
theorem jM_bought_32 : J 129 32 = qM_bought_32 := rfl
theorem jM_bought_34 : J 129 34 = qM_bought_34 := rfl
theorem jM_bought_45 : J 129 45 = qM_bought_45 := rfl
theorem jM_bought_51 : J 129 51 = qM_bought_51 := rfl
theorem jM_bought_77 : J 129 77 = qM_bought_77 := rfl
theorem jM_bought_81 : J 129 81 = qM_bought_81 := rfl
theorem jM_bought_85 : J 129 85 = qM_bought_85 := rfl
theorem jM_bought_94 : J 129 94 = qM_bought_94 := rfl
theorem jM_bought_110 : J 129 110 = qM_bought_110 := rfl
theorem jM_bought_181 : J 129 181 = qM_bought_181 := rfl
theorem jM_bought_182 : J 129 182 = qM_bought_182 := rfl
theorem jM_bought_194 : J 129 194 = qM_bought_194 := rfl
theorem jM_bought_196 : J 129 196 = qM_bought_196 := rfl
theorem jM_bought_211 : J 129 211 = qM_bought_211 := rfl
theorem jM_bought_213 : J 129 213 = qM_bought_213 := rfl
theorem jM_bought_215 : J 129 215 = qM_bought_215 := rfl
theorem jM_bought_221 : J 129 221 = qM_bought_221 := rfl
theorem jM_lay_0 : J 130 0 = qM_lay_0 := rfl
theorem jM_lay_2 : J 130 2 = qM_lay_2 := rfl
theorem jM_lay_25 : J 130 25 = qM_lay_25 := rfl
theorem jM_gives_0 : J 131 0 = qM_gives_0 := rfl
theorem jM_gives_2 : J 131 2 = qM_gives_2 := rfl
theorem jM_gives_25 : J 131 25 = qM_gives_25 := rfl
theorem jM_image_0 : J 132 0 = qM_image_0 := rfl
theorem jM_restore_0 : J 133 0 = qM_restore_0 := rfl
theorem jM_restore_10 : J 133 10 = qM_restore_10 := rfl
theorem jM_isSheet_0 : J 134 0 = qM_isSheet_0 := rfl
theorem jM_isLane_0 : J 135 0 = qM_isLane_0 := rfl
theorem jM_why_0 : J 136 0 = qM_why_0 := rfl
theorem jM_why_12 : J 136 12 = qM_why_12 := rfl
theorem jM_why_25 : J 136 25 = qM_why_25 := rfl
theorem jM_why_46 : J 136 46 = qM_why_46 := rfl
theorem jM_why_51 : J 136 51 = qM_why_51 := rfl
theorem jM_why_52 : J 136 52 = qM_why_52 := rfl
theorem jM_book_0 : J 137 0 = qM_book_0 := rfl
theorem jM_book_14 : J 137 14 = qM_book_14 := rfl
theorem jM_book_16 : J 137 16 = qM_book_16 := rfl
theorem jM_book_39 : J 137 39 = qM_book_39 := rfl
theorem jM_book_50 : J 137 50 = qM_book_50 := rfl
theorem jM_book_84 : J 137 84 = qM_book_84 := rfl
theorem jM_book_90 : J 137 90 = qM_book_90 := rfl
theorem jM_book_93 : J 137 93 = qM_book_93 := rfl
theorem jM_book_126 : J 137 126 = qM_book_126 := rfl
theorem jM_book_137 : J 137 137 = qM_book_137 := rfl
theorem jM_book_176 : J 137 176 = qM_book_176 := rfl
theorem jM_book_182 : J 137 182 = qM_book_182 := rfl
theorem jM_comesTo_0 : J 138 0 = qM_comesTo_0 := rfl
theorem jM_comesTo_30 : J 138 30 = qM_comesTo_30 := rfl
theorem jM_comesTo_43 : J 138 43 = qM_comesTo_43 := rfl
theorem jM_comesTo_44 : J 138 44 = qM_comesTo_44 := rfl
theorem jM_film_0 : J 139 0 = qM_film_0 := rfl
theorem jM_film_14 : J 139 14 = qM_film_14 := rfl
theorem jM_film_16 : J 139 16 = qM_film_16 := rfl
theorem jM_film_37 : J 139 37 = qM_film_37 := rfl
theorem jM_film_40 : J 139 40 = qM_film_40 := rfl
theorem jM_film_72 : J 139 72 = qM_film_72 := rfl
theorem jM_sheet_0 : J 140 0 = qM_sheet_0 := rfl
theorem jM_sheet_20 : J 140 20 = qM_sheet_20 := rfl
theorem jM_sheet_22 : J 140 22 = qM_sheet_22 := rfl
theorem jM_sheet_29 : J 140 29 = qM_sheet_29 := rfl
theorem jM_sheet_46 : J 140 46 = qM_sheet_46 := rfl
theorem jM_sheet_72 : J 140 72 = qM_sheet_72 := rfl
theorem jM_drop_0 : J 141 0 = qM_drop_0 := rfl
theorem jM_drop_9 : J 141 9 = qM_drop_9 := rfl
theorem jM_drop_21 : J 141 21 = qM_drop_21 := rfl
theorem jM_item_0 : J 142 0 = qM_item_0 := rfl
theorem jM_item_14 : J 142 14 = qM_item_14 := rfl
theorem jM_item_16 : J 142 16 = qM_item_16 := rfl
theorem jM_item_34 : J 142 34 = qM_item_34 := rfl
theorem jM_copy_0 : J 143 0 = qM_copy_0 := rfl
theorem jM_copy_14 : J 143 14 = qM_copy_14 := rfl
theorem jM_copy_16 : J 143 16 = qM_copy_16 := rfl
theorem jM_copy_34 : J 143 34 = qM_copy_34 := rfl
theorem jM_copy_37 : J 143 37 = qM_copy_37 := rfl
theorem jM_copy_55 : J 143 55 = qM_copy_55 := rfl
theorem jM_copy_95 : J 143 95 = qM_copy_95 := rfl
theorem jM_copy_98 : J 143 98 = qM_copy_98 := rfl
theorem jM_copy_101 : J 143 101 = qM_copy_101 := rfl
theorem jM_copy_135 : J 143 135 = qM_copy_135 := rfl
theorem jM_copy_138 : J 143 138 = qM_copy_138 := rfl
theorem jM_copy_173 : J 143 173 = qM_copy_173 := rfl
theorem jL_law_18 : J 144 18 = qL_law_18 := rfl
theorem jL_law_160 : J 144 160 = qL_law_160 := rfl
theorem jL_law_193 : J 144 193 = qL_law_193 := rfl
theorem jL_law_236 : J 144 236 = qL_law_236 := rfl
theorem jL_law_269 : J 144 269 = qL_law_269 := rfl
theorem jL_law_312 : J 144 312 = qL_law_312 := rfl
theorem jL_law_335 : J 144 335 = qL_law_335 := rfl
theorem jL_law_368 : J 144 368 = qL_law_368 := rfl
theorem jL_law_431 : J 144 431 = qL_law_431 := rfl
theorem jL_law_444 : J 144 444 = qL_law_444 := rfl
theorem jL_law_467 : J 144 467 = qL_law_467 := rfl
theorem jL_law_501 : J 144 501 = qL_law_501 := rfl
theorem jL_law_545 : J 144 545 = qL_law_545 := rfl
theorem jL_law_579 : J 144 579 = qL_law_579 := rfl
theorem jL_law_643 : J 144 643 = qL_law_643 := rfl
theorem jL_law_687 : J 144 687 = qL_law_687 := rfl
theorem jL_law_700 : J 144 700 = qL_law_700 := rfl
theorem jL_law_723 : J 144 723 = qL_law_723 := rfl
theorem jL_law_757 : J 144 757 = qL_law_757 := rfl
theorem jL_law_780 : J 144 780 = qL_law_780 := rfl
theorem jL_law_823 : J 144 823 = qL_law_823 := rfl
theorem jL_law_866 : J 144 866 = qL_law_866 := rfl
theorem jL_law_879 : J 144 879 = qL_law_879 := rfl
theorem jL_law_892 : J 144 892 = qL_law_892 := rfl
theorem jL_law_935 : J 144 935 = qL_law_935 := rfl
theorem jL_law_978 : J 144 978 = qL_law_978 := rfl
theorem jL_law_1021 : J 144 1021 = qL_law_1021 := rfl
theorem jL_law_1044 : J 144 1044 = qL_law_1044 := rfl
theorem jL_law_1127 : J 144 1127 = qL_law_1127 := rfl
theorem jL_law_1190 : J 144 1190 = qL_law_1190 := rfl
theorem jL_law_1196 : J 144 1196 = qL_law_1196 := rfl
def bytT : List ByteArray := [cJ6_bitCount_0f7a4, cX0_reaches, cX0_solve, cX0_fillRows, cX0_clearRows, cX0_clearRow, cX0_rentAbove, cX0_movesAbove, cX0_stepsAbove, cX0_reprice, cX0_incomeAbove, cX0_areNear, cX1_renew, cX1_holds, cX2_append, cX2_readTown, cX2_readHouses, cX2_readShares, cX2_faultHere, cX2_pairPlace, cX2_nextSign, cX2_kindOf, cX2_digitOf, cX2_readDigit, cX2_readNumber, cX3_has, cX3_hasTwo, cX3_isFixed, cX3_build, cX3_shareOf, cX3_putShare, cX3_pullDown, cX3_clear, cX3_weight, cX3_pairs, cX3_fixedSet, cX3_reachedSet, cX3_besideSet, cX3_passYear, cX3_askingAfter, cX3_takeFrom, cX4_house, cX4_share, cX4_ask, cX4_set, cX4_purse, cX4_told, cX4_type, cX4_town, cX4_count, cX4_rent, cX4_moves, cX4_walk, cX4_change, cX4_pulled, cX4_year, cX4_near, cX4_income, cX4_best, cX4_rests, cX4_bought, cX4_image, cX4_restore, cX4_book, cX4_film, cX4_sheet, cX4_drop, cX4_item, cX4_copy, cX4_isPence, cX4_isShare, cX4_isOwner, cX4_isPart, cX4_isSheet, cX4_isLane, cX4_isIn, cX4_areSigns, cX4_byteOf, cX4_lowestBits, cX4_lowest, cX4_commonDivisor, cX4_trialLessNow, cX4_fillIncomes, cX4_isRest, cX4_isCheapWhenBought, cX4_refusal, cX5_in, cX5_isHouse, cX5_areTwo, cX5_comes, cX5_house, cX5_puts, cX5_share, cX5_ask, cX5_set, cX5_purse, cX5_weight, cX5_isFixed, cX5_reached, cX5_told, cX5_count, cX5_size, cX5_type, cX5_here, cX5_has, cX5_must, cX5_number, cX5_kindOf, cX5_readHouses, cX5_readPairs, cX5_town, cX5_solves, cX5_clears, cX5_lowest, cX5_isKnown, cX5_rent, cX5_moves, cX5_walk, cX5_differs, cX5_keeps, cX5_change, cX5_pulled, cX5_goesOn, cX5_year, cX5_near, cX5_incomeOf, cX5_income, cX5_best, cX5_rests, cX5_bought, cX5_lay, cX5_gives, cX5_image, cX5_restore, cX5_isSheet, cX5_isLane, cX5_why, cX5_book, cX5_comesTo, cX5_film, cX5_sheet, cX5_drop, cX5_item, cX5_copy, cL_law]
def namT : List MethodName := [yJ6_bitCount_0f7a4, yX0_reaches, yX0_solve, yX0_fillRows, yX0_clearRows, yX0_clearRow, yX0_rentAbove, yX0_movesAbove, yX0_stepsAbove, yX0_reprice, yX0_incomeAbove, yX0_areNear, yX1_renew, yX1_holds, yX2_append, yX2_readTown, yX2_readHouses, yX2_readShares, yX2_faultHere, yX2_pairPlace, yX2_nextSign, yX2_kindOf, yX2_digitOf, yX2_readDigit, yX2_readNumber, yX3_has, yX3_hasTwo, yX3_isFixed, yX3_build, yX3_shareOf, yX3_putShare, yX3_pullDown, yX3_clear, yX3_weight, yX3_pairs, yX3_fixedSet, yX3_reachedSet, yX3_besideSet, yX3_passYear, yX3_askingAfter, yX3_takeFrom, yX4_house, yX4_share, yX4_ask, yX4_set, yX4_purse, yX4_told, yX4_type, yX4_town, yX4_count, yX4_rent, yX4_moves, yX4_walk, yX4_change, yX4_pulled, yX4_year, yX4_near, yX4_income, yX4_best, yX4_rests, yX4_bought, yX4_image, yX4_restore, yX4_book, yX4_film, yX4_sheet, yX4_drop, yX4_item, yX4_copy, yX4_isPence, yX4_isShare, yX4_isOwner, yX4_isPart, yX4_isSheet, yX4_isLane, yX4_isIn, yX4_areSigns, yX4_byteOf, yX4_lowestBits, yX4_lowest, yX4_commonDivisor, yX4_trialLessNow, yX4_fillIncomes, yX4_isRest, yX4_isCheapWhenBought, yX4_refusal, yX5_in, yX5_isHouse, yX5_areTwo, yX5_comes, yX5_house, yX5_puts, yX5_share, yX5_ask, yX5_set, yX5_purse, yX5_weight, yX5_isFixed, yX5_reached, yX5_told, yX5_count, yX5_size, yX5_type, yX5_here, yX5_has, yX5_must, yX5_number, yX5_kindOf, yX5_readHouses, yX5_readPairs, yX5_town, yX5_solves, yX5_clears, yX5_lowest, yX5_isKnown, yX5_rent, yX5_moves, yX5_walk, yX5_differs, yX5_keeps, yX5_change, yX5_pulled, yX5_goesOn, yX5_year, yX5_near, yX5_incomeOf, yX5_income, yX5_best, yX5_rests, yX5_bought, yX5_lay, yX5_gives, yX5_image, yX5_restore, yX5_isSheet, yX5_isLane, yX5_why, yX5_book, yX5_comesTo, yX5_film, yX5_sheet, yX5_drop, yX5_item, yX5_copy, yL_law]
def maxT : List Nat := [1, 2, 3, 5, 5, 12, 5, 3, 2, 5, 6, 4, 4, 3, 5, 3, 6, 9, 1, 2, 1, 1, 3, 3, 3, 2, 3, 2, 4, 3, 4, 3, 2, 4, 4, 3, 6, 4, 3, 5, 2, 3, 5, 4, 5, 3, 3, 4, 2, 2, 3, 4, 3, 6, 4, 1, 3, 3, 8, 7, 8, 1, 1, 9, 6, 4, 2, 7, 8, 1, 1, 1, 1, 1, 1, 2, 5, 3, 3, 7, 11, 9, 4, 5, 7, 5, 6, 2, 3, 4, 3, 4, 5, 4, 5, 3, 4, 2, 6, 3, 6, 3, 5, 1, 3, 4, 4, 1, 4, 8, 3, 7, 10, 11, 2, 3, 4, 3, 21, 2, 11, 10, 7, 3, 7, 6, 5, 9, 11, 9, 4, 4, 2, 2, 1, 1, 5, 7, 6, 6, 5, 2, 7, 7, 4]
def retT : List (Option FieldType) := [(some .int), (some .boolean), none, none, none, none, (some .long), (some .long), (some .long), none, (some .long), (some .boolean), none, (some .boolean), none, (some .int), (some .int), (some .int), (some .int), (some .int), (some .int), (some .int), (some .int), (some .int), (some .int), (some .boolean), (some .boolean), (some .boolean), (some .int), (some .int), none, none, none, (some .int), (some .int), (some .int), (some .int), (some .int), (some .int), (some .int), none, (some .int), (some .int), (some .int), (some .int), (some .int), (some .int), (some .int), (some .int), (some .int), (some .long), (some .long), (some .long), (some .long), (some .long), (some .int), (some .int), (some .long), (some .int), (some .int), (some .int), (some .int), (some .int), (some .int), (some .int), (some .int), (some .int), (some .int), (some .int), (some .boolean), (some .boolean), (some .boolean), (some .boolean), (some .boolean), (some .boolean), (some .boolean), (some .boolean), (some .int), (some .long), (some .long), (some .long), (some .long), none, (some .boolean), (some .boolean), (some .int), (some .boolean), (some .boolean), (some .boolean), none, (some .int), none, (some .int), (some .int), (some .int), (some .int), (some .int), (some .boolean), (some .int), (some .int), (some .int), (some .int), (some .int), (some .int), (some .boolean), (some .int), (some .int), (some .int), (some .int), none, (some .int), none, none, (some .long), (some .boolean), (some .long), (some .long), (some .long), (some .long), none, (some .long), (some .long), none, (some .int), (some .int), (some .long), (some .long), (some .int), (some .int), (some .int), (some .int), (some .int), (some .int), (some .int), (some .boolean), (some .boolean), (some .int), (some .int), none, (some .int), (some .int), (some .int), (some .int), (some .int), (some .boolean)]
def ownT : List Nat := [6, 0, 0, 0, 0, 0, 0, 0, 0, 0, 0, 0, 1, 1, 2, 2, 2, 2, 2, 2, 2, 2, 2, 2, 2, 3, 3, 3, 3, 3, 3, 3, 3, 3, 3, 3, 3, 3, 3, 3, 3, 4, 4, 4, 4, 4, 4, 4, 4, 4, 4, 4, 4, 4, 4, 4, 4, 4, 4, 4, 4, 4, 4, 4, 4, 4, 4, 4, 4, 4, 4, 4, 4, 4, 4, 4, 4, 4, 4, 4, 4, 4, 4, 4, 4, 4, 5, 5, 5, 5, 5, 5, 5, 5, 5, 5, 5, 5, 5, 5, 5, 5, 5, 5, 5, 5, 5, 5, 5, 5, 5, 5, 5, 5, 5, 5, 5, 5, 5, 5, 5, 5, 5, 5, 5, 5, 5, 5, 5, 5, 5, 5, 5, 5, 5, 5, 5, 5, 5, 5, 5, 5, 5, 5, 8]
def frmT : List Nat := [0, 1, 3, 2, 1, 0, 2, 1, 1, 2, 2, 2, 0, 0, 1, 3, 2, 2, 0, 1, 0, 0, 0, 1, 1, 0, 1, 0, 0, 0, 0, 1, 0, 1, 1, 1, 2, 1, 3, 2, 1, 1, 2, 1, 1, 1, 3, 2, 4, 3, 4, 4, 4, 5, 5, 4, 4, 4, 4, 5, 5, 2, 2, 4, 2, 1, 1, 2, 1, 0, 0, 0, 0, 0, 0, 0, 1, 0, 0, 1, 0, 4, 4, 0, 4, 1, 0, 1, 2, 0, 1, 0, 3, 2, 2, 1, 0, 0, 1, 2, 2, 0, 1, 0, 1, 1, 1, 0, 2, 2, 3, 2, 0, 0, 0, 3, 3, 3, 3, 0, 4, 4, 1, 2, 3, 3, 4, 4, 4, 3, 0, 0, 1, 1, 1, 1, 0, 2, 0, 2, 2, 2, 2, 2, 6]
def locT : List Nat := [0, 21, 70, 45, 31, 0, 43, 21, 21, 43, 42, 42, 0, 0, 22, 72, 44, 44, 0, 21, 0, 0, 0, 22, 22, 0, 21, 0, 0, 0, 0, 23, 0, 22, 22, 21, 45, 22, 69, 45, 40, 23, 43, 21, 21, 20, 70, 46, 94, 70, 92, 92, 92, 120, 120, 91, 92, 92, 92, 115, 118, 61, 61, 91, 46, 23, 20, 46, 40, 0, 0, 0, 0, 0, 0, 0, 22, 0, 0, 30, 0, 92, 92, 0, 92, 22, 0, 25, 46, 0, 25, 0, 68, 46, 46, 25, 0, 0, 21, 46, 46, 0, 25, 0, 20, 25, 25, 0, 48, 48, 75, 46, 0, 0, 0, 72, 72, 72, 72, 0, 112, 112, 23, 49, 72, 72, 97, 97, 97, 72, 0, 0, 23, 23, 25, 25, 0, 49, 0, 45, 45, 45, 45, 45, 145]
def clsT : List String := [RX0, RX1, RX2, RX3, RX4, RX5, RJ6, RJ9, RL]
def fldT : List (Nat × Nat × Nat × Nat) := [(0, 9, 0, 0), (0, 15, 0, 1), (0, 19, 0, 5), (0, 23, 0, 6), (0, 26, 0, 2), (0, 34, 3, 0), (0, 39, 0, 4), (0, 47, 0, 3), (0, 57, 3, 2), (0, 90, 3, 3), (0, 93, 3, 6), (1, 9, 1, 3), (1, 15, 1, 0), (1, 19, 1, 1), (1, 23, 1, 2), (2, 9, 2, 0), (2, 15, 2, 1), (2, 23, 2, 2), (2, 33, 3, 0), (3, 9, 3, 1), (3, 15, 3, 2), (3, 18, 3, 3), (3, 21, 3, 4), (3, 24, 3, 5), (3, 27, 3, 6), (3, 31, 3, 8), (3, 34, 3, 0), (3, 81, 3, 7), (4, 10, 4, 0), (4, 16, 4, 1), (4, 19, 4, 2), (4, 25, 4, 3), (4, 32, 4, 4), (4, 38, 4, 5), (4, 42, 4, 6), (4, 46, 4, 7), (4, 54, 3, 0), (4, 79, 3, 1), (4, 83, 3, 2), (4, 89, 3, 3), (4, 92, 3, 4), (4, 95, 3, 6), (4, 113, 2, 1), (4, 142, 3, 7), (4, 158, 0, 0), (4, 161, 0, 1), (4, 216, 4, 8), (4, 224, 1, 3), (4, 238, 1, 0), (4, 241, 1, 2), (4, 246, 1, 1), (5, 7, 5, 1), (5, 13, 5, 2), (5, 16, 5, 3), (5, 19, 5, 4), (5, 22, 5, 5), (5, 25, 5, 9), (5, 28, 5, 13), (5, 31, 5, 14), (5, 34, 5, 15), (5, 38, 5, 16), (5, 41, 5, 17), (5, 44, 5, 21), (5, 47, 5, 22), (5, 50, 5, 23), (5, 53, 5, 24), (5, 56, 5, 25), (5, 59, 5, 26), (5, 62, 5, 28), (5, 65, 5, 29), (5, 68, 5, 30), (5, 71, 5, 31), (5, 74, 5, 6), (5, 78, 5, 0), (5, 107, 5, 8), (5, 126, 5, 7), (5, 137, 5, 10), (5, 140, 5, 11), (5, 143, 5, 12), (5, 174, 5, 19), (5, 177, 5, 20), (5, 184, 5, 18), (5, 227, 5, 27)]
/-- links of calls: the own class, the index, the method, 0 virtual, 1 static, 2 static of the nest, 3 arraycopy -/
def metT : List (Nat × Nat × Nat × Nat) := [(0, 30, 75, 2), (0, 40, 36, 0), (0, 44, 35, 0), (0, 50, 3, 0), (0, 54, 4, 0), (0, 60, 999, 3), (0, 66, 1, 0), (0, 70, 6, 0), (0, 74, 29, 0), (0, 78, 33, 0), (0, 82, 5, 0), (0, 86, 7, 0), (0, 96, 999, 6), (2, 19, 77, 2), (2, 26, 16, 0), (2, 30, 17, 0), (2, 38, 20, 0), (2, 42, 21, 1), (2, 46, 18, 0), (2, 49, 24, 0), (2, 52, 28, 0), (2, 56, 23, 0), (2, 59, 22, 1), (2, 62, 19, 1), (2, 65, 30, 0), (2, 69, 999, 4), (2, 74, 999, 5), (3, 37, 25, 0), (3, 41, 30, 0), (3, 45, 29, 0), (3, 49, 27, 0), (3, 52, 35, 0), (3, 56, 75, 2), (3, 60, 37, 0), (3, 64, 999, 3), (3, 70, 39, 0), (3, 73, 33, 0), (3, 76, 999, 4), (4, 50, 69, 1), (4, 58, 28, 0), (4, 62, 26, 0), (4, 66, 70, 1), (4, 69, 29, 0), (4, 72, 30, 0), (4, 76, 25, 0), (4, 86, 71, 1), (4, 98, 33, 0), (4, 102, 36, 0), (4, 106, 75, 1), (4, 109, 76, 1), (4, 116, 14, 0), (4, 120, 40, 0), (4, 124, 32, 0), (4, 127, 15, 0), (4, 131, 35, 0), (4, 134, 0, 1), (4, 139, 34, 0), (4, 145, 72, 1), (4, 150, 2, 0), (4, 153, 1, 0), (4, 165, 79, 1), (4, 169, 27, 0), (4, 174, 7, 0), (4, 178, 8, 0), (4, 184, 81, 0), (4, 187, 31, 0), (4, 191, 38, 0), (4, 194, 11, 0), (4, 198, 10, 0), (4, 202, 9, 0), (4, 206, 82, 0), (4, 209, 83, 0), (4, 212, 84, 0), (4, 220, 85, 0), (4, 229, 73, 1), (4, 232, 74, 1), (4, 235, 12, 0), (4, 242, 78, 1), (4, 249, 13, 0), (4, 252, 999, 3), (4, 258, 77, 1), (4, 264, 999, 6), (4, 270, 80, 1), (5, 81, 86, 1), (5, 85, 87, 0), (5, 93, 89, 0), (5, 97, 88, 0), (5, 103, 91, 0), (5, 110, 97, 0), (5, 115, 96, 0), (5, 119, 98, 0), (5, 123, 101, 1), (5, 147, 103, 0), (5, 154, 107, 1), (5, 157, 106, 0), (5, 160, 104, 0), (5, 163, 105, 0), (5, 167, 108, 0), (5, 170, 109, 0), (5, 180, 112, 0), (5, 190, 111, 0), (5, 193, 114, 0), (5, 196, 113, 1), (5, 208, 119, 0), (5, 211, 118, 0), (5, 215, 122, 0), (5, 219, 125, 0), (5, 223, 130, 0), (5, 230, 131, 0), (5, 234, 134, 1), (5, 237, 135, 1), (5, 240, 136, 0), (5, 244, 138, 0), (8, 13, 41, 0), (8, 17, 90, 0), (8, 18, 42, 0), (8, 22, 92, 0), (8, 23, 43, 0), (8, 26, 93, 0), (8, 27, 44, 0), (8, 30, 94, 0), (8, 31, 45, 0), (8, 35, 95, 0), (8, 36, 46, 0), (8, 39, 99, 0), (8, 42, 47, 0), (8, 46, 102, 0), (8, 47, 48, 0), (8, 51, 110, 0), (8, 52, 49, 0), (8, 55, 100, 0), (8, 56, 50, 0), (8, 60, 115, 0), (8, 61, 51, 0), (8, 65, 116, 0), (8, 66, 52, 0), (8, 69, 117, 0), (8, 70, 53, 0), (8, 74, 120, 0), (8, 75, 54, 0), (8, 78, 121, 0), (8, 79, 55, 0), (8, 82, 123, 0), (8, 83, 56, 0), (8, 86, 124, 0), (8, 87, 57, 0), (8, 90, 126, 0), (8, 91, 58, 0), (8, 94, 127, 0), (8, 95, 59, 0), (8, 98, 128, 0), (8, 99, 60, 0), (8, 102, 129, 0), (8, 103, 61, 0), (8, 106, 132, 0), (8, 107, 62, 0), (8, 110, 133, 0), (8, 111, 63, 0), (8, 114, 137, 0), (8, 115, 64, 0), (8, 118, 139, 0), (8, 119, 65, 0), (8, 122, 140, 0), (8, 123, 66, 0), (8, 126, 141, 0), (8, 127, 67, 0), (8, 131, 142, 0), (8, 132, 68, 0), (8, 136, 143, 0)]
def conT : List (Nat × Nat × Value) := [(4, 148, .long (-1)), (4, 156, .long (-4)), (4, 172, .long (-2)), (4, 182, .long (-1000000000000000001)), (4, 227, .long 99), (4, 262, .long 255), (4, 274, .long (-1000000000000000004)), (5, 89, .long 3), (5, 91, .long 99), (5, 101, .long 2), (5, 113, .long 5), (5, 129, .long 8), (5, 131, .long 255), (5, 133, .long 32), (5, 135, .long 126), (5, 150, .long 48), (5, 152, .long 57), (5, 188, .long (-1)), (5, 200, .long (-4)), (5, 202, .long (-2)), (5, 204, .long (-1000000000000000004)), (5, 206, .long (-1000000000000000001)), (6, 265, .int 1431655765), (6, 266, .int 858993459), (6, 267, .int 252645135), (8, 40, .long 4294967295)]
end
section
/-! THE TABLES' WORDS that the own machine's code stands on, checked by program -/
def mxL (k : Nat) : Nat := maxT.getD k 0
def own (k : Nat) : Nat := ownT.getD k 99
def byt (k : Nat) : ByteArray := bytT.getD k ByteArray.empty
def nam (k : Nat) : MethodName := namT.getD k ⟨"", "", ""⟩
def rett (k : Nat) : Option FieldType := retT.getD k none
def frm (k : Nat) : Nat := frmT.getD k 0
def lco (k : Nat) : Nat := locT.getD k 0
def clN (o : Nat) : String := clsT.getD o ""
def GW : List Cond := lw_tbl.filter goodWord
def NW : List Cond := [.methodLinkNest "MeanTown$Town" 56 yX4_isIn "MeanTown", .methodLinkNest "MeanTown$Tape" 19 yX4_byteOf "MeanTown", .methodLinkNest "MeanTown$Rents" 30 yX4_isIn "MeanTown"]
theorem gw_of {w : Cond} (h : w ∈ lw_tbl) (hg : goodWord w = true) : w ∈ GW := List.mem_filter.mpr ⟨h, hg⟩
theorem gw_in {w : Cond} (h : w ∈ GW) : w ∈ lw_tbl := (List.mem_filter.mp h).1
theorem gw_good {w : Cond} (h : w ∈ GW) : goodWord w = true := (List.mem_filter.mp h).2
theorem nw_in : ∀ w ∈ NW, w ∈ lw_tbl := by decide +kernel
def FOKb (e : Nat × Nat × Nat × Nat) : Bool := match vwCl[e.2.2.1]? with
  | some (_, T, N) => decide (e.2.2.2 < N) && decide (Cond.fieldLink (clN e.1) e.2.1 (T e.2.2.2).1 (T e.2.2.2).2.1 (T e.2.2.2).2.2.1 ∈ lw_tbl)
  | none => false
theorem fldOK : fldT.all FOKb = true := by decide +kernel
theorem inAll : vwCl.all (fun q => (u_ws q.1 q.2.1 q.2.2).all (fun w => decide (w ∈ lw_tbl) && goodWord w)) = true := by decide +kernel
def COK (k : Nat) : Prop := Cond.code (nam k) (byt k) (mxL k) (rett k) ∈ lw_tbl ∧ plainName (nam k).cls = true ∧ ((nam k).cls ≠ "java/lang/invoke/MethodHandle" ∧ (nam k).cls ≠ "java/lang/invoke/VarHandle") ∧ (nam k).cls = clN (own k)
def MOK (e : Nat × Nat × Nat × Nat) : Prop := match e with
  | (o, i, k, 0) => Cond.methodLink (clN o) i (nam k) ∈ lw_tbl ∧ Cond.instanceMethod (nam k) ∈ lw_tbl ∧ Cond.selects (nam k).cls (nam k) (nam k) ∈ lw_tbl ∧ Cond.initialized (nam k).cls ∈ lw_tbl ∧ k < 144
  | (o, i, k, 1) => Cond.methodLink (clN o) i (nam k) ∈ lw_tbl ∧ Cond.static (nam k) ∈ lw_tbl ∧ Cond.initialized (nam k).cls ∈ lw_tbl ∧ k < 144
  | (o, i, k, 2) => Cond.methodLinkNest (clN o) i (nam k) "MeanTown" ∈ NW ∧ Cond.static (nam k) ∈ lw_tbl ∧ Cond.initialized (nam k).cls ∈ lw_tbl ∧ k < 144
  | (o, i, _, 3) => Cond.methodLink (clN o) i arraycopyName ∈ lw_tbl ∧ Cond.native arraycopyName ∈ lw_tbl ∧ Cond.static arraycopyName ∈ lw_tbl ∧ Cond.initialized "java/lang/System" ∈ lw_tbl
  | (o, i, _, 4) => Cond.methodLink (clN o) i Lib.Math.min.name ∈ lw_tbl ∧ Cond.static Lib.Math.min.name ∈ lw_tbl ∧ Cond.initialized "java/lang/Math" ∈ lw_tbl ∧ Cond.code Lib.Math.min.name Lib.Math.min.code 2 (some .int) ∈ lw_tbl
  | (o, i, _, 5) => Cond.methodLink (clN o) i Lib.Math.max.name ∈ lw_tbl ∧ Cond.static Lib.Math.max.name ∈ lw_tbl ∧ Cond.initialized "java/lang/Math" ∈ lw_tbl ∧ Cond.code Lib.Math.max.name Lib.Math.max.code 2 (some .int) ∈ lw_tbl
  | (o, i, _, 6) => Cond.methodLink (clN o) i Lib.MathLoose.abs_long.x ∈ lw_tbl ∧ Cond.static Lib.MathLoose.abs_long.x ∈ lw_tbl ∧ Cond.initialized "java/lang/Math" ∈ lw_tbl ∧ Cond.code Lib.MathLoose.abs_long.x Lib.MathLoose.abs_long.code 2 (some .long) ∈ lw_tbl
  | _ => False
def KOK (e : Nat × Nat × Value) : Prop := match e with
  | (o, i, .long z) => Cond.constantLong (clN o) i z ∈ lw_tbl
  | (o, i, .int z) => Cond.constant (clN o) i z ∈ lw_tbl
  | _ => False
theorem mo_0 : MOK (0, 30, 75, 2) := ⟨by decide +kernel, List.mem_of_getElem? (i := 279) (by decide +kernel), List.mem_of_getElem? (i := 42) (by decide +kernel), by decide⟩
theorem mo_1 : MOK (0, 40, 36, 0) := ⟨List.mem_of_getElem? (i := 389) (by decide +kernel), List.mem_of_getElem? (i := 267) (by decide +kernel), List.mem_of_getElem? (i := 268) (by decide +kernel), List.mem_of_getElem? (i := 43) (by decide +kernel), by decide⟩
theorem mo_2 : MOK (0, 44, 35, 0) := ⟨List.mem_of_getElem? (i := 390) (by decide +kernel), List.mem_of_getElem? (i := 271) (by decide +kernel), List.mem_of_getElem? (i := 272) (by decide +kernel), List.mem_of_getElem? (i := 43) (by decide +kernel), by decide⟩
theorem mo_3 : MOK (0, 50, 3, 0) := ⟨List.mem_of_getElem? (i := 391) (by decide +kernel), List.mem_of_getElem? (i := 393) (by decide +kernel), List.mem_of_getElem? (i := 7) (by decide +kernel), List.mem_of_getElem? (i := 44) (by decide +kernel), by decide⟩
theorem mo_4 : MOK (0, 54, 4, 0) := ⟨List.mem_of_getElem? (i := 398) (by decide +kernel), List.mem_of_getElem? (i := 400) (by decide +kernel), List.mem_of_getElem? (i := 8) (by decide +kernel), List.mem_of_getElem? (i := 44) (by decide +kernel), by decide⟩
theorem mo_5 : MOK (0, 60, 999, 3) := ⟨List.mem_of_getElem? (i := 406) (by decide +kernel), List.mem_of_getElem? (i := 312) (by decide +kernel), List.mem_of_getElem? (i := 311) (by decide +kernel), List.mem_of_getElem? (i := 48) (by decide +kernel)⟩
theorem mo_6 : MOK (0, 66, 1, 0) := ⟨List.mem_of_getElem? (i := 407) (by decide +kernel), List.mem_of_getElem? (i := 408) (by decide +kernel), List.mem_of_getElem? (i := 409) (by decide +kernel), List.mem_of_getElem? (i := 44) (by decide +kernel), by decide⟩
theorem mo_7 : MOK (0, 70, 6, 0) := ⟨List.mem_of_getElem? (i := 411) (by decide +kernel), List.mem_of_getElem? (i := 413) (by decide +kernel), List.mem_of_getElem? (i := 10) (by decide +kernel), List.mem_of_getElem? (i := 44) (by decide +kernel), by decide⟩
theorem mo_8 : MOK (0, 74, 29, 0) := ⟨List.mem_of_getElem? (i := 396) (by decide +kernel), List.mem_of_getElem? (i := 234) (by decide +kernel), List.mem_of_getElem? (i := 235) (by decide +kernel), List.mem_of_getElem? (i := 43) (by decide +kernel), by decide⟩
theorem mo_9 : MOK (0, 78, 33, 0) := ⟨List.mem_of_getElem? (i := 397) (by decide +kernel), List.mem_of_getElem? (i := 262) (by decide +kernel), List.mem_of_getElem? (i := 263) (by decide +kernel), List.mem_of_getElem? (i := 43) (by decide +kernel), by decide⟩
theorem mo_10 : MOK (0, 82, 5, 0) := ⟨List.mem_of_getElem? (i := 402) (by decide +kernel), List.mem_of_getElem? (i := 404) (by decide +kernel), List.mem_of_getElem? (i := 9) (by decide +kernel), List.mem_of_getElem? (i := 44) (by decide +kernel), by decide⟩
theorem mo_11 : MOK (0, 86, 7, 0) := ⟨List.mem_of_getElem? (i := 415) (by decide +kernel), List.mem_of_getElem? (i := 416) (by decide +kernel), List.mem_of_getElem? (i := 417) (by decide +kernel), List.mem_of_getElem? (i := 44) (by decide +kernel), by decide⟩
theorem mo_12 : MOK (0, 96, 999, 6) := ⟨List.mem_of_getElem? (i := 486) (by decide +kernel), List.mem_of_getElem? (i := 425) (by decide +kernel), List.mem_of_getElem? (i := 49) (by decide +kernel), List.mem_of_getElem? (i := 426) (by decide +kernel)⟩
theorem mo_13 : MOK (2, 19, 77, 2) := ⟨by decide +kernel, List.mem_of_getElem? (i := 294) (by decide +kernel), List.mem_of_getElem? (i := 42) (by decide +kernel), by decide⟩
theorem mo_14 : MOK (2, 26, 16, 0) := ⟨List.mem_of_getElem? (i := 321) (by decide +kernel), List.mem_of_getElem? (i := 323) (by decide +kernel), List.mem_of_getElem? (i := 1) (by decide +kernel), List.mem_of_getElem? (i := 45) (by decide +kernel), by decide⟩
theorem mo_15 : MOK (2, 30, 17, 0) := ⟨List.mem_of_getElem? (i := 347) (by decide +kernel), List.mem_of_getElem? (i := 349) (by decide +kernel), List.mem_of_getElem? (i := 5) (by decide +kernel), List.mem_of_getElem? (i := 45) (by decide +kernel), by decide⟩
theorem mo_16 : MOK (2, 38, 20, 0) := ⟨List.mem_of_getElem? (i := 325) (by decide +kernel), List.mem_of_getElem? (i := 327) (by decide +kernel), List.mem_of_getElem? (i := 2) (by decide +kernel), List.mem_of_getElem? (i := 45) (by decide +kernel), by decide⟩
theorem mo_17 : MOK (2, 42, 21, 1) := ⟨List.mem_of_getElem? (i := 329) (by decide +kernel), List.mem_of_getElem? (i := 330) (by decide +kernel), List.mem_of_getElem? (i := 45) (by decide +kernel), by decide⟩
theorem mo_18 : MOK (2, 46, 18, 0) := ⟨List.mem_of_getElem? (i := 332) (by decide +kernel), List.mem_of_getElem? (i := 334) (by decide +kernel), List.mem_of_getElem? (i := 3) (by decide +kernel), List.mem_of_getElem? (i := 45) (by decide +kernel), by decide⟩
theorem mo_19 : MOK (2, 49, 24, 0) := ⟨List.mem_of_getElem? (i := 336) (by decide +kernel), List.mem_of_getElem? (i := 338) (by decide +kernel), List.mem_of_getElem? (i := 4) (by decide +kernel), List.mem_of_getElem? (i := 45) (by decide +kernel), by decide⟩
theorem mo_20 : MOK (2, 52, 28, 0) := ⟨List.mem_of_getElem? (i := 346) (by decide +kernel), List.mem_of_getElem? (i := 215) (by decide +kernel), List.mem_of_getElem? (i := 216) (by decide +kernel), List.mem_of_getElem? (i := 43) (by decide +kernel), by decide⟩
theorem mo_21 : MOK (2, 56, 23, 0) := ⟨List.mem_of_getElem? (i := 351) (by decide +kernel), List.mem_of_getElem? (i := 353) (by decide +kernel), List.mem_of_getElem? (i := 6) (by decide +kernel), List.mem_of_getElem? (i := 45) (by decide +kernel), by decide⟩
theorem mo_22 : MOK (2, 59, 22, 1) := ⟨List.mem_of_getElem? (i := 340) (by decide +kernel), List.mem_of_getElem? (i := 341) (by decide +kernel), List.mem_of_getElem? (i := 45) (by decide +kernel), by decide⟩
theorem mo_23 : MOK (2, 62, 19, 1) := ⟨List.mem_of_getElem? (i := 355) (by decide +kernel), List.mem_of_getElem? (i := 356) (by decide +kernel), List.mem_of_getElem? (i := 45) (by decide +kernel), by decide⟩
theorem mo_24 : MOK (2, 65, 30, 0) := ⟨List.mem_of_getElem? (i := 361) (by decide +kernel), List.mem_of_getElem? (i := 238) (by decide +kernel), List.mem_of_getElem? (i := 239) (by decide +kernel), List.mem_of_getElem? (i := 43) (by decide +kernel), by decide⟩
theorem mo_25 : MOK (2, 69, 999, 4) := ⟨List.mem_of_getElem? (i := 343) (by decide +kernel), List.mem_of_getElem? (i := 344) (by decide +kernel), List.mem_of_getElem? (i := 49) (by decide +kernel), List.mem_of_getElem? (i := 345) (by decide +kernel)⟩
theorem mo_26 : MOK (2, 74, 999, 5) := ⟨List.mem_of_getElem? (i := 358) (by decide +kernel), List.mem_of_getElem? (i := 359) (by decide +kernel), List.mem_of_getElem? (i := 49) (by decide +kernel), List.mem_of_getElem? (i := 360) (by decide +kernel)⟩
theorem mo_27 : MOK (3, 37, 25, 0) := ⟨List.mem_of_getElem? (i := 226) (by decide +kernel), List.mem_of_getElem? (i := 227) (by decide +kernel), List.mem_of_getElem? (i := 228) (by decide +kernel), List.mem_of_getElem? (i := 43) (by decide +kernel), by decide⟩
theorem mo_28 : MOK (3, 41, 30, 0) := ⟨List.mem_of_getElem? (i := 463) (by decide +kernel), List.mem_of_getElem? (i := 238) (by decide +kernel), List.mem_of_getElem? (i := 239) (by decide +kernel), List.mem_of_getElem? (i := 43) (by decide +kernel), by decide⟩
theorem mo_29 : MOK (3, 45, 29, 0) := ⟨List.mem_of_getElem? (i := 265) (by decide +kernel), List.mem_of_getElem? (i := 234) (by decide +kernel), List.mem_of_getElem? (i := 235) (by decide +kernel), List.mem_of_getElem? (i := 43) (by decide +kernel), by decide⟩
theorem mo_30 : MOK (3, 49, 27, 0) := ⟨List.mem_of_getElem? (i := 274) (by decide +kernel), List.mem_of_getElem? (i := 275) (by decide +kernel), List.mem_of_getElem? (i := 276) (by decide +kernel), List.mem_of_getElem? (i := 43) (by decide +kernel), by decide⟩
theorem mo_31 : MOK (3, 52, 35, 0) := ⟨List.mem_of_getElem? (i := 270) (by decide +kernel), List.mem_of_getElem? (i := 271) (by decide +kernel), List.mem_of_getElem? (i := 272) (by decide +kernel), List.mem_of_getElem? (i := 43) (by decide +kernel), by decide⟩
theorem mo_32 : MOK (3, 56, 75, 2) := ⟨by decide +kernel, List.mem_of_getElem? (i := 279) (by decide +kernel), List.mem_of_getElem? (i := 42) (by decide +kernel), by decide⟩
theorem mo_33 : MOK (3, 60, 37, 0) := ⟨List.mem_of_getElem? (i := 281) (by decide +kernel), List.mem_of_getElem? (i := 283) (by decide +kernel), List.mem_of_getElem? (i := 0) (by decide +kernel), List.mem_of_getElem? (i := 43) (by decide +kernel), by decide⟩
theorem mo_34 : MOK (3, 64, 999, 3) := ⟨List.mem_of_getElem? (i := 310) (by decide +kernel), List.mem_of_getElem? (i := 312) (by decide +kernel), List.mem_of_getElem? (i := 311) (by decide +kernel), List.mem_of_getElem? (i := 48) (by decide +kernel)⟩
theorem mo_35 : MOK (3, 70, 39, 0) := ⟨List.mem_of_getElem? (i := 472) (by decide +kernel), List.mem_of_getElem? (i := 474) (by decide +kernel), List.mem_of_getElem? (i := 12) (by decide +kernel), List.mem_of_getElem? (i := 43) (by decide +kernel), by decide⟩
theorem mo_36 : MOK (3, 73, 33, 0) := ⟨List.mem_of_getElem? (i := 476) (by decide +kernel), List.mem_of_getElem? (i := 262) (by decide +kernel), List.mem_of_getElem? (i := 263) (by decide +kernel), List.mem_of_getElem? (i := 43) (by decide +kernel), by decide⟩
theorem mo_37 : MOK (3, 76, 999, 4) := ⟨List.mem_of_getElem? (i := 477) (by decide +kernel), List.mem_of_getElem? (i := 344) (by decide +kernel), List.mem_of_getElem? (i := 49) (by decide +kernel), List.mem_of_getElem? (i := 345) (by decide +kernel)⟩
theorem mo_38 : MOK (4, 50, 69, 1) := ⟨List.mem_of_getElem? (i := 211) (by decide +kernel), List.mem_of_getElem? (i := 212) (by decide +kernel), List.mem_of_getElem? (i := 42) (by decide +kernel), by decide⟩
theorem mo_39 : MOK (4, 58, 28, 0) := ⟨List.mem_of_getElem? (i := 214) (by decide +kernel), List.mem_of_getElem? (i := 215) (by decide +kernel), List.mem_of_getElem? (i := 216) (by decide +kernel), List.mem_of_getElem? (i := 43) (by decide +kernel), by decide⟩
theorem mo_40 : MOK (4, 62, 26, 0) := ⟨List.mem_of_getElem? (i := 222) (by decide +kernel), List.mem_of_getElem? (i := 223) (by decide +kernel), List.mem_of_getElem? (i := 224) (by decide +kernel), List.mem_of_getElem? (i := 43) (by decide +kernel), by decide⟩
theorem mo_41 : MOK (4, 66, 70, 1) := ⟨List.mem_of_getElem? (i := 230) (by decide +kernel), List.mem_of_getElem? (i := 231) (by decide +kernel), List.mem_of_getElem? (i := 42) (by decide +kernel), by decide⟩
theorem mo_42 : MOK (4, 69, 29, 0) := ⟨List.mem_of_getElem? (i := 233) (by decide +kernel), List.mem_of_getElem? (i := 234) (by decide +kernel), List.mem_of_getElem? (i := 235) (by decide +kernel), List.mem_of_getElem? (i := 43) (by decide +kernel), by decide⟩
theorem mo_43 : MOK (4, 72, 30, 0) := ⟨List.mem_of_getElem? (i := 237) (by decide +kernel), List.mem_of_getElem? (i := 238) (by decide +kernel), List.mem_of_getElem? (i := 239) (by decide +kernel), List.mem_of_getElem? (i := 43) (by decide +kernel), by decide⟩
theorem mo_44 : MOK (4, 76, 25, 0) := ⟨List.mem_of_getElem? (i := 245) (by decide +kernel), List.mem_of_getElem? (i := 227) (by decide +kernel), List.mem_of_getElem? (i := 228) (by decide +kernel), List.mem_of_getElem? (i := 43) (by decide +kernel), by decide⟩
theorem mo_45 : MOK (4, 86, 71, 1) := ⟨List.mem_of_getElem? (i := 250) (by decide +kernel), List.mem_of_getElem? (i := 251) (by decide +kernel), List.mem_of_getElem? (i := 42) (by decide +kernel), by decide⟩
theorem mo_46 : MOK (4, 98, 33, 0) := ⟨List.mem_of_getElem? (i := 261) (by decide +kernel), List.mem_of_getElem? (i := 262) (by decide +kernel), List.mem_of_getElem? (i := 263) (by decide +kernel), List.mem_of_getElem? (i := 43) (by decide +kernel), by decide⟩
theorem mo_47 : MOK (4, 102, 36, 0) := ⟨List.mem_of_getElem? (i := 266) (by decide +kernel), List.mem_of_getElem? (i := 267) (by decide +kernel), List.mem_of_getElem? (i := 268) (by decide +kernel), List.mem_of_getElem? (i := 43) (by decide +kernel), by decide⟩
theorem mo_48 : MOK (4, 106, 75, 1) := ⟨List.mem_of_getElem? (i := 285) (by decide +kernel), List.mem_of_getElem? (i := 279) (by decide +kernel), List.mem_of_getElem? (i := 42) (by decide +kernel), by decide⟩
theorem mo_49 : MOK (4, 109, 76, 1) := ⟨List.mem_of_getElem? (i := 290) (by decide +kernel), List.mem_of_getElem? (i := 291) (by decide +kernel), List.mem_of_getElem? (i := 42) (by decide +kernel), by decide⟩
theorem mo_50 : MOK (4, 116, 14, 0) := ⟨List.mem_of_getElem? (i := 297) (by decide +kernel), List.mem_of_getElem? (i := 298) (by decide +kernel), List.mem_of_getElem? (i := 299) (by decide +kernel), List.mem_of_getElem? (i := 45) (by decide +kernel), by decide⟩
theorem mo_51 : MOK (4, 120, 40, 0) := ⟨List.mem_of_getElem? (i := 306) (by decide +kernel), List.mem_of_getElem? (i := 307) (by decide +kernel), List.mem_of_getElem? (i := 308) (by decide +kernel), List.mem_of_getElem? (i := 43) (by decide +kernel), by decide⟩
theorem mo_52 : MOK (4, 124, 32, 0) := ⟨List.mem_of_getElem? (i := 313) (by decide +kernel), List.mem_of_getElem? (i := 314) (by decide +kernel), List.mem_of_getElem? (i := 315) (by decide +kernel), List.mem_of_getElem? (i := 43) (by decide +kernel), by decide⟩
theorem mo_53 : MOK (4, 127, 15, 0) := ⟨List.mem_of_getElem? (i := 317) (by decide +kernel), List.mem_of_getElem? (i := 318) (by decide +kernel), List.mem_of_getElem? (i := 319) (by decide +kernel), List.mem_of_getElem? (i := 45) (by decide +kernel), by decide⟩
theorem mo_54 : MOK (4, 131, 35, 0) := ⟨List.mem_of_getElem? (i := 366) (by decide +kernel), List.mem_of_getElem? (i := 271) (by decide +kernel), List.mem_of_getElem? (i := 272) (by decide +kernel), List.mem_of_getElem? (i := 43) (by decide +kernel), by decide⟩
theorem mo_55 : MOK (4, 134, 0, 1) := ⟨List.mem_of_getElem? (i := 367) (by decide +kernel), List.mem_of_getElem? (i := 368) (by decide +kernel), List.mem_of_getElem? (i := 50) (by decide +kernel), by decide⟩
theorem mo_56 : MOK (4, 139, 34, 0) := ⟨List.mem_of_getElem? (i := 373) (by decide +kernel), List.mem_of_getElem? (i := 374) (by decide +kernel), List.mem_of_getElem? (i := 375) (by decide +kernel), List.mem_of_getElem? (i := 43) (by decide +kernel), by decide⟩
theorem mo_57 : MOK (4, 145, 72, 1) := ⟨List.mem_of_getElem? (i := 381) (by decide +kernel), List.mem_of_getElem? (i := 382) (by decide +kernel), List.mem_of_getElem? (i := 42) (by decide +kernel), by decide⟩
theorem mo_58 : MOK (4, 150, 2, 0) := ⟨List.mem_of_getElem? (i := 385) (by decide +kernel), List.mem_of_getElem? (i := 386) (by decide +kernel), List.mem_of_getElem? (i := 387) (by decide +kernel), List.mem_of_getElem? (i := 44) (by decide +kernel), by decide⟩
theorem mo_59 : MOK (4, 153, 1, 0) := ⟨List.mem_of_getElem? (i := 419) (by decide +kernel), List.mem_of_getElem? (i := 408) (by decide +kernel), List.mem_of_getElem? (i := 409) (by decide +kernel), List.mem_of_getElem? (i := 44) (by decide +kernel), by decide⟩
theorem mo_60 : MOK (4, 165, 79, 1) := ⟨List.mem_of_getElem? (i := 421) (by decide +kernel), List.mem_of_getElem? (i := 422) (by decide +kernel), List.mem_of_getElem? (i := 42) (by decide +kernel), by decide⟩
theorem mo_61 : MOK (4, 169, 27, 0) := ⟨List.mem_of_getElem? (i := 434) (by decide +kernel), List.mem_of_getElem? (i := 275) (by decide +kernel), List.mem_of_getElem? (i := 276) (by decide +kernel), List.mem_of_getElem? (i := 43) (by decide +kernel), by decide⟩
theorem mo_62 : MOK (4, 174, 7, 0) := ⟨List.mem_of_getElem? (i := 436) (by decide +kernel), List.mem_of_getElem? (i := 416) (by decide +kernel), List.mem_of_getElem? (i := 417) (by decide +kernel), List.mem_of_getElem? (i := 44) (by decide +kernel), by decide⟩
theorem mo_63 : MOK (4, 178, 8, 0) := ⟨List.mem_of_getElem? (i := 441) (by decide +kernel), List.mem_of_getElem? (i := 442) (by decide +kernel), List.mem_of_getElem? (i := 443) (by decide +kernel), List.mem_of_getElem? (i := 44) (by decide +kernel), by decide⟩
theorem mo_64 : MOK (4, 184, 81, 0) := ⟨List.mem_of_getElem? (i := 450) (by decide +kernel), List.mem_of_getElem? (i := 452) (by decide +kernel), List.mem_of_getElem? (i := 11) (by decide +kernel), List.mem_of_getElem? (i := 42) (by decide +kernel), by decide⟩
theorem mo_65 : MOK (4, 187, 31, 0) := ⟨List.mem_of_getElem? (i := 459) (by decide +kernel), List.mem_of_getElem? (i := 460) (by decide +kernel), List.mem_of_getElem? (i := 461) (by decide +kernel), List.mem_of_getElem? (i := 43) (by decide +kernel), by decide⟩
theorem mo_66 : MOK (4, 191, 38, 0) := ⟨List.mem_of_getElem? (i := 468) (by decide +kernel), List.mem_of_getElem? (i := 469) (by decide +kernel), List.mem_of_getElem? (i := 470) (by decide +kernel), List.mem_of_getElem? (i := 43) (by decide +kernel), by decide⟩
theorem mo_67 : MOK (4, 194, 11, 0) := ⟨List.mem_of_getElem? (i := 482) (by decide +kernel), List.mem_of_getElem? (i := 483) (by decide +kernel), List.mem_of_getElem? (i := 484) (by decide +kernel), List.mem_of_getElem? (i := 44) (by decide +kernel), by decide⟩
theorem mo_68 : MOK (4, 198, 10, 0) := ⟨List.mem_of_getElem? (i := 491) (by decide +kernel), List.mem_of_getElem? (i := 492) (by decide +kernel), List.mem_of_getElem? (i := 493) (by decide +kernel), List.mem_of_getElem? (i := 44) (by decide +kernel), by decide⟩
theorem mo_69 : MOK (4, 202, 9, 0) := ⟨List.mem_of_getElem? (i := 499) (by decide +kernel), List.mem_of_getElem? (i := 500) (by decide +kernel), List.mem_of_getElem? (i := 501) (by decide +kernel), List.mem_of_getElem? (i := 44) (by decide +kernel), by decide⟩
theorem mo_70 : MOK (4, 206, 82, 0) := ⟨List.mem_of_getElem? (i := 507) (by decide +kernel), List.mem_of_getElem? (i := 509) (by decide +kernel), List.mem_of_getElem? (i := 13) (by decide +kernel), List.mem_of_getElem? (i := 42) (by decide +kernel), by decide⟩
theorem mo_71 : MOK (4, 209, 83, 0) := ⟨List.mem_of_getElem? (i := 511) (by decide +kernel), List.mem_of_getElem? (i := 513) (by decide +kernel), List.mem_of_getElem? (i := 14) (by decide +kernel), List.mem_of_getElem? (i := 42) (by decide +kernel), by decide⟩
theorem mo_72 : MOK (4, 212, 84, 0) := ⟨List.mem_of_getElem? (i := 519) (by decide +kernel), List.mem_of_getElem? (i := 521) (by decide +kernel), List.mem_of_getElem? (i := 15) (by decide +kernel), List.mem_of_getElem? (i := 42) (by decide +kernel), by decide⟩
theorem mo_73 : MOK (4, 220, 85, 0) := ⟨List.mem_of_getElem? (i := 535) (by decide +kernel), List.mem_of_getElem? (i := 537) (by decide +kernel), List.mem_of_getElem? (i := 16) (by decide +kernel), List.mem_of_getElem? (i := 42) (by decide +kernel), by decide⟩
theorem mo_74 : MOK (4, 229, 73, 1) := ⟨List.mem_of_getElem? (i := 539) (by decide +kernel), List.mem_of_getElem? (i := 540) (by decide +kernel), List.mem_of_getElem? (i := 42) (by decide +kernel), by decide⟩
theorem mo_75 : MOK (4, 232, 74, 1) := ⟨List.mem_of_getElem? (i := 542) (by decide +kernel), List.mem_of_getElem? (i := 543) (by decide +kernel), List.mem_of_getElem? (i := 42) (by decide +kernel), by decide⟩
theorem mo_76 : MOK (4, 235, 12, 0) := ⟨List.mem_of_getElem? (i := 558) (by decide +kernel), List.mem_of_getElem? (i := 559) (by decide +kernel), List.mem_of_getElem? (i := 560) (by decide +kernel), List.mem_of_getElem? (i := 46) (by decide +kernel), by decide⟩
theorem mo_77 : MOK (4, 242, 78, 1) := ⟨List.mem_of_getElem? (i := 570) (by decide +kernel), List.mem_of_getElem? (i := 571) (by decide +kernel), List.mem_of_getElem? (i := 42) (by decide +kernel), by decide⟩
theorem mo_78 : MOK (4, 249, 13, 0) := ⟨List.mem_of_getElem? (i := 545) (by decide +kernel), List.mem_of_getElem? (i := 546) (by decide +kernel), List.mem_of_getElem? (i := 547) (by decide +kernel), List.mem_of_getElem? (i := 46) (by decide +kernel), by decide⟩
theorem mo_79 : MOK (4, 252, 999, 3) := ⟨List.mem_of_getElem? (i := 577) (by decide +kernel), List.mem_of_getElem? (i := 312) (by decide +kernel), List.mem_of_getElem? (i := 311) (by decide +kernel), List.mem_of_getElem? (i := 48) (by decide +kernel)⟩
theorem mo_80 : MOK (4, 258, 77, 1) := ⟨List.mem_of_getElem? (i := 293) (by decide +kernel), List.mem_of_getElem? (i := 294) (by decide +kernel), List.mem_of_getElem? (i := 42) (by decide +kernel), by decide⟩
theorem mo_81 : MOK (4, 264, 999, 6) := ⟨List.mem_of_getElem? (i := 424) (by decide +kernel), List.mem_of_getElem? (i := 425) (by decide +kernel), List.mem_of_getElem? (i := 49) (by decide +kernel), List.mem_of_getElem? (i := 426) (by decide +kernel)⟩
theorem mo_82 : MOK (4, 270, 80, 1) := ⟨List.mem_of_getElem? (i := 427) (by decide +kernel), List.mem_of_getElem? (i := 428) (by decide +kernel), List.mem_of_getElem? (i := 42) (by decide +kernel), by decide⟩
theorem mo_83 : MOK (5, 81, 86, 1) := ⟨List.mem_of_getElem? (i := 686) (by decide +kernel), List.mem_of_getElem? (i := 687) (by decide +kernel), List.mem_of_getElem? (i := 47) (by decide +kernel), by decide⟩
theorem mo_84 : MOK (5, 85, 87, 0) := ⟨List.mem_of_getElem? (i := 702) (by decide +kernel), List.mem_of_getElem? (i := 704) (by decide +kernel), List.mem_of_getElem? (i := 19) (by decide +kernel), List.mem_of_getElem? (i := 47) (by decide +kernel), by decide⟩
theorem mo_85 : MOK (5, 93, 89, 0) := ⟨List.mem_of_getElem? (i := 690) (by decide +kernel), List.mem_of_getElem? (i := 692) (by decide +kernel), List.mem_of_getElem? (i := 17) (by decide +kernel), List.mem_of_getElem? (i := 47) (by decide +kernel), by decide⟩
theorem mo_86 : MOK (5, 97, 88, 0) := ⟨List.mem_of_getElem? (i := 698) (by decide +kernel), List.mem_of_getElem? (i := 700) (by decide +kernel), List.mem_of_getElem? (i := 18) (by decide +kernel), List.mem_of_getElem? (i := 47) (by decide +kernel), by decide⟩
theorem mo_87 : MOK (5, 103, 91, 0) := ⟨List.mem_of_getElem? (i := 707) (by decide +kernel), List.mem_of_getElem? (i := 709) (by decide +kernel), List.mem_of_getElem? (i := 20) (by decide +kernel), List.mem_of_getElem? (i := 47) (by decide +kernel), by decide⟩
theorem mo_88 : MOK (5, 110, 97, 0) := ⟨List.mem_of_getElem? (i := 736) (by decide +kernel), List.mem_of_getElem? (i := 738) (by decide +kernel), List.mem_of_getElem? (i := 23) (by decide +kernel), List.mem_of_getElem? (i := 47) (by decide +kernel), by decide⟩
theorem mo_89 : MOK (5, 115, 96, 0) := ⟨List.mem_of_getElem? (i := 728) (by decide +kernel), List.mem_of_getElem? (i := 730) (by decide +kernel), List.mem_of_getElem? (i := 21) (by decide +kernel), List.mem_of_getElem? (i := 47) (by decide +kernel), by decide⟩
theorem mo_90 : MOK (5, 119, 98, 0) := ⟨List.mem_of_getElem? (i := 732) (by decide +kernel), List.mem_of_getElem? (i := 734) (by decide +kernel), List.mem_of_getElem? (i := 22) (by decide +kernel), List.mem_of_getElem? (i := 47) (by decide +kernel), by decide⟩
theorem mo_91 : MOK (5, 123, 101, 1) := ⟨List.mem_of_getElem? (i := 744) (by decide +kernel), List.mem_of_getElem? (i := 745) (by decide +kernel), List.mem_of_getElem? (i := 47) (by decide +kernel), by decide⟩
theorem mo_92 : MOK (5, 147, 103, 0) := ⟨List.mem_of_getElem? (i := 763) (by decide +kernel), List.mem_of_getElem? (i := 765) (by decide +kernel), List.mem_of_getElem? (i := 25) (by decide +kernel), List.mem_of_getElem? (i := 47) (by decide +kernel), by decide⟩
theorem mo_93 : MOK (5, 154, 107, 1) := ⟨List.mem_of_getElem? (i := 767) (by decide +kernel), List.mem_of_getElem? (i := 768) (by decide +kernel), List.mem_of_getElem? (i := 47) (by decide +kernel), by decide⟩
theorem mo_94 : MOK (5, 157, 106, 0) := ⟨List.mem_of_getElem? (i := 770) (by decide +kernel), List.mem_of_getElem? (i := 772) (by decide +kernel), List.mem_of_getElem? (i := 26) (by decide +kernel), List.mem_of_getElem? (i := 47) (by decide +kernel), by decide⟩
theorem mo_95 : MOK (5, 160, 104, 0) := ⟨List.mem_of_getElem? (i := 776) (by decide +kernel), List.mem_of_getElem? (i := 778) (by decide +kernel), List.mem_of_getElem? (i := 27) (by decide +kernel), List.mem_of_getElem? (i := 47) (by decide +kernel), by decide⟩
theorem mo_96 : MOK (5, 163, 105, 0) := ⟨List.mem_of_getElem? (i := 784) (by decide +kernel), List.mem_of_getElem? (i := 786) (by decide +kernel), List.mem_of_getElem? (i := 29) (by decide +kernel), List.mem_of_getElem? (i := 47) (by decide +kernel), by decide⟩
theorem mo_97 : MOK (5, 167, 108, 0) := ⟨List.mem_of_getElem? (i := 759) (by decide +kernel), List.mem_of_getElem? (i := 761) (by decide +kernel), List.mem_of_getElem? (i := 24) (by decide +kernel), List.mem_of_getElem? (i := 47) (by decide +kernel), by decide⟩
theorem mo_98 : MOK (5, 170, 109, 0) := ⟨List.mem_of_getElem? (i := 780) (by decide +kernel), List.mem_of_getElem? (i := 782) (by decide +kernel), List.mem_of_getElem? (i := 28) (by decide +kernel), List.mem_of_getElem? (i := 47) (by decide +kernel), by decide⟩
theorem mo_99 : MOK (5, 180, 112, 0) := ⟨List.mem_of_getElem? (i := 797) (by decide +kernel), List.mem_of_getElem? (i := 799) (by decide +kernel), List.mem_of_getElem? (i := 31) (by decide +kernel), List.mem_of_getElem? (i := 47) (by decide +kernel), by decide⟩
theorem mo_100 : MOK (5, 190, 111, 0) := ⟨List.mem_of_getElem? (i := 793) (by decide +kernel), List.mem_of_getElem? (i := 795) (by decide +kernel), List.mem_of_getElem? (i := 30) (by decide +kernel), List.mem_of_getElem? (i := 47) (by decide +kernel), by decide⟩
theorem mo_101 : MOK (5, 193, 114, 0) := ⟨List.mem_of_getElem? (i := 801) (by decide +kernel), List.mem_of_getElem? (i := 803) (by decide +kernel), List.mem_of_getElem? (i := 32) (by decide +kernel), List.mem_of_getElem? (i := 47) (by decide +kernel), by decide⟩
theorem mo_102 : MOK (5, 196, 113, 1) := ⟨List.mem_of_getElem? (i := 805) (by decide +kernel), List.mem_of_getElem? (i := 806) (by decide +kernel), List.mem_of_getElem? (i := 47) (by decide +kernel), by decide⟩
theorem mo_103 : MOK (5, 208, 119, 0) := ⟨List.mem_of_getElem? (i := 823) (by decide +kernel), List.mem_of_getElem? (i := 825) (by decide +kernel), List.mem_of_getElem? (i := 33) (by decide +kernel), List.mem_of_getElem? (i := 47) (by decide +kernel), by decide⟩
theorem mo_104 : MOK (5, 211, 118, 0) := ⟨List.mem_of_getElem? (i := 827) (by decide +kernel), List.mem_of_getElem? (i := 829) (by decide +kernel), List.mem_of_getElem? (i := 34) (by decide +kernel), List.mem_of_getElem? (i := 47) (by decide +kernel), by decide⟩
theorem mo_105 : MOK (5, 215, 122, 0) := ⟨List.mem_of_getElem? (i := 840) (by decide +kernel), List.mem_of_getElem? (i := 842) (by decide +kernel), List.mem_of_getElem? (i := 35) (by decide +kernel), List.mem_of_getElem? (i := 47) (by decide +kernel), by decide⟩
theorem mo_106 : MOK (5, 219, 125, 0) := ⟨List.mem_of_getElem? (i := 852) (by decide +kernel), List.mem_of_getElem? (i := 854) (by decide +kernel), List.mem_of_getElem? (i := 36) (by decide +kernel), List.mem_of_getElem? (i := 47) (by decide +kernel), by decide⟩
theorem mo_107 : MOK (5, 223, 130, 0) := ⟨List.mem_of_getElem? (i := 872) (by decide +kernel), List.mem_of_getElem? (i := 874) (by decide +kernel), List.mem_of_getElem? (i := 37) (by decide +kernel), List.mem_of_getElem? (i := 47) (by decide +kernel), by decide⟩
theorem mo_108 : MOK (5, 230, 131, 0) := ⟨List.mem_of_getElem? (i := 880) (by decide +kernel), List.mem_of_getElem? (i := 882) (by decide +kernel), List.mem_of_getElem? (i := 38) (by decide +kernel), List.mem_of_getElem? (i := 47) (by decide +kernel), by decide⟩
theorem mo_109 : MOK (5, 234, 134, 1) := ⟨List.mem_of_getElem? (i := 888) (by decide +kernel), List.mem_of_getElem? (i := 889) (by decide +kernel), List.mem_of_getElem? (i := 47) (by decide +kernel), by decide⟩
theorem mo_110 : MOK (5, 237, 135, 1) := ⟨List.mem_of_getElem? (i := 891) (by decide +kernel), List.mem_of_getElem? (i := 892) (by decide +kernel), List.mem_of_getElem? (i := 47) (by decide +kernel), by decide⟩
theorem mo_111 : MOK (5, 240, 136, 0) := ⟨List.mem_of_getElem? (i := 894) (by decide +kernel), List.mem_of_getElem? (i := 896) (by decide +kernel), List.mem_of_getElem? (i := 39) (by decide +kernel), List.mem_of_getElem? (i := 47) (by decide +kernel), by decide⟩
theorem mo_112 : MOK (5, 244, 138, 0) := ⟨List.mem_of_getElem? (i := 902) (by decide +kernel), List.mem_of_getElem? (i := 904) (by decide +kernel), List.mem_of_getElem? (i := 40) (by decide +kernel), List.mem_of_getElem? (i := 47) (by decide +kernel), by decide⟩
theorem mo_113 : MOK (8, 13, 41, 0) := ⟨List.mem_of_getElem? (i := 207) (by decide +kernel), List.mem_of_getElem? (i := 208) (by decide +kernel), List.mem_of_getElem? (i := 209) (by decide +kernel), List.mem_of_getElem? (i := 42) (by decide +kernel), by decide⟩
theorem mo_114 : MOK (8, 17, 90, 0) := ⟨List.mem_of_getElem? (i := 681) (by decide +kernel), List.mem_of_getElem? (i := 682) (by decide +kernel), List.mem_of_getElem? (i := 683) (by decide +kernel), List.mem_of_getElem? (i := 47) (by decide +kernel), by decide⟩
theorem mo_115 : MOK (8, 18, 42, 0) := ⟨List.mem_of_getElem? (i := 218) (by decide +kernel), List.mem_of_getElem? (i := 219) (by decide +kernel), List.mem_of_getElem? (i := 220) (by decide +kernel), List.mem_of_getElem? (i := 42) (by decide +kernel), by decide⟩
theorem mo_116 : MOK (8, 22, 92, 0) := ⟨List.mem_of_getElem? (i := 694) (by decide +kernel), List.mem_of_getElem? (i := 695) (by decide +kernel), List.mem_of_getElem? (i := 696) (by decide +kernel), List.mem_of_getElem? (i := 47) (by decide +kernel), by decide⟩
theorem mo_117 : MOK (8, 23, 43, 0) := ⟨List.mem_of_getElem? (i := 241) (by decide +kernel), List.mem_of_getElem? (i := 242) (by decide +kernel), List.mem_of_getElem? (i := 243) (by decide +kernel), List.mem_of_getElem? (i := 42) (by decide +kernel), by decide⟩
theorem mo_118 : MOK (8, 26, 93, 0) := ⟨List.mem_of_getElem? (i := 711) (by decide +kernel), List.mem_of_getElem? (i := 712) (by decide +kernel), List.mem_of_getElem? (i := 713) (by decide +kernel), List.mem_of_getElem? (i := 47) (by decide +kernel), by decide⟩
theorem mo_119 : MOK (8, 27, 44, 0) := ⟨List.mem_of_getElem? (i := 246) (by decide +kernel), List.mem_of_getElem? (i := 247) (by decide +kernel), List.mem_of_getElem? (i := 248) (by decide +kernel), List.mem_of_getElem? (i := 42) (by decide +kernel), by decide⟩
theorem mo_120 : MOK (8, 30, 94, 0) := ⟨List.mem_of_getElem? (i := 715) (by decide +kernel), List.mem_of_getElem? (i := 716) (by decide +kernel), List.mem_of_getElem? (i := 717) (by decide +kernel), List.mem_of_getElem? (i := 47) (by decide +kernel), by decide⟩
theorem mo_121 : MOK (8, 31, 45, 0) := ⟨List.mem_of_getElem? (i := 253) (by decide +kernel), List.mem_of_getElem? (i := 254) (by decide +kernel), List.mem_of_getElem? (i := 255) (by decide +kernel), List.mem_of_getElem? (i := 42) (by decide +kernel), by decide⟩
theorem mo_122 : MOK (8, 35, 95, 0) := ⟨List.mem_of_getElem? (i := 719) (by decide +kernel), List.mem_of_getElem? (i := 720) (by decide +kernel), List.mem_of_getElem? (i := 721) (by decide +kernel), List.mem_of_getElem? (i := 47) (by decide +kernel), by decide⟩
theorem mo_123 : MOK (8, 36, 46, 0) := ⟨List.mem_of_getElem? (i := 257) (by decide +kernel), List.mem_of_getElem? (i := 258) (by decide +kernel), List.mem_of_getElem? (i := 259) (by decide +kernel), List.mem_of_getElem? (i := 42) (by decide +kernel), by decide⟩
theorem mo_124 : MOK (8, 39, 99, 0) := ⟨List.mem_of_getElem? (i := 723) (by decide +kernel), List.mem_of_getElem? (i := 724) (by decide +kernel), List.mem_of_getElem? (i := 725) (by decide +kernel), List.mem_of_getElem? (i := 47) (by decide +kernel), by decide⟩
theorem mo_125 : MOK (8, 42, 47, 0) := ⟨List.mem_of_getElem? (i := 286) (by decide +kernel), List.mem_of_getElem? (i := 287) (by decide +kernel), List.mem_of_getElem? (i := 288) (by decide +kernel), List.mem_of_getElem? (i := 42) (by decide +kernel), by decide⟩
theorem mo_126 : MOK (8, 46, 102, 0) := ⟨List.mem_of_getElem? (i := 747) (by decide +kernel), List.mem_of_getElem? (i := 748) (by decide +kernel), List.mem_of_getElem? (i := 749) (by decide +kernel), List.mem_of_getElem? (i := 47) (by decide +kernel), by decide⟩
theorem mo_127 : MOK (8, 47, 48, 0) := ⟨List.mem_of_getElem? (i := 302) (by decide +kernel), List.mem_of_getElem? (i := 303) (by decide +kernel), List.mem_of_getElem? (i := 304) (by decide +kernel), List.mem_of_getElem? (i := 42) (by decide +kernel), by decide⟩
theorem mo_128 : MOK (8, 51, 110, 0) := ⟨List.mem_of_getElem? (i := 755) (by decide +kernel), List.mem_of_getElem? (i := 756) (by decide +kernel), List.mem_of_getElem? (i := 757) (by decide +kernel), List.mem_of_getElem? (i := 47) (by decide +kernel), by decide⟩
theorem mo_129 : MOK (8, 52, 49, 0) := ⟨List.mem_of_getElem? (i := 362) (by decide +kernel), List.mem_of_getElem? (i := 363) (by decide +kernel), List.mem_of_getElem? (i := 364) (by decide +kernel), List.mem_of_getElem? (i := 42) (by decide +kernel), by decide⟩
theorem mo_130 : MOK (8, 55, 100, 0) := ⟨List.mem_of_getElem? (i := 740) (by decide +kernel), List.mem_of_getElem? (i := 741) (by decide +kernel), List.mem_of_getElem? (i := 742) (by decide +kernel), List.mem_of_getElem? (i := 47) (by decide +kernel), by decide⟩
theorem mo_131 : MOK (8, 56, 50, 0) := ⟨List.mem_of_getElem? (i := 377) (by decide +kernel), List.mem_of_getElem? (i := 378) (by decide +kernel), List.mem_of_getElem? (i := 379) (by decide +kernel), List.mem_of_getElem? (i := 42) (by decide +kernel), by decide⟩
theorem mo_132 : MOK (8, 60, 115, 0) := ⟨List.mem_of_getElem? (i := 788) (by decide +kernel), List.mem_of_getElem? (i := 789) (by decide +kernel), List.mem_of_getElem? (i := 790) (by decide +kernel), List.mem_of_getElem? (i := 47) (by decide +kernel), by decide⟩
theorem mo_133 : MOK (8, 61, 51, 0) := ⟨List.mem_of_getElem? (i := 430) (by decide +kernel), List.mem_of_getElem? (i := 431) (by decide +kernel), List.mem_of_getElem? (i := 432) (by decide +kernel), List.mem_of_getElem? (i := 42) (by decide +kernel), by decide⟩
theorem mo_134 : MOK (8, 65, 116, 0) := ⟨List.mem_of_getElem? (i := 809) (by decide +kernel), List.mem_of_getElem? (i := 810) (by decide +kernel), List.mem_of_getElem? (i := 811) (by decide +kernel), List.mem_of_getElem? (i := 47) (by decide +kernel), by decide⟩
theorem mo_135 : MOK (8, 66, 52, 0) := ⟨List.mem_of_getElem? (i := 437) (by decide +kernel), List.mem_of_getElem? (i := 438) (by decide +kernel), List.mem_of_getElem? (i := 439) (by decide +kernel), List.mem_of_getElem? (i := 42) (by decide +kernel), by decide⟩
theorem mo_136 : MOK (8, 69, 117, 0) := ⟨List.mem_of_getElem? (i := 814) (by decide +kernel), List.mem_of_getElem? (i := 815) (by decide +kernel), List.mem_of_getElem? (i := 816) (by decide +kernel), List.mem_of_getElem? (i := 47) (by decide +kernel), by decide⟩
theorem mo_137 : MOK (8, 70, 53, 0) := ⟨List.mem_of_getElem? (i := 445) (by decide +kernel), List.mem_of_getElem? (i := 446) (by decide +kernel), List.mem_of_getElem? (i := 447) (by decide +kernel), List.mem_of_getElem? (i := 42) (by decide +kernel), by decide⟩
theorem mo_138 : MOK (8, 74, 120, 0) := ⟨List.mem_of_getElem? (i := 818) (by decide +kernel), List.mem_of_getElem? (i := 819) (by decide +kernel), List.mem_of_getElem? (i := 820) (by decide +kernel), List.mem_of_getElem? (i := 47) (by decide +kernel), by decide⟩
theorem mo_139 : MOK (8, 75, 54, 0) := ⟨List.mem_of_getElem? (i := 455) (by decide +kernel), List.mem_of_getElem? (i := 456) (by decide +kernel), List.mem_of_getElem? (i := 457) (by decide +kernel), List.mem_of_getElem? (i := 42) (by decide +kernel), by decide⟩
theorem mo_140 : MOK (8, 78, 121, 0) := ⟨List.mem_of_getElem? (i := 832) (by decide +kernel), List.mem_of_getElem? (i := 833) (by decide +kernel), List.mem_of_getElem? (i := 834) (by decide +kernel), List.mem_of_getElem? (i := 47) (by decide +kernel), by decide⟩
theorem mo_141 : MOK (8, 79, 55, 0) := ⟨List.mem_of_getElem? (i := 464) (by decide +kernel), List.mem_of_getElem? (i := 465) (by decide +kernel), List.mem_of_getElem? (i := 466) (by decide +kernel), List.mem_of_getElem? (i := 42) (by decide +kernel), by decide⟩
theorem mo_142 : MOK (8, 82, 123, 0) := ⟨List.mem_of_getElem? (i := 836) (by decide +kernel), List.mem_of_getElem? (i := 837) (by decide +kernel), List.mem_of_getElem? (i := 838) (by decide +kernel), List.mem_of_getElem? (i := 47) (by decide +kernel), by decide⟩
theorem mo_143 : MOK (8, 83, 56, 0) := ⟨List.mem_of_getElem? (i := 478) (by decide +kernel), List.mem_of_getElem? (i := 479) (by decide +kernel), List.mem_of_getElem? (i := 480) (by decide +kernel), List.mem_of_getElem? (i := 42) (by decide +kernel), by decide⟩
theorem mo_144 : MOK (8, 86, 124, 0) := ⟨List.mem_of_getElem? (i := 844) (by decide +kernel), List.mem_of_getElem? (i := 845) (by decide +kernel), List.mem_of_getElem? (i := 846) (by decide +kernel), List.mem_of_getElem? (i := 47) (by decide +kernel), by decide⟩
theorem mo_145 : MOK (8, 87, 57, 0) := ⟨List.mem_of_getElem? (i := 487) (by decide +kernel), List.mem_of_getElem? (i := 488) (by decide +kernel), List.mem_of_getElem? (i := 489) (by decide +kernel), List.mem_of_getElem? (i := 42) (by decide +kernel), by decide⟩
theorem mo_146 : MOK (8, 90, 126, 0) := ⟨List.mem_of_getElem? (i := 848) (by decide +kernel), List.mem_of_getElem? (i := 849) (by decide +kernel), List.mem_of_getElem? (i := 850) (by decide +kernel), List.mem_of_getElem? (i := 47) (by decide +kernel), by decide⟩
theorem mo_147 : MOK (8, 91, 58, 0) := ⟨List.mem_of_getElem? (i := 495) (by decide +kernel), List.mem_of_getElem? (i := 496) (by decide +kernel), List.mem_of_getElem? (i := 497) (by decide +kernel), List.mem_of_getElem? (i := 42) (by decide +kernel), by decide⟩
theorem mo_148 : MOK (8, 94, 127, 0) := ⟨List.mem_of_getElem? (i := 856) (by decide +kernel), List.mem_of_getElem? (i := 857) (by decide +kernel), List.mem_of_getElem? (i := 858) (by decide +kernel), List.mem_of_getElem? (i := 47) (by decide +kernel), by decide⟩
theorem mo_149 : MOK (8, 95, 59, 0) := ⟨List.mem_of_getElem? (i := 503) (by decide +kernel), List.mem_of_getElem? (i := 504) (by decide +kernel), List.mem_of_getElem? (i := 505) (by decide +kernel), List.mem_of_getElem? (i := 42) (by decide +kernel), by decide⟩
theorem mo_150 : MOK (8, 98, 128, 0) := ⟨List.mem_of_getElem? (i := 860) (by decide +kernel), List.mem_of_getElem? (i := 861) (by decide +kernel), List.mem_of_getElem? (i := 862) (by decide +kernel), List.mem_of_getElem? (i := 47) (by decide +kernel), by decide⟩
theorem mo_151 : MOK (8, 99, 60, 0) := ⟨List.mem_of_getElem? (i := 515) (by decide +kernel), List.mem_of_getElem? (i := 516) (by decide +kernel), List.mem_of_getElem? (i := 517) (by decide +kernel), List.mem_of_getElem? (i := 42) (by decide +kernel), by decide⟩
theorem mo_152 : MOK (8, 102, 129, 0) := ⟨List.mem_of_getElem? (i := 864) (by decide +kernel), List.mem_of_getElem? (i := 865) (by decide +kernel), List.mem_of_getElem? (i := 866) (by decide +kernel), List.mem_of_getElem? (i := 47) (by decide +kernel), by decide⟩
theorem mo_153 : MOK (8, 103, 61, 0) := ⟨List.mem_of_getElem? (i := 523) (by decide +kernel), List.mem_of_getElem? (i := 524) (by decide +kernel), List.mem_of_getElem? (i := 525) (by decide +kernel), List.mem_of_getElem? (i := 42) (by decide +kernel), by decide⟩
theorem mo_154 : MOK (8, 106, 132, 0) := ⟨List.mem_of_getElem? (i := 868) (by decide +kernel), List.mem_of_getElem? (i := 869) (by decide +kernel), List.mem_of_getElem? (i := 870) (by decide +kernel), List.mem_of_getElem? (i := 47) (by decide +kernel), by decide⟩
theorem mo_155 : MOK (8, 107, 62, 0) := ⟨List.mem_of_getElem? (i := 527) (by decide +kernel), List.mem_of_getElem? (i := 528) (by decide +kernel), List.mem_of_getElem? (i := 529) (by decide +kernel), List.mem_of_getElem? (i := 42) (by decide +kernel), by decide⟩
theorem mo_156 : MOK (8, 110, 133, 0) := ⟨List.mem_of_getElem? (i := 876) (by decide +kernel), List.mem_of_getElem? (i := 877) (by decide +kernel), List.mem_of_getElem? (i := 878) (by decide +kernel), List.mem_of_getElem? (i := 47) (by decide +kernel), by decide⟩
theorem mo_157 : MOK (8, 111, 63, 0) := ⟨List.mem_of_getElem? (i := 531) (by decide +kernel), List.mem_of_getElem? (i := 532) (by decide +kernel), List.mem_of_getElem? (i := 533) (by decide +kernel), List.mem_of_getElem? (i := 42) (by decide +kernel), by decide⟩
theorem mo_158 : MOK (8, 114, 137, 0) := ⟨List.mem_of_getElem? (i := 884) (by decide +kernel), List.mem_of_getElem? (i := 885) (by decide +kernel), List.mem_of_getElem? (i := 886) (by decide +kernel), List.mem_of_getElem? (i := 47) (by decide +kernel), by decide⟩
theorem mo_159 : MOK (8, 115, 64, 0) := ⟨List.mem_of_getElem? (i := 550) (by decide +kernel), List.mem_of_getElem? (i := 551) (by decide +kernel), List.mem_of_getElem? (i := 552) (by decide +kernel), List.mem_of_getElem? (i := 42) (by decide +kernel), by decide⟩
theorem mo_160 : MOK (8, 118, 139, 0) := ⟨List.mem_of_getElem? (i := 898) (by decide +kernel), List.mem_of_getElem? (i := 899) (by decide +kernel), List.mem_of_getElem? (i := 900) (by decide +kernel), List.mem_of_getElem? (i := 47) (by decide +kernel), by decide⟩
theorem mo_161 : MOK (8, 119, 65, 0) := ⟨List.mem_of_getElem? (i := 554) (by decide +kernel), List.mem_of_getElem? (i := 555) (by decide +kernel), List.mem_of_getElem? (i := 556) (by decide +kernel), List.mem_of_getElem? (i := 42) (by decide +kernel), by decide⟩
theorem mo_162 : MOK (8, 122, 140, 0) := ⟨List.mem_of_getElem? (i := 906) (by decide +kernel), List.mem_of_getElem? (i := 907) (by decide +kernel), List.mem_of_getElem? (i := 908) (by decide +kernel), List.mem_of_getElem? (i := 47) (by decide +kernel), by decide⟩
theorem mo_163 : MOK (8, 123, 66, 0) := ⟨List.mem_of_getElem? (i := 562) (by decide +kernel), List.mem_of_getElem? (i := 563) (by decide +kernel), List.mem_of_getElem? (i := 564) (by decide +kernel), List.mem_of_getElem? (i := 42) (by decide +kernel), by decide⟩
theorem mo_164 : MOK (8, 126, 141, 0) := ⟨List.mem_of_getElem? (i := 910) (by decide +kernel), List.mem_of_getElem? (i := 911) (by decide +kernel), List.mem_of_getElem? (i := 912) (by decide +kernel), List.mem_of_getElem? (i := 47) (by decide +kernel), by decide⟩
theorem mo_165 : MOK (8, 127, 67, 0) := ⟨List.mem_of_getElem? (i := 566) (by decide +kernel), List.mem_of_getElem? (i := 567) (by decide +kernel), List.mem_of_getElem? (i := 568) (by decide +kernel), List.mem_of_getElem? (i := 42) (by decide +kernel), by decide⟩
theorem mo_166 : MOK (8, 131, 142, 0) := ⟨List.mem_of_getElem? (i := 914) (by decide +kernel), List.mem_of_getElem? (i := 915) (by decide +kernel), List.mem_of_getElem? (i := 916) (by decide +kernel), List.mem_of_getElem? (i := 47) (by decide +kernel), by decide⟩
theorem mo_167 : MOK (8, 132, 68, 0) := ⟨List.mem_of_getElem? (i := 573) (by decide +kernel), List.mem_of_getElem? (i := 574) (by decide +kernel), List.mem_of_getElem? (i := 575) (by decide +kernel), List.mem_of_getElem? (i := 42) (by decide +kernel), by decide⟩
theorem mo_168 : MOK (8, 136, 143, 0) := ⟨List.mem_of_getElem? (i := 918) (by decide +kernel), List.mem_of_getElem? (i := 919) (by decide +kernel), List.mem_of_getElem? (i := 920) (by decide +kernel), List.mem_of_getElem? (i := 47) (by decide +kernel), by decide⟩
def metT_0 : List (Nat × Nat × Nat × Nat) := [(0, 30, 75, 2), (0, 40, 36, 0), (0, 44, 35, 0), (0, 50, 3, 0), (0, 54, 4, 0), (0, 60, 999, 3), (0, 66, 1, 0), (0, 70, 6, 0), (0, 74, 29, 0), (0, 78, 33, 0), (0, 82, 5, 0), (0, 86, 7, 0), (0, 96, 999, 6), (2, 19, 77, 2), (2, 26, 16, 0), (2, 30, 17, 0), (2, 38, 20, 0), (2, 42, 21, 1), (2, 46, 18, 0), (2, 49, 24, 0), (2, 52, 28, 0), (2, 56, 23, 0), (2, 59, 22, 1), (2, 62, 19, 1)]
theorem metOK_0 : ∀ e ∈ metT_0, MOK e := List.forall_mem_cons.mpr ⟨mo_0, List.forall_mem_cons.mpr ⟨mo_1, List.forall_mem_cons.mpr ⟨mo_2, List.forall_mem_cons.mpr ⟨mo_3, List.forall_mem_cons.mpr ⟨mo_4, List.forall_mem_cons.mpr ⟨mo_5, List.forall_mem_cons.mpr ⟨mo_6, List.forall_mem_cons.mpr ⟨mo_7, List.forall_mem_cons.mpr ⟨mo_8, List.forall_mem_cons.mpr ⟨mo_9, List.forall_mem_cons.mpr ⟨mo_10, List.forall_mem_cons.mpr ⟨mo_11, List.forall_mem_cons.mpr ⟨mo_12, List.forall_mem_cons.mpr ⟨mo_13, List.forall_mem_cons.mpr ⟨mo_14, List.forall_mem_cons.mpr ⟨mo_15, List.forall_mem_cons.mpr ⟨mo_16, List.forall_mem_cons.mpr ⟨mo_17, List.forall_mem_cons.mpr ⟨mo_18, List.forall_mem_cons.mpr ⟨mo_19, List.forall_mem_cons.mpr ⟨mo_20, List.forall_mem_cons.mpr ⟨mo_21, List.forall_mem_cons.mpr ⟨mo_22, List.forall_mem_cons.mpr ⟨mo_23, fun _ h => absurd h List.not_mem_nil⟩⟩⟩⟩⟩⟩⟩⟩⟩⟩⟩⟩⟩⟩⟩⟩⟩⟩⟩⟩⟩⟩⟩⟩
def metT_1 : List (Nat × Nat × Nat × Nat) := [(2, 65, 30, 0), (2, 69, 999, 4), (2, 74, 999, 5), (3, 37, 25, 0), (3, 41, 30, 0), (3, 45, 29, 0), (3, 49, 27, 0), (3, 52, 35, 0), (3, 56, 75, 2), (3, 60, 37, 0), (3, 64, 999, 3), (3, 70, 39, 0), (3, 73, 33, 0), (3, 76, 999, 4), (4, 50, 69, 1), (4, 58, 28, 0), (4, 62, 26, 0), (4, 66, 70, 1), (4, 69, 29, 0), (4, 72, 30, 0), (4, 76, 25, 0), (4, 86, 71, 1), (4, 98, 33, 0), (4, 102, 36, 0)]
theorem metOK_1 : ∀ e ∈ metT_1, MOK e := List.forall_mem_cons.mpr ⟨mo_24, List.forall_mem_cons.mpr ⟨mo_25, List.forall_mem_cons.mpr ⟨mo_26, List.forall_mem_cons.mpr ⟨mo_27, List.forall_mem_cons.mpr ⟨mo_28, List.forall_mem_cons.mpr ⟨mo_29, List.forall_mem_cons.mpr ⟨mo_30, List.forall_mem_cons.mpr ⟨mo_31, List.forall_mem_cons.mpr ⟨mo_32, List.forall_mem_cons.mpr ⟨mo_33, List.forall_mem_cons.mpr ⟨mo_34, List.forall_mem_cons.mpr ⟨mo_35, List.forall_mem_cons.mpr ⟨mo_36, List.forall_mem_cons.mpr ⟨mo_37, List.forall_mem_cons.mpr ⟨mo_38, List.forall_mem_cons.mpr ⟨mo_39, List.forall_mem_cons.mpr ⟨mo_40, List.forall_mem_cons.mpr ⟨mo_41, List.forall_mem_cons.mpr ⟨mo_42, List.forall_mem_cons.mpr ⟨mo_43, List.forall_mem_cons.mpr ⟨mo_44, List.forall_mem_cons.mpr ⟨mo_45, List.forall_mem_cons.mpr ⟨mo_46, List.forall_mem_cons.mpr ⟨mo_47, fun _ h => absurd h List.not_mem_nil⟩⟩⟩⟩⟩⟩⟩⟩⟩⟩⟩⟩⟩⟩⟩⟩⟩⟩⟩⟩⟩⟩⟩⟩
def metT_2 : List (Nat × Nat × Nat × Nat) := [(4, 106, 75, 1), (4, 109, 76, 1), (4, 116, 14, 0), (4, 120, 40, 0), (4, 124, 32, 0), (4, 127, 15, 0), (4, 131, 35, 0), (4, 134, 0, 1), (4, 139, 34, 0), (4, 145, 72, 1), (4, 150, 2, 0), (4, 153, 1, 0), (4, 165, 79, 1), (4, 169, 27, 0), (4, 174, 7, 0), (4, 178, 8, 0), (4, 184, 81, 0), (4, 187, 31, 0), (4, 191, 38, 0), (4, 194, 11, 0), (4, 198, 10, 0), (4, 202, 9, 0), (4, 206, 82, 0), (4, 209, 83, 0)]
theorem metOK_2 : ∀ e ∈ metT_2, MOK e := List.forall_mem_cons.mpr ⟨mo_48, List.forall_mem_cons.mpr ⟨mo_49, List.forall_mem_cons.mpr ⟨mo_50, List.forall_mem_cons.mpr ⟨mo_51, List.forall_mem_cons.mpr ⟨mo_52, List.forall_mem_cons.mpr ⟨mo_53, List.forall_mem_cons.mpr ⟨mo_54, List.forall_mem_cons.mpr ⟨mo_55, List.forall_mem_cons.mpr ⟨mo_56, List.forall_mem_cons.mpr ⟨mo_57, List.forall_mem_cons.mpr ⟨mo_58, List.forall_mem_cons.mpr ⟨mo_59, List.forall_mem_cons.mpr ⟨mo_60, List.forall_mem_cons.mpr ⟨mo_61, List.forall_mem_cons.mpr ⟨mo_62, List.forall_mem_cons.mpr ⟨mo_63, List.forall_mem_cons.mpr ⟨mo_64, List.forall_mem_cons.mpr ⟨mo_65, List.forall_mem_cons.mpr ⟨mo_66, List.forall_mem_cons.mpr ⟨mo_67, List.forall_mem_cons.mpr ⟨mo_68, List.forall_mem_cons.mpr ⟨mo_69, List.forall_mem_cons.mpr ⟨mo_70, List.forall_mem_cons.mpr ⟨mo_71, fun _ h => absurd h List.not_mem_nil⟩⟩⟩⟩⟩⟩⟩⟩⟩⟩⟩⟩⟩⟩⟩⟩⟩⟩⟩⟩⟩⟩⟩⟩
def metT_3 : List (Nat × Nat × Nat × Nat) := [(4, 212, 84, 0), (4, 220, 85, 0), (4, 229, 73, 1), (4, 232, 74, 1), (4, 235, 12, 0), (4, 242, 78, 1), (4, 249, 13, 0), (4, 252, 999, 3), (4, 258, 77, 1), (4, 264, 999, 6), (4, 270, 80, 1), (5, 81, 86, 1), (5, 85, 87, 0), (5, 93, 89, 0), (5, 97, 88, 0), (5, 103, 91, 0), (5, 110, 97, 0), (5, 115, 96, 0), (5, 119, 98, 0), (5, 123, 101, 1), (5, 147, 103, 0), (5, 154, 107, 1), (5, 157, 106, 0), (5, 160, 104, 0)]
theorem metOK_3 : ∀ e ∈ metT_3, MOK e := List.forall_mem_cons.mpr ⟨mo_72, List.forall_mem_cons.mpr ⟨mo_73, List.forall_mem_cons.mpr ⟨mo_74, List.forall_mem_cons.mpr ⟨mo_75, List.forall_mem_cons.mpr ⟨mo_76, List.forall_mem_cons.mpr ⟨mo_77, List.forall_mem_cons.mpr ⟨mo_78, List.forall_mem_cons.mpr ⟨mo_79, List.forall_mem_cons.mpr ⟨mo_80, List.forall_mem_cons.mpr ⟨mo_81, List.forall_mem_cons.mpr ⟨mo_82, List.forall_mem_cons.mpr ⟨mo_83, List.forall_mem_cons.mpr ⟨mo_84, List.forall_mem_cons.mpr ⟨mo_85, List.forall_mem_cons.mpr ⟨mo_86, List.forall_mem_cons.mpr ⟨mo_87, List.forall_mem_cons.mpr ⟨mo_88, List.forall_mem_cons.mpr ⟨mo_89, List.forall_mem_cons.mpr ⟨mo_90, List.forall_mem_cons.mpr ⟨mo_91, List.forall_mem_cons.mpr ⟨mo_92, List.forall_mem_cons.mpr ⟨mo_93, List.forall_mem_cons.mpr ⟨mo_94, List.forall_mem_cons.mpr ⟨mo_95, fun _ h => absurd h List.not_mem_nil⟩⟩⟩⟩⟩⟩⟩⟩⟩⟩⟩⟩⟩⟩⟩⟩⟩⟩⟩⟩⟩⟩⟩⟩
def metT_4 : List (Nat × Nat × Nat × Nat) := [(5, 163, 105, 0), (5, 167, 108, 0), (5, 170, 109, 0), (5, 180, 112, 0), (5, 190, 111, 0), (5, 193, 114, 0), (5, 196, 113, 1), (5, 208, 119, 0), (5, 211, 118, 0), (5, 215, 122, 0), (5, 219, 125, 0), (5, 223, 130, 0), (5, 230, 131, 0), (5, 234, 134, 1), (5, 237, 135, 1), (5, 240, 136, 0), (5, 244, 138, 0), (8, 13, 41, 0), (8, 17, 90, 0), (8, 18, 42, 0), (8, 22, 92, 0), (8, 23, 43, 0), (8, 26, 93, 0), (8, 27, 44, 0)]
theorem metOK_4 : ∀ e ∈ metT_4, MOK e := List.forall_mem_cons.mpr ⟨mo_96, List.forall_mem_cons.mpr ⟨mo_97, List.forall_mem_cons.mpr ⟨mo_98, List.forall_mem_cons.mpr ⟨mo_99, List.forall_mem_cons.mpr ⟨mo_100, List.forall_mem_cons.mpr ⟨mo_101, List.forall_mem_cons.mpr ⟨mo_102, List.forall_mem_cons.mpr ⟨mo_103, List.forall_mem_cons.mpr ⟨mo_104, List.forall_mem_cons.mpr ⟨mo_105, List.forall_mem_cons.mpr ⟨mo_106, List.forall_mem_cons.mpr ⟨mo_107, List.forall_mem_cons.mpr ⟨mo_108, List.forall_mem_cons.mpr ⟨mo_109, List.forall_mem_cons.mpr ⟨mo_110, List.forall_mem_cons.mpr ⟨mo_111, List.forall_mem_cons.mpr ⟨mo_112, List.forall_mem_cons.mpr ⟨mo_113, List.forall_mem_cons.mpr ⟨mo_114, List.forall_mem_cons.mpr ⟨mo_115, List.forall_mem_cons.mpr ⟨mo_116, List.forall_mem_cons.mpr ⟨mo_117, List.forall_mem_cons.mpr ⟨mo_118, List.forall_mem_cons.mpr ⟨mo_119, fun _ h => absurd h List.not_mem_nil⟩⟩⟩⟩⟩⟩⟩⟩⟩⟩⟩⟩⟩⟩⟩⟩⟩⟩⟩⟩⟩⟩⟩⟩
def metT_5 : List (Nat × Nat × Nat × Nat) := [(8, 30, 94, 0), (8, 31, 45, 0), (8, 35, 95, 0), (8, 36, 46, 0), (8, 39, 99, 0), (8, 42, 47, 0), (8, 46, 102, 0), (8, 47, 48, 0), (8, 51, 110, 0), (8, 52, 49, 0), (8, 55, 100, 0), (8, 56, 50, 0), (8, 60, 115, 0), (8, 61, 51, 0), (8, 65, 116, 0), (8, 66, 52, 0), (8, 69, 117, 0), (8, 70, 53, 0), (8, 74, 120, 0), (8, 75, 54, 0), (8, 78, 121, 0), (8, 79, 55, 0), (8, 82, 123, 0), (8, 83, 56, 0)]
theorem metOK_5 : ∀ e ∈ metT_5, MOK e := List.forall_mem_cons.mpr ⟨mo_120, List.forall_mem_cons.mpr ⟨mo_121, List.forall_mem_cons.mpr ⟨mo_122, List.forall_mem_cons.mpr ⟨mo_123, List.forall_mem_cons.mpr ⟨mo_124, List.forall_mem_cons.mpr ⟨mo_125, List.forall_mem_cons.mpr ⟨mo_126, List.forall_mem_cons.mpr ⟨mo_127, List.forall_mem_cons.mpr ⟨mo_128, List.forall_mem_cons.mpr ⟨mo_129, List.forall_mem_cons.mpr ⟨mo_130, List.forall_mem_cons.mpr ⟨mo_131, List.forall_mem_cons.mpr ⟨mo_132, List.forall_mem_cons.mpr ⟨mo_133, List.forall_mem_cons.mpr ⟨mo_134, List.forall_mem_cons.mpr ⟨mo_135, List.forall_mem_cons.mpr ⟨mo_136, List.forall_mem_cons.mpr ⟨mo_137, List.forall_mem_cons.mpr ⟨mo_138, List.forall_mem_cons.mpr ⟨mo_139, List.forall_mem_cons.mpr ⟨mo_140, List.forall_mem_cons.mpr ⟨mo_141, List.forall_mem_cons.mpr ⟨mo_142, List.forall_mem_cons.mpr ⟨mo_143, fun _ h => absurd h List.not_mem_nil⟩⟩⟩⟩⟩⟩⟩⟩⟩⟩⟩⟩⟩⟩⟩⟩⟩⟩⟩⟩⟩⟩⟩⟩
def metT_6 : List (Nat × Nat × Nat × Nat) := [(8, 86, 124, 0), (8, 87, 57, 0), (8, 90, 126, 0), (8, 91, 58, 0), (8, 94, 127, 0), (8, 95, 59, 0), (8, 98, 128, 0), (8, 99, 60, 0), (8, 102, 129, 0), (8, 103, 61, 0), (8, 106, 132, 0), (8, 107, 62, 0), (8, 110, 133, 0), (8, 111, 63, 0), (8, 114, 137, 0), (8, 115, 64, 0), (8, 118, 139, 0), (8, 119, 65, 0), (8, 122, 140, 0), (8, 123, 66, 0), (8, 126, 141, 0), (8, 127, 67, 0), (8, 131, 142, 0), (8, 132, 68, 0)]
theorem metOK_6 : ∀ e ∈ metT_6, MOK e := List.forall_mem_cons.mpr ⟨mo_144, List.forall_mem_cons.mpr ⟨mo_145, List.forall_mem_cons.mpr ⟨mo_146, List.forall_mem_cons.mpr ⟨mo_147, List.forall_mem_cons.mpr ⟨mo_148, List.forall_mem_cons.mpr ⟨mo_149, List.forall_mem_cons.mpr ⟨mo_150, List.forall_mem_cons.mpr ⟨mo_151, List.forall_mem_cons.mpr ⟨mo_152, List.forall_mem_cons.mpr ⟨mo_153, List.forall_mem_cons.mpr ⟨mo_154, List.forall_mem_cons.mpr ⟨mo_155, List.forall_mem_cons.mpr ⟨mo_156, List.forall_mem_cons.mpr ⟨mo_157, List.forall_mem_cons.mpr ⟨mo_158, List.forall_mem_cons.mpr ⟨mo_159, List.forall_mem_cons.mpr ⟨mo_160, List.forall_mem_cons.mpr ⟨mo_161, List.forall_mem_cons.mpr ⟨mo_162, List.forall_mem_cons.mpr ⟨mo_163, List.forall_mem_cons.mpr ⟨mo_164, List.forall_mem_cons.mpr ⟨mo_165, List.forall_mem_cons.mpr ⟨mo_166, List.forall_mem_cons.mpr ⟨mo_167, fun _ h => absurd h List.not_mem_nil⟩⟩⟩⟩⟩⟩⟩⟩⟩⟩⟩⟩⟩⟩⟩⟩⟩⟩⟩⟩⟩⟩⟩⟩
def metT_7 : List (Nat × Nat × Nat × Nat) := [(8, 136, 143, 0)]
theorem metOK_7 : ∀ e ∈ metT_7, MOK e := List.forall_mem_cons.mpr ⟨mo_168, fun _ h => absurd h List.not_mem_nil⟩
theorem metT_eq : metT = metT_0 ++ metT_1 ++ metT_2 ++ metT_3 ++ metT_4 ++ metT_5 ++ metT_6 ++ metT_7 := by decide +kernel
theorem metOK : ∀ e ∈ metT, MOK e := by
  rw [metT_eq]
  intro e he
  simp only [List.mem_append] at he
  rcases he with (((((((he | he) | he) | he) | he) | he) | he) | he)
  · exact metOK_0 e he
  · exact metOK_1 e he
  · exact metOK_2 e he
  · exact metOK_3 e he
  · exact metOK_4 e he
  · exact metOK_5 e he
  · exact metOK_6 e he
  · exact metOK_7 e he
theorem co_0_k : COK 0 := ⟨List.mem_of_getElem? (i := 369) (by decide +kernel), by decide +kernel, by decide +kernel, by decide +kernel⟩
theorem co_1_k : COK 1 := ⟨List.mem_of_getElem? (i := 410) (by decide +kernel), by decide +kernel, by decide +kernel, by decide +kernel⟩
theorem co_2_k : COK 2 := ⟨List.mem_of_getElem? (i := 388) (by decide +kernel), by decide +kernel, by decide +kernel, by decide +kernel⟩
theorem co_3_k : COK 3 := ⟨List.mem_of_getElem? (i := 394) (by decide +kernel), by decide +kernel, by decide +kernel, by decide +kernel⟩
theorem co_4_k : COK 4 := ⟨List.mem_of_getElem? (i := 401) (by decide +kernel), by decide +kernel, by decide +kernel, by decide +kernel⟩
theorem co_5_k : COK 5 := ⟨List.mem_of_getElem? (i := 405) (by decide +kernel), by decide +kernel, by decide +kernel, by decide +kernel⟩
theorem co_6_k : COK 6 := ⟨List.mem_of_getElem? (i := 414) (by decide +kernel), by decide +kernel, by decide +kernel, by decide +kernel⟩
theorem co_7_k : COK 7 := ⟨List.mem_of_getElem? (i := 418) (by decide +kernel), by decide +kernel, by decide +kernel, by decide +kernel⟩
theorem co_8_k : COK 8 := ⟨List.mem_of_getElem? (i := 444) (by decide +kernel), by decide +kernel, by decide +kernel, by decide +kernel⟩
theorem co_9_k : COK 9 := ⟨List.mem_of_getElem? (i := 502) (by decide +kernel), by decide +kernel, by decide +kernel, by decide +kernel⟩
theorem co_10_k : COK 10 := ⟨List.mem_of_getElem? (i := 494) (by decide +kernel), by decide +kernel, by decide +kernel, by decide +kernel⟩
theorem co_11_k : COK 11 := ⟨List.mem_of_getElem? (i := 485) (by decide +kernel), by decide +kernel, by decide +kernel, by decide +kernel⟩
theorem co_12_k : COK 12 := ⟨List.mem_of_getElem? (i := 561) (by decide +kernel), by decide +kernel, by decide +kernel, by decide +kernel⟩
theorem co_13_k : COK 13 := ⟨List.mem_of_getElem? (i := 548) (by decide +kernel), by decide +kernel, by decide +kernel, by decide +kernel⟩
theorem co_14_k : COK 14 := ⟨List.mem_of_getElem? (i := 300) (by decide +kernel), by decide +kernel, by decide +kernel, by decide +kernel⟩
theorem co_15_k : COK 15 := ⟨List.mem_of_getElem? (i := 320) (by decide +kernel), by decide +kernel, by decide +kernel, by decide +kernel⟩
theorem co_16_k : COK 16 := ⟨List.mem_of_getElem? (i := 324) (by decide +kernel), by decide +kernel, by decide +kernel, by decide +kernel⟩
theorem co_17_k : COK 17 := ⟨List.mem_of_getElem? (i := 350) (by decide +kernel), by decide +kernel, by decide +kernel, by decide +kernel⟩
theorem co_18_k : COK 18 := ⟨List.mem_of_getElem? (i := 335) (by decide +kernel), by decide +kernel, by decide +kernel, by decide +kernel⟩
theorem co_19_k : COK 19 := ⟨List.mem_of_getElem? (i := 357) (by decide +kernel), by decide +kernel, by decide +kernel, by decide +kernel⟩
theorem co_20_k : COK 20 := ⟨List.mem_of_getElem? (i := 328) (by decide +kernel), by decide +kernel, by decide +kernel, by decide +kernel⟩
theorem co_21_k : COK 21 := ⟨List.mem_of_getElem? (i := 331) (by decide +kernel), by decide +kernel, by decide +kernel, by decide +kernel⟩
theorem co_22_k : COK 22 := ⟨List.mem_of_getElem? (i := 342) (by decide +kernel), by decide +kernel, by decide +kernel, by decide +kernel⟩
theorem co_23_k : COK 23 := ⟨List.mem_of_getElem? (i := 354) (by decide +kernel), by decide +kernel, by decide +kernel, by decide +kernel⟩
theorem co_24_k : COK 24 := ⟨List.mem_of_getElem? (i := 339) (by decide +kernel), by decide +kernel, by decide +kernel, by decide +kernel⟩
theorem co_25_k : COK 25 := ⟨List.mem_of_getElem? (i := 229) (by decide +kernel), by decide +kernel, by decide +kernel, by decide +kernel⟩
theorem co_26_k : COK 26 := ⟨List.mem_of_getElem? (i := 225) (by decide +kernel), by decide +kernel, by decide +kernel, by decide +kernel⟩
theorem co_27_k : COK 27 := ⟨List.mem_of_getElem? (i := 277) (by decide +kernel), by decide +kernel, by decide +kernel, by decide +kernel⟩
theorem co_28_k : COK 28 := ⟨List.mem_of_getElem? (i := 217) (by decide +kernel), by decide +kernel, by decide +kernel, by decide +kernel⟩
theorem co_29_k : COK 29 := ⟨List.mem_of_getElem? (i := 236) (by decide +kernel), by decide +kernel, by decide +kernel, by decide +kernel⟩
theorem co_30_k : COK 30 := ⟨List.mem_of_getElem? (i := 240) (by decide +kernel), by decide +kernel, by decide +kernel, by decide +kernel⟩
theorem co_31_k : COK 31 := ⟨List.mem_of_getElem? (i := 462) (by decide +kernel), by decide +kernel, by decide +kernel, by decide +kernel⟩
theorem co_32_k : COK 32 := ⟨List.mem_of_getElem? (i := 316) (by decide +kernel), by decide +kernel, by decide +kernel, by decide +kernel⟩
theorem co_33_k : COK 33 := ⟨List.mem_of_getElem? (i := 264) (by decide +kernel), by decide +kernel, by decide +kernel, by decide +kernel⟩
theorem co_34_k : COK 34 := ⟨List.mem_of_getElem? (i := 376) (by decide +kernel), by decide +kernel, by decide +kernel, by decide +kernel⟩
theorem co_35_k : COK 35 := ⟨List.mem_of_getElem? (i := 273) (by decide +kernel), by decide +kernel, by decide +kernel, by decide +kernel⟩
theorem co_36_k : COK 36 := ⟨List.mem_of_getElem? (i := 269) (by decide +kernel), by decide +kernel, by decide +kernel, by decide +kernel⟩
theorem co_37_k : COK 37 := ⟨List.mem_of_getElem? (i := 284) (by decide +kernel), by decide +kernel, by decide +kernel, by decide +kernel⟩
theorem co_38_k : COK 38 := ⟨List.mem_of_getElem? (i := 471) (by decide +kernel), by decide +kernel, by decide +kernel, by decide +kernel⟩
theorem co_39_k : COK 39 := ⟨List.mem_of_getElem? (i := 475) (by decide +kernel), by decide +kernel, by decide +kernel, by decide +kernel⟩
theorem co_40_k : COK 40 := ⟨List.mem_of_getElem? (i := 309) (by decide +kernel), by decide +kernel, by decide +kernel, by decide +kernel⟩
theorem co_41_k : COK 41 := ⟨List.mem_of_getElem? (i := 210) (by decide +kernel), by decide +kernel, by decide +kernel, by decide +kernel⟩
theorem co_42_k : COK 42 := ⟨List.mem_of_getElem? (i := 221) (by decide +kernel), by decide +kernel, by decide +kernel, by decide +kernel⟩
theorem co_43_k : COK 43 := ⟨List.mem_of_getElem? (i := 244) (by decide +kernel), by decide +kernel, by decide +kernel, by decide +kernel⟩
theorem co_44_k : COK 44 := ⟨List.mem_of_getElem? (i := 249) (by decide +kernel), by decide +kernel, by decide +kernel, by decide +kernel⟩
theorem co_45_k : COK 45 := ⟨List.mem_of_getElem? (i := 256) (by decide +kernel), by decide +kernel, by decide +kernel, by decide +kernel⟩
theorem co_46_k : COK 46 := ⟨List.mem_of_getElem? (i := 260) (by decide +kernel), by decide +kernel, by decide +kernel, by decide +kernel⟩
theorem co_47_k : COK 47 := ⟨List.mem_of_getElem? (i := 289) (by decide +kernel), by decide +kernel, by decide +kernel, by decide +kernel⟩
theorem co_48_k : COK 48 := ⟨List.mem_of_getElem? (i := 305) (by decide +kernel), by decide +kernel, by decide +kernel, by decide +kernel⟩
theorem co_49_k : COK 49 := ⟨List.mem_of_getElem? (i := 365) (by decide +kernel), by decide +kernel, by decide +kernel, by decide +kernel⟩
theorem co_50_k : COK 50 := ⟨List.mem_of_getElem? (i := 380) (by decide +kernel), by decide +kernel, by decide +kernel, by decide +kernel⟩
theorem co_51_k : COK 51 := ⟨List.mem_of_getElem? (i := 433) (by decide +kernel), by decide +kernel, by decide +kernel, by decide +kernel⟩
theorem co_52_k : COK 52 := ⟨List.mem_of_getElem? (i := 440) (by decide +kernel), by decide +kernel, by decide +kernel, by decide +kernel⟩
theorem co_53_k : COK 53 := ⟨List.mem_of_getElem? (i := 448) (by decide +kernel), by decide +kernel, by decide +kernel, by decide +kernel⟩
theorem co_54_k : COK 54 := ⟨List.mem_of_getElem? (i := 458) (by decide +kernel), by decide +kernel, by decide +kernel, by decide +kernel⟩
theorem co_55_k : COK 55 := ⟨List.mem_of_getElem? (i := 467) (by decide +kernel), by decide +kernel, by decide +kernel, by decide +kernel⟩
theorem co_56_k : COK 56 := ⟨List.mem_of_getElem? (i := 481) (by decide +kernel), by decide +kernel, by decide +kernel, by decide +kernel⟩
theorem co_57_k : COK 57 := ⟨List.mem_of_getElem? (i := 490) (by decide +kernel), by decide +kernel, by decide +kernel, by decide +kernel⟩
theorem co_58_k : COK 58 := ⟨List.mem_of_getElem? (i := 498) (by decide +kernel), by decide +kernel, by decide +kernel, by decide +kernel⟩
theorem co_59_k : COK 59 := ⟨List.mem_of_getElem? (i := 506) (by decide +kernel), by decide +kernel, by decide +kernel, by decide +kernel⟩
theorem co_60_k : COK 60 := ⟨List.mem_of_getElem? (i := 518) (by decide +kernel), by decide +kernel, by decide +kernel, by decide +kernel⟩
theorem co_61_k : COK 61 := ⟨List.mem_of_getElem? (i := 526) (by decide +kernel), by decide +kernel, by decide +kernel, by decide +kernel⟩
theorem co_62_k : COK 62 := ⟨List.mem_of_getElem? (i := 530) (by decide +kernel), by decide +kernel, by decide +kernel, by decide +kernel⟩
theorem co_63_k : COK 63 := ⟨List.mem_of_getElem? (i := 534) (by decide +kernel), by decide +kernel, by decide +kernel, by decide +kernel⟩
theorem co_64_k : COK 64 := ⟨List.mem_of_getElem? (i := 553) (by decide +kernel), by decide +kernel, by decide +kernel, by decide +kernel⟩
theorem co_65_k : COK 65 := ⟨List.mem_of_getElem? (i := 557) (by decide +kernel), by decide +kernel, by decide +kernel, by decide +kernel⟩
theorem co_66_k : COK 66 := ⟨List.mem_of_getElem? (i := 565) (by decide +kernel), by decide +kernel, by decide +kernel, by decide +kernel⟩
theorem co_67_k : COK 67 := ⟨List.mem_of_getElem? (i := 569) (by decide +kernel), by decide +kernel, by decide +kernel, by decide +kernel⟩
theorem co_68_k : COK 68 := ⟨List.mem_of_getElem? (i := 576) (by decide +kernel), by decide +kernel, by decide +kernel, by decide +kernel⟩
theorem co_69_k : COK 69 := ⟨List.mem_of_getElem? (i := 213) (by decide +kernel), by decide +kernel, by decide +kernel, by decide +kernel⟩
theorem co_70_k : COK 70 := ⟨List.mem_of_getElem? (i := 232) (by decide +kernel), by decide +kernel, by decide +kernel, by decide +kernel⟩
theorem co_71_k : COK 71 := ⟨List.mem_of_getElem? (i := 252) (by decide +kernel), by decide +kernel, by decide +kernel, by decide +kernel⟩
theorem co_72_k : COK 72 := ⟨List.mem_of_getElem? (i := 383) (by decide +kernel), by decide +kernel, by decide +kernel, by decide +kernel⟩
theorem co_73_k : COK 73 := ⟨List.mem_of_getElem? (i := 541) (by decide +kernel), by decide +kernel, by decide +kernel, by decide +kernel⟩
theorem co_74_k : COK 74 := ⟨List.mem_of_getElem? (i := 544) (by decide +kernel), by decide +kernel, by decide +kernel, by decide +kernel⟩
theorem co_75_k : COK 75 := ⟨List.mem_of_getElem? (i := 280) (by decide +kernel), by decide +kernel, by decide +kernel, by decide +kernel⟩
theorem co_76_k : COK 76 := ⟨List.mem_of_getElem? (i := 292) (by decide +kernel), by decide +kernel, by decide +kernel, by decide +kernel⟩
theorem co_77_k : COK 77 := ⟨List.mem_of_getElem? (i := 295) (by decide +kernel), by decide +kernel, by decide +kernel, by decide +kernel⟩
theorem co_78_k : COK 78 := ⟨List.mem_of_getElem? (i := 572) (by decide +kernel), by decide +kernel, by decide +kernel, by decide +kernel⟩
theorem co_79_k : COK 79 := ⟨List.mem_of_getElem? (i := 423) (by decide +kernel), by decide +kernel, by decide +kernel, by decide +kernel⟩
theorem co_80_k : COK 80 := ⟨List.mem_of_getElem? (i := 429) (by decide +kernel), by decide +kernel, by decide +kernel, by decide +kernel⟩
theorem co_81_k : COK 81 := ⟨List.mem_of_getElem? (i := 453) (by decide +kernel), by decide +kernel, by decide +kernel, by decide +kernel⟩
theorem co_82_k : COK 82 := ⟨List.mem_of_getElem? (i := 510) (by decide +kernel), by decide +kernel, by decide +kernel, by decide +kernel⟩
theorem co_83_k : COK 83 := ⟨List.mem_of_getElem? (i := 514) (by decide +kernel), by decide +kernel, by decide +kernel, by decide +kernel⟩
theorem co_84_k : COK 84 := ⟨List.mem_of_getElem? (i := 522) (by decide +kernel), by decide +kernel, by decide +kernel, by decide +kernel⟩
theorem co_85_k : COK 85 := ⟨List.mem_of_getElem? (i := 538) (by decide +kernel), by decide +kernel, by decide +kernel, by decide +kernel⟩
theorem co_86_k : COK 86 := ⟨List.mem_of_getElem? (i := 688) (by decide +kernel), by decide +kernel, by decide +kernel, by decide +kernel⟩
theorem co_87_k : COK 87 := ⟨List.mem_of_getElem? (i := 705) (by decide +kernel), by decide +kernel, by decide +kernel, by decide +kernel⟩
theorem co_88_k : COK 88 := ⟨List.mem_of_getElem? (i := 701) (by decide +kernel), by decide +kernel, by decide +kernel, by decide +kernel⟩
theorem co_89_k : COK 89 := ⟨List.mem_of_getElem? (i := 693) (by decide +kernel), by decide +kernel, by decide +kernel, by decide +kernel⟩
theorem co_90_k : COK 90 := ⟨List.mem_of_getElem? (i := 684) (by decide +kernel), by decide +kernel, by decide +kernel, by decide +kernel⟩
theorem co_91_k : COK 91 := ⟨List.mem_of_getElem? (i := 710) (by decide +kernel), by decide +kernel, by decide +kernel, by decide +kernel⟩
theorem co_92_k : COK 92 := ⟨List.mem_of_getElem? (i := 697) (by decide +kernel), by decide +kernel, by decide +kernel, by decide +kernel⟩
theorem co_93_k : COK 93 := ⟨List.mem_of_getElem? (i := 714) (by decide +kernel), by decide +kernel, by decide +kernel, by decide +kernel⟩
theorem co_94_k : COK 94 := ⟨List.mem_of_getElem? (i := 718) (by decide +kernel), by decide +kernel, by decide +kernel, by decide +kernel⟩
theorem co_95_k : COK 95 := ⟨List.mem_of_getElem? (i := 722) (by decide +kernel), by decide +kernel, by decide +kernel, by decide +kernel⟩
theorem co_96_k : COK 96 := ⟨List.mem_of_getElem? (i := 731) (by decide +kernel), by decide +kernel, by decide +kernel, by decide +kernel⟩
theorem co_97_k : COK 97 := ⟨List.mem_of_getElem? (i := 739) (by decide +kernel), by decide +kernel, by decide +kernel, by decide +kernel⟩
theorem co_98_k : COK 98 := ⟨List.mem_of_getElem? (i := 735) (by decide +kernel), by decide +kernel, by decide +kernel, by decide +kernel⟩
theorem co_99_k : COK 99 := ⟨List.mem_of_getElem? (i := 726) (by decide +kernel), by decide +kernel, by decide +kernel, by decide +kernel⟩
theorem co_100_k : COK 100 := ⟨List.mem_of_getElem? (i := 743) (by decide +kernel), by decide +kernel, by decide +kernel, by decide +kernel⟩
theorem co_101_k : COK 101 := ⟨List.mem_of_getElem? (i := 746) (by decide +kernel), by decide +kernel, by decide +kernel, by decide +kernel⟩
theorem co_102_k : COK 102 := ⟨List.mem_of_getElem? (i := 750) (by decide +kernel), by decide +kernel, by decide +kernel, by decide +kernel⟩
theorem co_103_k : COK 103 := ⟨List.mem_of_getElem? (i := 766) (by decide +kernel), by decide +kernel, by decide +kernel, by decide +kernel⟩
theorem co_104_k : COK 104 := ⟨List.mem_of_getElem? (i := 779) (by decide +kernel), by decide +kernel, by decide +kernel, by decide +kernel⟩
theorem co_105_k : COK 105 := ⟨List.mem_of_getElem? (i := 787) (by decide +kernel), by decide +kernel, by decide +kernel, by decide +kernel⟩
theorem co_106_k : COK 106 := ⟨List.mem_of_getElem? (i := 773) (by decide +kernel), by decide +kernel, by decide +kernel, by decide +kernel⟩
theorem co_107_k : COK 107 := ⟨List.mem_of_getElem? (i := 769) (by decide +kernel), by decide +kernel, by decide +kernel, by decide +kernel⟩
theorem co_108_k : COK 108 := ⟨List.mem_of_getElem? (i := 762) (by decide +kernel), by decide +kernel, by decide +kernel, by decide +kernel⟩
theorem co_109_k : COK 109 := ⟨List.mem_of_getElem? (i := 783) (by decide +kernel), by decide +kernel, by decide +kernel, by decide +kernel⟩
theorem co_110_k : COK 110 := ⟨List.mem_of_getElem? (i := 758) (by decide +kernel), by decide +kernel, by decide +kernel, by decide +kernel⟩
theorem co_111_k : COK 111 := ⟨List.mem_of_getElem? (i := 796) (by decide +kernel), by decide +kernel, by decide +kernel, by decide +kernel⟩
theorem co_112_k : COK 112 := ⟨List.mem_of_getElem? (i := 800) (by decide +kernel), by decide +kernel, by decide +kernel, by decide +kernel⟩
theorem co_113_k : COK 113 := ⟨List.mem_of_getElem? (i := 807) (by decide +kernel), by decide +kernel, by decide +kernel, by decide +kernel⟩
theorem co_114_k : COK 114 := ⟨List.mem_of_getElem? (i := 804) (by decide +kernel), by decide +kernel, by decide +kernel, by decide +kernel⟩
theorem co_115_k : COK 115 := ⟨List.mem_of_getElem? (i := 791) (by decide +kernel), by decide +kernel, by decide +kernel, by decide +kernel⟩
theorem co_116_k : COK 116 := ⟨List.mem_of_getElem? (i := 812) (by decide +kernel), by decide +kernel, by decide +kernel, by decide +kernel⟩
theorem co_117_k : COK 117 := ⟨List.mem_of_getElem? (i := 817) (by decide +kernel), by decide +kernel, by decide +kernel, by decide +kernel⟩
theorem co_118_k : COK 118 := ⟨List.mem_of_getElem? (i := 830) (by decide +kernel), by decide +kernel, by decide +kernel, by decide +kernel⟩
theorem co_119_k : COK 119 := ⟨List.mem_of_getElem? (i := 826) (by decide +kernel), by decide +kernel, by decide +kernel, by decide +kernel⟩
theorem co_120_k : COK 120 := ⟨List.mem_of_getElem? (i := 821) (by decide +kernel), by decide +kernel, by decide +kernel, by decide +kernel⟩
theorem co_121_k : COK 121 := ⟨List.mem_of_getElem? (i := 835) (by decide +kernel), by decide +kernel, by decide +kernel, by decide +kernel⟩
theorem co_122_k : COK 122 := ⟨List.mem_of_getElem? (i := 843) (by decide +kernel), by decide +kernel, by decide +kernel, by decide +kernel⟩
theorem co_123_k : COK 123 := ⟨List.mem_of_getElem? (i := 839) (by decide +kernel), by decide +kernel, by decide +kernel, by decide +kernel⟩
theorem co_124_k : COK 124 := ⟨List.mem_of_getElem? (i := 847) (by decide +kernel), by decide +kernel, by decide +kernel, by decide +kernel⟩
theorem co_125_k : COK 125 := ⟨List.mem_of_getElem? (i := 855) (by decide +kernel), by decide +kernel, by decide +kernel, by decide +kernel⟩
theorem co_126_k : COK 126 := ⟨List.mem_of_getElem? (i := 851) (by decide +kernel), by decide +kernel, by decide +kernel, by decide +kernel⟩
theorem co_127_k : COK 127 := ⟨List.mem_of_getElem? (i := 859) (by decide +kernel), by decide +kernel, by decide +kernel, by decide +kernel⟩
theorem co_128_k : COK 128 := ⟨List.mem_of_getElem? (i := 863) (by decide +kernel), by decide +kernel, by decide +kernel, by decide +kernel⟩
theorem co_129_k : COK 129 := ⟨List.mem_of_getElem? (i := 867) (by decide +kernel), by decide +kernel, by decide +kernel, by decide +kernel⟩
theorem co_130_k : COK 130 := ⟨List.mem_of_getElem? (i := 875) (by decide +kernel), by decide +kernel, by decide +kernel, by decide +kernel⟩
theorem co_131_k : COK 131 := ⟨List.mem_of_getElem? (i := 883) (by decide +kernel), by decide +kernel, by decide +kernel, by decide +kernel⟩
theorem co_132_k : COK 132 := ⟨List.mem_of_getElem? (i := 871) (by decide +kernel), by decide +kernel, by decide +kernel, by decide +kernel⟩
theorem co_133_k : COK 133 := ⟨List.mem_of_getElem? (i := 879) (by decide +kernel), by decide +kernel, by decide +kernel, by decide +kernel⟩
theorem co_134_k : COK 134 := ⟨List.mem_of_getElem? (i := 890) (by decide +kernel), by decide +kernel, by decide +kernel, by decide +kernel⟩
theorem co_135_k : COK 135 := ⟨List.mem_of_getElem? (i := 893) (by decide +kernel), by decide +kernel, by decide +kernel, by decide +kernel⟩
theorem co_136_k : COK 136 := ⟨List.mem_of_getElem? (i := 897) (by decide +kernel), by decide +kernel, by decide +kernel, by decide +kernel⟩
theorem co_137_k : COK 137 := ⟨List.mem_of_getElem? (i := 887) (by decide +kernel), by decide +kernel, by decide +kernel, by decide +kernel⟩
theorem co_138_k : COK 138 := ⟨List.mem_of_getElem? (i := 905) (by decide +kernel), by decide +kernel, by decide +kernel, by decide +kernel⟩
theorem co_139_k : COK 139 := ⟨List.mem_of_getElem? (i := 901) (by decide +kernel), by decide +kernel, by decide +kernel, by decide +kernel⟩
theorem co_140_k : COK 140 := ⟨List.mem_of_getElem? (i := 909) (by decide +kernel), by decide +kernel, by decide +kernel, by decide +kernel⟩
theorem co_141_k : COK 141 := ⟨List.mem_of_getElem? (i := 913) (by decide +kernel), by decide +kernel, by decide +kernel, by decide +kernel⟩
theorem co_142_k : COK 142 := ⟨List.mem_of_getElem? (i := 917) (by decide +kernel), by decide +kernel, by decide +kernel, by decide +kernel⟩
theorem co_143_k : COK 143 := ⟨List.mem_of_getElem? (i := 921) (by decide +kernel), by decide +kernel, by decide +kernel, by decide +kernel⟩
theorem codOK : ∀ k, k < 144 → COK k := by
  intro k hk
  match k, hk with
  | 0, _ => exact co_0_k
  | 1, _ => exact co_1_k
  | 2, _ => exact co_2_k
  | 3, _ => exact co_3_k
  | 4, _ => exact co_4_k
  | 5, _ => exact co_5_k
  | 6, _ => exact co_6_k
  | 7, _ => exact co_7_k
  | 8, _ => exact co_8_k
  | 9, _ => exact co_9_k
  | 10, _ => exact co_10_k
  | 11, _ => exact co_11_k
  | 12, _ => exact co_12_k
  | 13, _ => exact co_13_k
  | 14, _ => exact co_14_k
  | 15, _ => exact co_15_k
  | 16, _ => exact co_16_k
  | 17, _ => exact co_17_k
  | 18, _ => exact co_18_k
  | 19, _ => exact co_19_k
  | 20, _ => exact co_20_k
  | 21, _ => exact co_21_k
  | 22, _ => exact co_22_k
  | 23, _ => exact co_23_k
  | 24, _ => exact co_24_k
  | 25, _ => exact co_25_k
  | 26, _ => exact co_26_k
  | 27, _ => exact co_27_k
  | 28, _ => exact co_28_k
  | 29, _ => exact co_29_k
  | 30, _ => exact co_30_k
  | 31, _ => exact co_31_k
  | 32, _ => exact co_32_k
  | 33, _ => exact co_33_k
  | 34, _ => exact co_34_k
  | 35, _ => exact co_35_k
  | 36, _ => exact co_36_k
  | 37, _ => exact co_37_k
  | 38, _ => exact co_38_k
  | 39, _ => exact co_39_k
  | 40, _ => exact co_40_k
  | 41, _ => exact co_41_k
  | 42, _ => exact co_42_k
  | 43, _ => exact co_43_k
  | 44, _ => exact co_44_k
  | 45, _ => exact co_45_k
  | 46, _ => exact co_46_k
  | 47, _ => exact co_47_k
  | 48, _ => exact co_48_k
  | 49, _ => exact co_49_k
  | 50, _ => exact co_50_k
  | 51, _ => exact co_51_k
  | 52, _ => exact co_52_k
  | 53, _ => exact co_53_k
  | 54, _ => exact co_54_k
  | 55, _ => exact co_55_k
  | 56, _ => exact co_56_k
  | 57, _ => exact co_57_k
  | 58, _ => exact co_58_k
  | 59, _ => exact co_59_k
  | 60, _ => exact co_60_k
  | 61, _ => exact co_61_k
  | 62, _ => exact co_62_k
  | 63, _ => exact co_63_k
  | 64, _ => exact co_64_k
  | 65, _ => exact co_65_k
  | 66, _ => exact co_66_k
  | 67, _ => exact co_67_k
  | 68, _ => exact co_68_k
  | 69, _ => exact co_69_k
  | 70, _ => exact co_70_k
  | 71, _ => exact co_71_k
  | 72, _ => exact co_72_k
  | 73, _ => exact co_73_k
  | 74, _ => exact co_74_k
  | 75, _ => exact co_75_k
  | 76, _ => exact co_76_k
  | 77, _ => exact co_77_k
  | 78, _ => exact co_78_k
  | 79, _ => exact co_79_k
  | 80, _ => exact co_80_k
  | 81, _ => exact co_81_k
  | 82, _ => exact co_82_k
  | 83, _ => exact co_83_k
  | 84, _ => exact co_84_k
  | 85, _ => exact co_85_k
  | 86, _ => exact co_86_k
  | 87, _ => exact co_87_k
  | 88, _ => exact co_88_k
  | 89, _ => exact co_89_k
  | 90, _ => exact co_90_k
  | 91, _ => exact co_91_k
  | 92, _ => exact co_92_k
  | 93, _ => exact co_93_k
  | 94, _ => exact co_94_k
  | 95, _ => exact co_95_k
  | 96, _ => exact co_96_k
  | 97, _ => exact co_97_k
  | 98, _ => exact co_98_k
  | 99, _ => exact co_99_k
  | 100, _ => exact co_100_k
  | 101, _ => exact co_101_k
  | 102, _ => exact co_102_k
  | 103, _ => exact co_103_k
  | 104, _ => exact co_104_k
  | 105, _ => exact co_105_k
  | 106, _ => exact co_106_k
  | 107, _ => exact co_107_k
  | 108, _ => exact co_108_k
  | 109, _ => exact co_109_k
  | 110, _ => exact co_110_k
  | 111, _ => exact co_111_k
  | 112, _ => exact co_112_k
  | 113, _ => exact co_113_k
  | 114, _ => exact co_114_k
  | 115, _ => exact co_115_k
  | 116, _ => exact co_116_k
  | 117, _ => exact co_117_k
  | 118, _ => exact co_118_k
  | 119, _ => exact co_119_k
  | 120, _ => exact co_120_k
  | 121, _ => exact co_121_k
  | 122, _ => exact co_122_k
  | 123, _ => exact co_123_k
  | 124, _ => exact co_124_k
  | 125, _ => exact co_125_k
  | 126, _ => exact co_126_k
  | 127, _ => exact co_127_k
  | 128, _ => exact co_128_k
  | 129, _ => exact co_129_k
  | 130, _ => exact co_130_k
  | 131, _ => exact co_131_k
  | 132, _ => exact co_132_k
  | 133, _ => exact co_133_k
  | 134, _ => exact co_134_k
  | 135, _ => exact co_135_k
  | 136, _ => exact co_136_k
  | 137, _ => exact co_137_k
  | 138, _ => exact co_138_k
  | 139, _ => exact co_139_k
  | 140, _ => exact co_140_k
  | 141, _ => exact co_141_k
  | 142, _ => exact co_142_k
  | 143, _ => exact co_143_k
  | n + 144, hk => exact absurd hk (by omega)
theorem ko_0 : KOK (4, 148, .long (-1)) := List.mem_of_getElem? (i := 384) (by decide +kernel)
theorem ko_1 : KOK (4, 156, .long (-4)) := List.mem_of_getElem? (i := 420) (by decide +kernel)
theorem ko_2 : KOK (4, 172, .long (-2)) := List.mem_of_getElem? (i := 435) (by decide +kernel)
theorem ko_3 : KOK (4, 182, .long (-1000000000000000001)) := List.mem_of_getElem? (i := 449) (by decide +kernel)
theorem ko_4 : KOK (4, 227, .long 99) := List.mem_of_getElem? (i := 549) (by decide +kernel)
theorem ko_5 : KOK (4, 262, .long 255) := List.mem_of_getElem? (i := 296) (by decide +kernel)
theorem ko_6 : KOK (4, 274, .long (-1000000000000000004)) := List.mem_of_getElem? (i := 454) (by decide +kernel)
theorem ko_7 : KOK (5, 89, .long 3) := List.mem_of_getElem? (i := 685) (by decide +kernel)
theorem ko_8 : KOK (5, 91, .long 99) := List.mem_of_getElem? (i := 689) (by decide +kernel)
theorem ko_9 : KOK (5, 101, .long 2) := List.mem_of_getElem? (i := 706) (by decide +kernel)
theorem ko_10 : KOK (5, 113, .long 5) := List.mem_of_getElem? (i := 727) (by decide +kernel)
theorem ko_11 : KOK (5, 129, .long 8) := List.mem_of_getElem? (i := 751) (by decide +kernel)
theorem ko_12 : KOK (5, 131, .long 255) := List.mem_of_getElem? (i := 752) (by decide +kernel)
theorem ko_13 : KOK (5, 133, .long 32) := List.mem_of_getElem? (i := 753) (by decide +kernel)
theorem ko_14 : KOK (5, 135, .long 126) := List.mem_of_getElem? (i := 754) (by decide +kernel)
theorem ko_15 : KOK (5, 150, .long 48) := List.mem_of_getElem? (i := 774) (by decide +kernel)
theorem ko_16 : KOK (5, 152, .long 57) := List.mem_of_getElem? (i := 775) (by decide +kernel)
theorem ko_17 : KOK (5, 188, .long (-1)) := List.mem_of_getElem? (i := 792) (by decide +kernel)
theorem ko_18 : KOK (5, 200, .long (-4)) := List.mem_of_getElem? (i := 808) (by decide +kernel)
theorem ko_19 : KOK (5, 202, .long (-2)) := List.mem_of_getElem? (i := 813) (by decide +kernel)
theorem ko_20 : KOK (5, 204, .long (-1000000000000000004)) := List.mem_of_getElem? (i := 831) (by decide +kernel)
theorem ko_21 : KOK (5, 206, .long (-1000000000000000001)) := List.mem_of_getElem? (i := 822) (by decide +kernel)
theorem ko_22 : KOK (6, 265, .int 1431655765) := List.mem_of_getElem? (i := 370) (by decide +kernel)
theorem ko_23 : KOK (6, 266, .int 858993459) := List.mem_of_getElem? (i := 371) (by decide +kernel)
theorem ko_24 : KOK (6, 267, .int 252645135) := List.mem_of_getElem? (i := 372) (by decide +kernel)
theorem ko_25 : KOK (8, 40, .long 4294967295) := List.mem_of_getElem? (i := 922) (by decide +kernel)
theorem conOK : ∀ e ∈ conT, KOK e := List.forall_mem_cons.mpr ⟨ko_0, List.forall_mem_cons.mpr ⟨ko_1, List.forall_mem_cons.mpr ⟨ko_2, List.forall_mem_cons.mpr ⟨ko_3, List.forall_mem_cons.mpr ⟨ko_4, List.forall_mem_cons.mpr ⟨ko_5, List.forall_mem_cons.mpr ⟨ko_6, List.forall_mem_cons.mpr ⟨ko_7, List.forall_mem_cons.mpr ⟨ko_8, List.forall_mem_cons.mpr ⟨ko_9, List.forall_mem_cons.mpr ⟨ko_10, List.forall_mem_cons.mpr ⟨ko_11, List.forall_mem_cons.mpr ⟨ko_12, List.forall_mem_cons.mpr ⟨ko_13, List.forall_mem_cons.mpr ⟨ko_14, List.forall_mem_cons.mpr ⟨ko_15, List.forall_mem_cons.mpr ⟨ko_16, List.forall_mem_cons.mpr ⟨ko_17, List.forall_mem_cons.mpr ⟨ko_18, List.forall_mem_cons.mpr ⟨ko_19, List.forall_mem_cons.mpr ⟨ko_20, List.forall_mem_cons.mpr ⟨ko_21, List.forall_mem_cons.mpr ⟨ko_22, List.forall_mem_cons.mpr ⟨ko_23, List.forall_mem_cons.mpr ⟨ko_24, List.forall_mem_cons.mpr ⟨ko_25, fun _ h => absurd h List.not_mem_nil⟩⟩⟩⟩⟩⟩⟩⟩⟩⟩⟩⟩⟩⟩⟩⟩⟩⟩⟩⟩⟩⟩⟩⟩⟩⟩
end
section
/-! THE OWN ABSTRACT MACHINE: a step, a run, and what a run must come to (Wp), by equations. References are numbers of cells (0 .. 60); cell 61 is the law's script. -/
abbrev Lo : Type := List (Option Value)
abbrev AC : Type := (Nat × (Nat → Int32)) ⊕ (Nat × (Nat → Int64)) ⊕ (Nat × (Nat → Int32)) ⊕ (Nat × (Nat → Option Nat)) ⊕ (Nat × List Value)
abbrev AH : Type := Nat → AC
abbrev aI (n : Nat) (f : Nat → Int32) : AC := .inl (n, f)
abbrev aJ (n : Nat) (f : Nat → Int64) : AC := .inr (.inl (n, f))
abbrev aB (n : Nat) (f : Nat → Int32) : AC := .inr (.inr (.inl (n, f)))
abbrev aR (n : Nat) (f : Nat → Option Nat) : AC := .inr (.inr (.inr (.inl (n, f))))
abbrev aO (c : Nat) (fs : List Value) : AC := .inr (.inr (.inr (.inr (c, fs))))
abbrev SO : Type := (Option Nat × Lo × List Value × AH) ⊕ (Option Value) ⊕ (Nat × List Value × List Value)
abbrev SX : Type := Option (Nat × (Nat → Int32))
def uH (h : AH) (a : Nat) (c : AC) : AH := fun q => if q = a then c else h q
def nx (l : Lo) (st : List Value) (h : AH) : Option SO := some (.inl (none, l, st, h))
/-- a long that ends where another value comes is no more -/
def kl (l : Lo) : Nat → Lo
  | 0 => l
  | a + 1 => match l[a]? with
    | some (some (.long _)) => l.set a none
    | some (some (.double _)) => l.set a none
    | _ => l
def set1 (l : Lo) (a : Nat) (v : Value) : Lo := (kl l a).set a (some v)
def set2 (l : Lo) (a : Nat) (v : Value) : Lo := ((kl l a).set a (some v)).set (a + 1) none
def s1 (a b : Nat) (l : Lo) (st : List Value) (h : AH) : Option SO := match l[a]?, b with
  | some (some (.int x)), 0 => nx l (.int x :: st) h
  | some (some (.long x)), 1 => nx l (.long x :: st) h
  | some (some (.ref x)), 2 => nx l (.ref x :: st) h
  | _, _ => none
def s2 (a b : Nat) (l : Lo) (st : List Value) (h : AH) : Option SO := match st, b with
  | .int x :: st', 0 => nx (set1 l a (.int x)) st' h
  | .ref x :: st', 2 => nx (set1 l a (.ref x)) st' h
  | _, _ => none
def s3 (a : Nat) (l : Lo) (st : List Value) (h : AH) : Option SO := match st with
  | .long x :: st' => nx (set2 l a (.long x)) st' h
  | _ => none
def s4 (a : Nat) (v : Value) (l : Lo) (st : List Value) (h : AH) : Option SO := match l[a]?, v with
  | some (some (.int x)), .int d => nx (set1 l a (.int (x + d))) st h
  | _, _ => none
def s5 (b : Nat) (l : Lo) (st : List Value) (h : AH) : Option SO := match st, b with
  | .int y :: .int x :: st', 0 => nx l (.int (x + y) :: st') h
  | .int y :: .int x :: st', 1 => nx l (.int (x - y) :: st') h
  | .int y :: .int x :: st', 2 => nx l (.int (x * y) :: st') h
  | .int y :: .int x :: st', 3 => nx l (.int (x &&& y) :: st') h
  | .int y :: .int x :: st', 4 => nx l (.int (x ||| y) :: st') h
  | .int y :: .int x :: st', 5 => nx l (.int (x ^^^ y) :: st') h
  | .int y :: .int x :: st', 6 => nx l (.int (x <<< (y &&& 31)) :: st') h
  | .int y :: .int x :: st', 7 => nx l (.int (x >>> (y &&& 31)) :: st') h
  | .int y :: .int x :: st', 8 => nx l (.int ((x.toUInt32 >>> (y.toUInt32 &&& Int32.toUInt32 31)).toInt32) :: st') h
  | _, _ => none
def s6 (b : Nat) (l : Lo) (st : List Value) (h : AH) : Option SO := match st, b with
  | .int y :: .int x :: st', 0 => if y = 0 then none else nx l (.int (x / y) :: st') h
  | .int y :: .int x :: st', 1 => if y = 0 then none else nx l (.int (x - x / y * y) :: st') h
  | _, _ => none
def s7 (b : Nat) (l : Lo) (st : List Value) (h : AH) : Option SO := match st, b with
  | .long y :: .long x :: st', 0 => nx l (.long (x + y) :: st') h
  | .long y :: .long x :: st', 1 => nx l (.long (x - y) :: st') h
  | .long y :: .long x :: st', 2 => nx l (.long (x * y) :: st') h
  | .long y :: .long x :: st', 3 => nx l (.long (x &&& y) :: st') h
  | .long y :: .long x :: st', 4 => nx l (.long (x ||| y) :: st') h
  | .long y :: .long x :: st', 5 => nx l (.long (x ^^^ y) :: st') h
  | _, _ => none
def s8 (b : Nat) (l : Lo) (st : List Value) (h : AH) : Option SO := match st, b with
  | .long y :: .long x :: st', 0 => if y = 0 then none else nx l (.long (x / y) :: st') h
  | .long y :: .long x :: st', 1 => if y = 0 then none else nx l (.long (x - x / y * y) :: st') h
  | _, _ => none
def s9 (b : Nat) (l : Lo) (st : List Value) (h : AH) : Option SO := match st, b with
  | .int y :: .long x :: st', 0 => nx l (.long (x <<< (y.toInt64 &&& 63)) :: st') h
  | .int y :: .long x :: st', 1 => nx l (.long (x >>> (y.toInt64 &&& 63)) :: st') h
  | .int y :: .long x :: st', 2 => nx l (.long ((x.toUInt64 >>> (y.toInt64.toUInt64 &&& Int64.toUInt64 63)).toInt64) :: st') h
  | _, _ => none
def s10 (b : Nat) (l : Lo) (st : List Value) (h : AH) : Option SO := match st, b with
  | .int x :: st', 0 => nx l (.int (-x) :: st') h
  | .long x :: st', 1 => nx l (.long (-x) :: st') h
  | .int x :: st', 2 => nx l (.long x.toInt64 :: st') h
  | .long x :: st', 3 => nx l (.int x.toInt32 :: st') h
  | .int x :: st', 4 => nx l (.int x.toInt8.toInt32 :: st') h
  | .int x :: st', 5 => nx l (.int x.toInt16.toInt32 :: st') h
  | _, _ => none
def s11 (l : Lo) (st : List Value) (h : AH) : Option SO := match st with
  | .long y :: .long x :: st' => nx l (.int (lg_cmp x y) :: st') h
  | _ => none
def br (c : Prop) [Decidable c] (a : Nat) (l : Lo) (st : List Value) (h : AH) : Option SO := some (.inl (if c then some a else none, l, st, h))
def s12 (a b : Nat) (l : Lo) (st : List Value) (h : AH) : Option SO := match st, b with
  | .int x :: st', 0 => br (x = 0) a l st' h
  | .int x :: st', 1 => br (x ≠ 0) a l st' h
  | .int x :: st', 2 => br (x < 0) a l st' h
  | .int x :: st', 3 => br (0 ≤ x) a l st' h
  | .int x :: st', 4 => br (0 < x) a l st' h
  | .int x :: st', 5 => br (x ≤ 0) a l st' h
  | _, _ => none
def s13 (a b : Nat) (l : Lo) (st : List Value) (h : AH) : Option SO := match st, b with
  | .int y :: .int x :: st', 0 => br (x = y) a l st' h
  | .int y :: .int x :: st', 1 => br (x ≠ y) a l st' h
  | .int y :: .int x :: st', 2 => br (x < y) a l st' h
  | .int y :: .int x :: st', 3 => br (y ≤ x) a l st' h
  | .int y :: .int x :: st', 4 => br (y < x) a l st' h
  | .int y :: .int x :: st', 5 => br (x ≤ y) a l st' h
  | _, _ => none
def s15 (l : Lo) (st : List Value) (h : AH) : Option SO := match st with
  | .int x :: st' => nx l (.int x :: .int x :: st') h
  | .ref x :: st' => nx l (.ref x :: .ref x :: st') h
  | _ => none
def s16 (l : Lo) (st : List Value) (h : AH) : Option SO := match st with
  | .int _ :: st' => nx l st' h
  | _ => none
def s17 (l : Lo) (st : List Value) (h : AH) : Option SO := match st with
  | .int x :: .ref y :: st' => nx l (.int x :: .ref y :: .int x :: .ref y :: st') h
  | _ => none
/-- a field of a cell that is an object of a class -/
def gf (h : AH) (a ci k : Nat) : Option Value := match h a with
  | .inr (.inr (.inr (.inr (c, fs)))) => if c = ci then fs[k]? else none
  | _ => none
def s18 (ci k : Nat) (l : Lo) (st : List Value) (h : AH) : Option SO := match st with
  | .ref a :: st' => match gf h a ci k with
    | some v => nx l (v :: st') h
    | none => none
  | _ => none
/-- a cell with another value in a field -/
def pf (h : AH) (a ci k : Nat) (w : Value) : Option AH := match h a with
  | .inr (.inr (.inr (.inr (c, fs)))) => if c = ci ∧ k < fs.length then some (uH h a (aO ci (fs.set k w))) else none
  | _ => none
def s19 (ci k : Nat) (v : Value) (l : Lo) (st : List Value) (h : AH) : Option SO := match st, v with
  | .int x :: .ref a :: st', .int f => if f = 0 ∨ x &&& 1 = x then match pf h a ci k (.int x) with
      | some h' => nx l st' h'
      | none => none
    else none
  | .long x :: .ref a :: st', .long _ => match pf h a ci k (.long x) with
      | some h' => nx l st' h'
      | none => none
  | _, _ => none
def oob (i : Int32) (n : Nat) : Prop := i < 0 ∨ n ≤ i.toNatClampNeg
/-- an int of a row of ints (or of the script) -/
def rI (X : SX) (h : AH) (a : Nat) (i : Int32) : Option Int32 := match h a with
  | .inl (n, f) => if i < 0 ∨ n ≤ i.toNatClampNeg then none else some (f i.toNatClampNeg)
  | _ => match X with
    | some (n, f) => if a = 61 then if i < 0 ∨ n ≤ i.toNatClampNeg then none else some (f i.toNatClampNeg) else none
    | none => none
def rJ (h : AH) (a : Nat) (i : Int32) : Option Int64 := match h a with
  | .inr (.inl (n, f)) => if i < 0 ∨ n ≤ i.toNatClampNeg then none else some (f i.toNatClampNeg)
  | _ => none
def rB (h : AH) (a : Nat) (i : Int32) : Option Int32 := match h a with
  | .inr (.inr (.inl (n, f))) => if i < 0 ∨ n ≤ i.toNatClampNeg then none else some (f i.toNatClampNeg)
  | _ => none
def rR (h : AH) (a : Nat) (i : Int32) : Option Nat := match h a with
  | .inr (.inr (.inr (.inl (n, f)))) => if i < 0 ∨ n ≤ i.toNatClampNeg then none else f i.toNatClampNeg
  | _ => none
def wI (h : AH) (a : Nat) (i x : Int32) : Option AH := match h a with
  | .inl (n, f) => if i < 0 ∨ n ≤ i.toNatClampNeg then none else some (uH h a (aI n (upd f i.toNatClampNeg x)))
  | _ => none
def wJ (h : AH) (a : Nat) (i : Int32) (x : Int64) : Option AH := match h a with
  | .inr (.inl (n, f)) => if i < 0 ∨ n ≤ i.toNatClampNeg then none else some (uH h a (aJ n (vp_updL f i.toNatClampNeg x)))
  | _ => none
def wB (h : AH) (a : Nat) (i x : Int32) : Option AH := match h a with
  | .inr (.inr (.inl (n, f))) => if i < 0 ∨ n ≤ i.toNatClampNeg then none else some (uH h a (aB n (upd f i.toNatClampNeg (vp_nar .byte x))))
  | _ => none
def s20 (X : SX) (l : Lo) (st : List Value) (h : AH) : Option SO := match st with
  | .int i :: .ref a :: st' => match rI X h a i with
    | some x => nx l (.int x :: st') h
    | none => none
  | _ => none
def s21 (l : Lo) (st : List Value) (h : AH) : Option SO := match st with
  | .int i :: .ref a :: st' => match rJ h a i with
    | some x => nx l (.long x :: st') h
    | none => none
  | _ => none
def s22 (l : Lo) (st : List Value) (h : AH) : Option SO := match st with
  | .int i :: .ref a :: st' => match rB h a i with
    | some x => nx l (.int x :: st') h
    | none => none
  | _ => none
def s23 (l : Lo) (st : List Value) (h : AH) : Option SO := match st with
  | .int i :: .ref a :: st' => match rR h a i with
    | some x => nx l (.ref x :: st') h
    | none => none
  | _ => none
def s24 (l : Lo) (st : List Value) (h : AH) : Option SO := match st with
  | .int x :: .int i :: .ref a :: st' => match wI h a i x with
    | some h' => nx l st' h'
    | none => none
  | _ => none
def s25 (l : Lo) (st : List Value) (h : AH) : Option SO := match st with
  | .long x :: .int i :: .ref a :: st' => match wJ h a i x with
    | some h' => nx l st' h'
    | none => none
  | _ => none
def s26 (l : Lo) (st : List Value) (h : AH) : Option SO := match st with
  | .int x :: .int i :: .ref a :: st' => match wB h a i x with
    | some h' => nx l st' h'
    | none => none
  | _ => none
def lnA (X : SX) (h : AH) (a : Nat) : Option Nat := match h a with
  | .inl (n, _) => some n
  | _ => match X with
    | some (n, _) => if a = 61 then some n else none
    | none => none
def s27 (X : SX) (l : Lo) (st : List Value) (h : AH) : Option SO := match st with
  | .ref a :: st' => match lnA X h a with
    | some n => nx l (.int (Int32.ofNat n) :: st') h
    | none => none
  | _ => none
def s28 (k b : Nat) (l : Lo) (st : List Value) (h : AH) : Option SO := if b ≤ st.length ∧ st.length ≤ b + 4 then some (.inr (.inr (k, (st.take b).reverse, st.drop b))) else none
/-- a call of a method of an object: the object is of the class -/
def s37 (k b ci : Nat) (st : List Value) (h : AH) : Option SO := if b ≤ st.length ∧ st.length ≤ b + 4 then (match (st.take b).reverse with
  | .ref q :: as => (match h q with
    | .inr (.inr (.inr (.inr (c, _)))) => if c = ci ∧ ¬ c = 99 then some (.inr (.inr (k, .ref q :: as, st.drop b))) else none
    | _ => none)
  | _ => none) else none
/-- System.arraycopy: of ints, of longs -/
def cpA (h : AH) (a0 a : Nat) (sp dp n : Int32) : Option AH := match h a0, h a with
  | .inl (n0, f), .inl (n1, g) => if sp < 0 ∨ dp < 0 ∨ n < 0 ∨ ¬ sp.toNatClampNeg + n.toNatClampNeg ≤ n0 ∨ ¬ dp.toNatClampNeg + n.toNatClampNeg ≤ n1 then none else some (uH h a (aI n1 (va_cpy f g sp.toNatClampNeg dp.toNatClampNeg n.toNatClampNeg)))
  | .inr (.inl (n0, f)), .inr (.inl (n1, g)) => if sp < 0 ∨ dp < 0 ∨ n < 0 ∨ ¬ sp.toNatClampNeg + n.toNatClampNeg ≤ n0 ∨ ¬ dp.toNatClampNeg + n.toNatClampNeg ≤ n1 then none else some (uH h a (aJ n1 (va_cpy f g sp.toNatClampNeg dp.toNatClampNeg n.toNatClampNeg)))
  | _, _ => none
def s29 (l : Lo) (st : List Value) (h : AH) : Option SO := match st with
  | [.int n, .int dp, .ref a, .int sp, .ref a0] => match cpA h a0 a sp dp n with
    | some h' => nx l [] h'
    | none => none
  | _ => none
def s30 (b : Nat) (st : List Value) : Option SO := match st with
  | [.int x] => if b = 0 ∨ x &&& 1 = x then some (.inr (.inl (some (.int x)))) else none
  | _ => none
def s31 (st : List Value) : Option SO := match st with
  | [.long x] => some (.inr (.inl (some (.long x))))
  | _ => none
def s32 (st : List Value) : Option SO := match st with
  | [] => some (.inr (.inl none))
  | _ => none
def swT (x : Int32) (d : Nat) : List (Int32 × Nat) → Nat
  | [] => d
  | (k, t) :: ts => if x = k then t else swT x d ts
def s33 (a : Nat) (ts : List (Int32 × Nat)) (l : Lo) (st : List Value) (h : AH) : Option SO := match st with
  | .int x :: st' => some (.inl (some (swT x a ts), l, st', h))
  | _ => none
def s34 (l : Lo) (st : List Value) (h : AH) : Option SO := match st with
  | .int y :: .int x :: st' => if st'.length ≤ 4 then nx l (.int (if y < x then y else x) :: st') h else none
  | _ => none
def s35 (l : Lo) (st : List Value) (h : AH) : Option SO := match st with
  | .int y :: .int x :: st' => if st'.length ≤ 4 then nx l (.int (if x < y then y else x) :: st') h else none
  | _ => none
def s36 (l : Lo) (st : List Value) (h : AH) : Option SO := match st with
  | .long x :: st' => if st'.length ≤ 4 then nx l (.long (if 0 < x then x else -x) :: st') h else none
  | _ => none
def stp (X : SX) (e : CE) (l : Lo) (st : List Value) (h : AH) : Option SO := match e with
  | (_, _, 0, _, _, v, _) => nx l (v :: st) h
  | (_, _, 1, a, b, _, _) => s1 a b l st h
  | (_, _, 2, a, b, _, _) => s2 a b l st h
  | (_, _, 3, a, _, _, _) => s3 a l st h
  | (_, _, 4, a, _, v, _) => s4 a v l st h
  | (_, _, 5, _, b, _, _) => s5 b l st h
  | (_, _, 6, _, b, _, _) => s6 b l st h
  | (_, _, 7, _, b, _, _) => s7 b l st h
  | (_, _, 8, _, b, _, _) => s8 b l st h
  | (_, _, 9, _, b, _, _) => s9 b l st h
  | (_, _, 10, _, b, _, _) => s10 b l st h
  | (_, _, 11, _, _, _, _) => s11 l st h
  | (_, _, 12, a, b, _, _) => s12 a b l st h
  | (_, _, 13, a, b, _, _) => s13 a b l st h
  | (_, _, 14, a, _, _, _) => some (.inl (some a, l, st, h))
  | (_, _, 15, _, _, _, _) => s15 l st h
  | (_, _, 16, _, _, _, _) => s16 l st h
  | (_, _, 17, _, _, _, _) => s17 l st h
  | (_, _, 18, a, b, _, _) => s18 a b l st h
  | (_, _, 19, a, b, v, _) => s19 a b v l st h
  | (_, _, 20, _, _, _, _) => s20 X l st h
  | (_, _, 21, _, _, _, _) => s21 l st h
  | (_, _, 22, _, _, _, _) => s22 l st h
  | (_, _, 23, _, _, _, _) => s23 l st h
  | (_, _, 24, _, _, _, _) => s24 l st h
  | (_, _, 25, _, _, _, _) => s25 l st h
  | (_, _, 26, _, _, _, _) => s26 l st h
  | (_, _, 27, _, _, _, _) => s27 X l st h
  | (_, _, 28, a, b, _, _) => s28 a b l st h
  | (_, _, 29, _, _, _, _) => s29 l st h
  | (_, _, 30, _, b, _, _) => s30 b st
  | (_, _, 31, _, _, _, _) => s31 st
  | (_, _, 32, _, _, _, _) => s32 st
  | (_, _, 33, a, _, _, ts) => s33 a ts l st h
  | (_, _, 34, _, _, _, _) => s34 l st h
  | (_, _, 35, _, _, _, _) => s35 l st h
  | (_, _, 36, _, _, _, _) => s36 l st h
  | (_, _, 37, a, b, _, [(_, ci)]) => s37 a b ci st h
  | _ => none
def jmp (m : Nat) (j : Option Nat) (c : List CE) : List CE := match j with
  | none => c
  | some t => J m t
/-- the locals at a method's entry -/
def ent (k : Nat) (as : List Value) : Lo := (List.range (mxL k)).map (fun i => (lv_args 0 as).lookup i)
def run : Nat → SX → Nat → List CE → Lo → List Value → AH → Option (Option Value × AH)
  | 0, _, _, _, _, _, _ => none
  | _ + 1, _, _, [], _, _, _ => none
  | n + 1, X, m, e :: c, l, st, h => match stp X e l st h with
    | none => none
    | some (.inl (j, l', st', h')) => run n X m (jmp m j c) l' st' h'
    | some (.inr (.inl v)) => some (v, h)
    | some (.inr (.inr (k, as, st'))) => match (if (lg_sl as).length ≤ mxL k then run n none k (J k 0) (ent k as) [] h else none) with
      | none => none
      | some (v, h') => run n X m c l (v.toList ++ st') h'
theorem run_mono : ∀ (n : Nat) (X : SX) (m : Nat) (c : List CE) (l : Lo) (st : List Value) (h : AH) (r : Option Value × AH), run n X m c l st h = some r → run (n + 1) X m c l st h = some r := by
  intro n
  induction n with
  | zero => intro X m c l st h r hr; simp [run] at hr
  | succ n ih =>
    intro X m c l st h r hr
    cases c with
    | nil => simp [run] at hr
    | cons e c =>
      rw [run] at hr ⊢
      cases hs : stp X e l st h with
      | none => rw [hs] at hr; simp at hr
      | some o =>
        rw [hs] at hr
        rcases o with ⟨j, l', st', h'⟩ | v | ⟨k, as, st'⟩
        · exact ih _ _ _ _ _ _ _ hr
        · exact hr
        · dsimp only at hr ⊢
          by_cases hg : (lg_sl as).length ≤ mxL k
          · rw [if_pos hg] at hr ⊢
            cases hc : run n none k (J k 0) (ent k as) [] h with
            | none => rw [hc] at hr; simp at hr
            | some r1 =>
              rw [hc] at hr
              rw [ih _ _ _ _ _ _ _ hc]
              exact ih _ _ _ _ _ _ _ hr
          · rw [if_neg hg] at hr; simp at hr
theorem run_le {n n' : Nat} (hn : n ≤ n') {X : SX} {m : Nat} {c : List CE} {l : Lo} {st : List Value} {h : AH} {r : Option Value × AH} (hr : run n X m c l st h = some r) : run n' X m c l st h = some r := by
  induction hn with
  | refl => exact hr
  | step _ ih => exact run_mono _ _ _ _ _ _ _ _ ih
def Wp (X : SX) (m : Nat) (c : List CE) (l : Lo) (st : List Value) (h : AH) (Q : Option Value → AH → Prop) : Prop := ∃ (n : Nat) (r : Option Value × AH), run n X m c l st h = some r ∧ Q r.1 r.2
def WpM (k : Nat) (as : List Value) (h : AH) (Q : Option Value → AH → Prop) : Prop := (lg_sl as).length ≤ mxL k ∧ Wp none k (J k 0) (ent k as) [] h Q
theorem WpM_e {k : Nat} {as : List Value} {h : AH} {Q : Option Value → AH → Prop} (hg : (lg_sl as).length ≤ mxL k) : WpM k as h Q = Wp none k (J k 0) (ent k as) [] h Q := by
  unfold WpM
  exact propext ⟨fun x => x.2, fun x => ⟨hg, x⟩⟩
theorem Wp_go {X : SX} {m : Nat} {e : CE} {c : List CE} {l l' : Lo} {st st' : List Value} {h h' : AH} {j : Option Nat} {Q : Option Value → AH → Prop} (hs : stp X e l st h = some (.inl (j, l', st', h'))) : Wp X m (e :: c) l st h Q = Wp X m (jmp m j c) l' st' h' Q := by
  apply propext
  constructor
  · rintro ⟨n, r, hr, hq⟩
    cases n with
    | zero => simp [run] at hr
    | succ n => rw [run, hs] at hr; exact ⟨n, r, hr, hq⟩
  · rintro ⟨n, r, hr, hq⟩
    exact ⟨n + 1, r, by rw [run, hs]; exact hr, hq⟩
theorem Wp_ret {X : SX} {m : Nat} {e : CE} {c : List CE} {l : Lo} {st : List Value} {h : AH} {v : Option Value} {Q : Option Value → AH → Prop} (hs : stp X e l st h = some (.inr (.inl v))) : Wp X m (e :: c) l st h Q = Q v h := by
  apply propext
  constructor
  · rintro ⟨n, r, hr, hq⟩
    cases n with
    | zero => simp [run] at hr
    | succ n => rw [run, hs] at hr; cases hr; exact hq
  · intro hq
    exact ⟨1, (v, h), by rw [run, hs], hq⟩
theorem Wp_no {X : SX} {m : Nat} {e : CE} {c : List CE} {l : Lo} {st : List Value} {h : AH} {Q : Option Value → AH → Prop} (hs : stp X e l st h = none) : Wp X m (e :: c) l st h Q = False := by
  apply propext
  constructor
  · rintro ⟨n, r, hr, hq⟩
    cases n with
    | zero => simp [run] at hr
    | succ n => rw [run, hs] at hr; simp at hr
  · intro hq; exact hq.elim
theorem Wp_call {X : SX} {m : Nat} {e : CE} {c : List CE} {l : Lo} {st st' as : List Value} {k : Nat} {h : AH} {Q : Option Value → AH → Prop} (hs : stp X e l st h = some (.inr (.inr (k, as, st')))) : Wp X m (e :: c) l st h Q = WpM k as h (fun v h' => Wp X m c l (v.toList ++ st') h' Q) := by
  apply propext
  constructor
  · rintro ⟨n, r, hr, hq⟩
    cases n with
    | zero => simp [run] at hr
    | succ n =>
      rw [run, hs] at hr
      dsimp only at hr
      by_cases hg : (lg_sl as).length ≤ mxL k
      · rw [if_pos hg] at hr
        cases hc : run n none k (J k 0) (ent k as) [] h with
        | none => rw [hc] at hr; simp at hr
        | some r1 =>
          rw [hc] at hr
          exact ⟨hg, n, r1, hc, n, r, hr, hq⟩
      · rw [if_neg hg] at hr; simp at hr
  · rintro ⟨hg, n, r1, hc, n2, r, hr, hq⟩
    refine ⟨max n n2 + 1, r, ?_, hq⟩
    rw [run, hs]
    dsimp only
    rw [if_pos hg, run_le (Nat.le_max_left n n2) hc]
    exact run_le (Nat.le_max_right n n2) hr
theorem Wp_mono {X : SX} {m : Nat} {c : List CE} {l : Lo} {st : List Value} {h : AH} {Q Q' : Option Value → AH → Prop} (hw : Wp X m c l st h Q) (hq : ∀ v h', Q v h' → Q' v h') : Wp X m c l st h Q' := by
  obtain ⟨n, r, hr, hh⟩ := hw
  exact ⟨n, r, hr, hq _ _ hh⟩
end
section
/-! THE OWN ABSTRACT MACHINE: each operation as an equation of Wp -/
theorem kl_0 (l : Lo) : kl l 0 = l := rfl
theorem set1_0 (x : Option Value) (l : Lo) (v : Value) : set1 (x :: l) 0 v = some v :: l := rfl
theorem set1_1i (y : Int32) (x : Option Value) (l : Lo) (v : Value) : set1 (some (.int y) :: x :: l) 1 v = some (.int y) :: some v :: l := rfl
theorem set1_1r (y : Nat) (x : Option Value) (l : Lo) (v : Value) : set1 (some (.ref y) :: x :: l) 1 v = some (.ref y) :: some v :: l := rfl
theorem set1_1n (x : Option Value) (l : Lo) (v : Value) : set1 (none :: x :: l) 1 v = none :: some v :: l := rfl
theorem set1_1l (y : Int64) (x : Option Value) (l : Lo) (v : Value) : set1 (some (.long y) :: x :: l) 1 v = none :: some v :: l := rfl
theorem kl_s (x : Option Value) (l : Lo) (a : Nat) : kl (x :: l) (a + 2) = x :: kl l (a + 1) := by
  simp only [kl, List.getElem?_cons_succ]
  generalize l[a]? = z
  rcases z with _ | _ | y
  · rfl
  · rfl
  · cases y <;> rfl
theorem set1_s (x : Option Value) (l : Lo) (a : Nat) (v : Value) : set1 (x :: l) (a + 2) v = x :: set1 l (a + 1) v := by
  unfold set1
  rw [kl_s]
  rfl
theorem set2_0 (x y : Option Value) (l : Lo) (v : Value) : set2 (x :: y :: l) 0 v = some v :: none :: l := rfl
theorem set2_1i (y : Int32) (x z : Option Value) (l : Lo) (v : Value) : set2 (some (.int y) :: x :: z :: l) 1 v = some (.int y) :: some v :: none :: l := rfl
theorem set2_1r (y : Nat) (x z : Option Value) (l : Lo) (v : Value) : set2 (some (.ref y) :: x :: z :: l) 1 v = some (.ref y) :: some v :: none :: l := rfl
theorem set2_1n (x z : Option Value) (l : Lo) (v : Value) : set2 (none :: x :: z :: l) 1 v = none :: some v :: none :: l := rfl
theorem set2_1l (y : Int64) (x z : Option Value) (l : Lo) (v : Value) : set2 (some (.long y) :: x :: z :: l) 1 v = none :: some v :: none :: l := rfl
theorem set2_s (x : Option Value) (l : Lo) (a : Nat) (v : Value) : set2 (x :: l) (a + 2) v = x :: set2 l (a + 1) v := by
  unfold set2
  rw [kl_s]
  rfl
/-- the value of a local, of its kind -/
def ldv (K : Value → Prop) : Lo → Nat → Nat → Prop
  | [], _, _ => False
  | some (.int x) :: _, 0, 0 => K (.int x)
  | some (.long x) :: _, 0, 1 => K (.long x)
  | some (.ref x) :: _, 0, 2 => K (.ref x)
  | _ :: _, 0, _ => False
  | _ :: l, a + 1, b => ldv K l a b
theorem ldv_i (K : Value → Prop) (x : Int32) (l : Lo) : ldv K (some (.int x) :: l) 0 0 = K (.int x) := rfl
theorem ldv_l (K : Value → Prop) (x : Int64) (l : Lo) : ldv K (some (.long x) :: l) 0 1 = K (.long x) := rfl
theorem ldv_r (K : Value → Prop) (x : Nat) (l : Lo) : ldv K (some (.ref x) :: l) 0 2 = K (.ref x) := rfl
theorem ldv_s (K : Value → Prop) (x : Option Value) (l : Lo) (a b : Nat) : ldv K (x :: l) (a + 1) b = ldv K l a b := by rw [ldv]
def ldi (K : Int32 → Prop) : Lo → Nat → Prop
  | [], _ => False
  | some (.int x) :: _, 0 => K x
  | _ :: _, 0 => False
  | _ :: l, a + 1 => ldi K l a
theorem ldi_i (K : Int32 → Prop) (x : Int32) (l : Lo) : ldi K (some (.int x) :: l) 0 = K x := rfl
theorem ldi_s (K : Int32 → Prop) (x : Option Value) (l : Lo) (a : Nat) : ldi K (x :: l) (a + 1) = ldi K l a := by rw [ldi]
section EQS
variable {X : SX} {m pc ln a b : Nat} {v : Value} {ts : List (Int32 × Nat)} {c : List CE} {l : Lo} {st : List Value} {h : AH} {Q : Option Value → AH → Prop}
theorem w0 : Wp X m ((pc, ln, 0, a, b, v, ts) :: c) l st h Q = Wp X m c l (v :: st) h Q := Wp_go (j := none) rfl
theorem s1_eq (l' : Lo) (l0 : Lo) : ∀ (l1 : Lo) (a : Nat), (match s1 a b l1 st h with | some (.inl (j, _, st', h')) => Wp X m (jmp m j c) l0 st' h' Q | _ => False) = ldv (fun v => Wp X m c l0 (v :: st) h Q) l1 a b := by
  intro l1
  induction l1 with
  | nil => intro a; simp [s1, ldv]
  | cons x l1 ih =>
    intro a
    cases a with
    | zero =>
      rcases x with _ | x
      · simp [s1, ldv]
      · cases x <;> rcases b with _ | _ | _ | b <;> simp [s1, ldv, nx, jmp]
    | succ a =>
      rw [ldv_s, ← ih a]
      simp only [s1, List.getElem?_cons_succ]
      rcases l1[a]? with _ | _ | y
      · rfl
      · rfl
      · cases y <;> rcases b with _ | _ | _ | b <;> rfl
theorem w1 : Wp X m ((pc, ln, 1, a, b, v, ts) :: c) l st h Q = ldv (fun v => Wp X m c l (v :: st) h Q) l a b := by
  rw [← s1_eq (X := X) (m := m) (c := c) (st := st) (h := h) (Q := Q) l l l a]
  have e : stp X (pc, ln, 1, a, b, v, ts) l st h = s1 a b l st h := rfl
  cases hs : s1 a b l st h with
  | none => rw [Wp_no (e.trans hs)]
  | some o =>
    rw [hs] at e
    unfold s1 at hs
    split at hs <;> first | (cases hs; rw [Wp_go e]; done) | (cases hs)
theorem w2i {x : Int32} : Wp X m ((pc, ln, 2, a, 0, v, ts) :: c) l (.int x :: st) h Q = Wp X m c (set1 l a (.int x)) st h Q := Wp_go (j := none) rfl
theorem w2r {x : Nat} : Wp X m ((pc, ln, 2, a, 2, v, ts) :: c) l (.ref x :: st) h Q = Wp X m c (set1 l a (.ref x)) st h Q := Wp_go (j := none) rfl
theorem w3 {x : Int64} : Wp X m ((pc, ln, 3, a, b, v, ts) :: c) l (.long x :: st) h Q = Wp X m c (set2 l a (.long x)) st h Q := Wp_go (j := none) rfl
theorem s4_eq (d : Int32) (l0 : Lo) : ∀ (l1 : Lo) (a0 : Nat), (match l1[a0]? with | some (some (.int x)) => Wp X m c (set1 l0 a (.int (x + d))) st h Q | _ => False) = ldi (fun x => Wp X m c (set1 l0 a (.int (x + d))) st h Q) l1 a0 := by
  intro l1
  induction l1 with
  | nil => intro a0; simp [ldi]
  | cons x l1 ih =>
    intro a0
    cases a0 with
    | zero =>
      rcases x with _ | x
      · simp [ldi]
      · cases x <;> simp [ldi]
    | succ a0 =>
      rw [ldi_s, ← ih a0]
      simp only [List.getElem?_cons_succ]
theorem w4 {d : Int32} : Wp X m ((pc, ln, 4, a, b, .int d, ts) :: c) l st h Q = ldi (fun x => Wp X m c (set1 l a (.int (x + d))) st h Q) l a := by
  rw [← s4_eq (X := X) (m := m) (c := c) (st := st) (h := h) (Q := Q) d l l a]
  have e : stp X (pc, ln, 4, a, b, .int d, ts) l st h = s4 a (.int d) l st h := rfl
  unfold s4 at e
  rcases hl : l[a]? with _ | _ | y
  · rw [hl] at e; rw [Wp_no e]
  · rw [hl] at e; rw [Wp_no e]
  · rw [hl] at e
    cases y <;> first | rw [Wp_go e]; rfl | rw [Wp_no e]
theorem w5_0 {x y : Int32} : Wp X m ((pc, ln, 5, a, 0, v, ts) :: c) l (.int y :: .int x :: st) h Q = Wp X m c l (.int (x + y) :: st) h Q := Wp_go (j := none) rfl
theorem w5_1 {x y : Int32} : Wp X m ((pc, ln, 5, a, 1, v, ts) :: c) l (.int y :: .int x :: st) h Q = Wp X m c l (.int (x - y) :: st) h Q := Wp_go (j := none) rfl
theorem w5_2 {x y : Int32} : Wp X m ((pc, ln, 5, a, 2, v, ts) :: c) l (.int y :: .int x :: st) h Q = Wp X m c l (.int (x * y) :: st) h Q := Wp_go (j := none) rfl
theorem w5_3 {x y : Int32} : Wp X m ((pc, ln, 5, a, 3, v, ts) :: c) l (.int y :: .int x :: st) h Q = Wp X m c l (.int (x &&& y) :: st) h Q := Wp_go (j := none) rfl
theorem w5_4 {x y : Int32} : Wp X m ((pc, ln, 5, a, 4, v, ts) :: c) l (.int y :: .int x :: st) h Q = Wp X m c l (.int (x ||| y) :: st) h Q := Wp_go (j := none) rfl
theorem w5_5 {x y : Int32} : Wp X m ((pc, ln, 5, a, 5, v, ts) :: c) l (.int y :: .int x :: st) h Q = Wp X m c l (.int (x ^^^ y) :: st) h Q := Wp_go (j := none) rfl
theorem w5_6 {x y : Int32} : Wp X m ((pc, ln, 5, a, 6, v, ts) :: c) l (.int y :: .int x :: st) h Q = Wp X m c l (.int (x <<< (y &&& 31)) :: st) h Q := Wp_go (j := none) rfl
theorem w5_7 {x y : Int32} : Wp X m ((pc, ln, 5, a, 7, v, ts) :: c) l (.int y :: .int x :: st) h Q = Wp X m c l (.int (x >>> (y &&& 31)) :: st) h Q := Wp_go (j := none) rfl
theorem w5_8 {x y : Int32} : Wp X m ((pc, ln, 5, a, 8, v, ts) :: c) l (.int y :: .int x :: st) h Q = Wp X m c l (.int ((x.toUInt32 >>> (y.toUInt32 &&& Int32.toUInt32 31)).toInt32) :: st) h Q := Wp_go (j := none) rfl
theorem w6_0 {x y : Int32} : Wp X m ((pc, ln, 6, a, 0, v, ts) :: c) l (.int y :: .int x :: st) h Q = if y = 0 then False else Wp X m c l (.int (x / y) :: st) h Q := by
  have e : stp X (pc, ln, 6, a, 0, v, ts) l (.int y :: .int x :: st) h = if y = 0 then none else nx l (.int (x / y) :: st) h := rfl
  by_cases hy : y = 0
  · rw [if_pos hy] at e ⊢; exact Wp_no e
  · rw [if_neg hy] at e ⊢; exact Wp_go (j := none) e
theorem w6_1 {x y : Int32} : Wp X m ((pc, ln, 6, a, 1, v, ts) :: c) l (.int y :: .int x :: st) h Q = if y = 0 then False else Wp X m c l (.int (x - x / y * y) :: st) h Q := by
  have e : stp X (pc, ln, 6, a, 1, v, ts) l (.int y :: .int x :: st) h = if y = 0 then none else nx l (.int (x - x / y * y) :: st) h := rfl
  by_cases hy : y = 0
  · rw [if_pos hy] at e ⊢; exact Wp_no e
  · rw [if_neg hy] at e ⊢; exact Wp_go (j := none) e
theorem w7_0 {x y : Int64} : Wp X m ((pc, ln, 7, a, 0, v, ts) :: c) l (.long y :: .long x :: st) h Q = Wp X m c l (.long (x + y) :: st) h Q := Wp_go (j := none) rfl
theorem w7_1 {x y : Int64} : Wp X m ((pc, ln, 7, a, 1, v, ts) :: c) l (.long y :: .long x :: st) h Q = Wp X m c l (.long (x - y) :: st) h Q := Wp_go (j := none) rfl
theorem w7_2 {x y : Int64} : Wp X m ((pc, ln, 7, a, 2, v, ts) :: c) l (.long y :: .long x :: st) h Q = Wp X m c l (.long (x * y) :: st) h Q := Wp_go (j := none) rfl
theorem w7_3 {x y : Int64} : Wp X m ((pc, ln, 7, a, 3, v, ts) :: c) l (.long y :: .long x :: st) h Q = Wp X m c l (.long (x &&& y) :: st) h Q := Wp_go (j := none) rfl
theorem w7_4 {x y : Int64} : Wp X m ((pc, ln, 7, a, 4, v, ts) :: c) l (.long y :: .long x :: st) h Q = Wp X m c l (.long (x ||| y) :: st) h Q := Wp_go (j := none) rfl
theorem w7_5 {x y : Int64} : Wp X m ((pc, ln, 7, a, 5, v, ts) :: c) l (.long y :: .long x :: st) h Q = Wp X m c l (.long (x ^^^ y) :: st) h Q := Wp_go (j := none) rfl
theorem w8_0 {x y : Int64} : Wp X m ((pc, ln, 8, a, 0, v, ts) :: c) l (.long y :: .long x :: st) h Q = if y = 0 then False else Wp X m c l (.long (x / y) :: st) h Q := by
  have e : stp X (pc, ln, 8, a, 0, v, ts) l (.long y :: .long x :: st) h = if y = 0 then none else nx l (.long (x / y) :: st) h := rfl
  by_cases hy : y = 0
  · rw [if_pos hy] at e ⊢; exact Wp_no e
  · rw [if_neg hy] at e ⊢; exact Wp_go (j := none) e
theorem w8_1 {x y : Int64} : Wp X m ((pc, ln, 8, a, 1, v, ts) :: c) l (.long y :: .long x :: st) h Q = if y = 0 then False else Wp X m c l (.long (x - x / y * y) :: st) h Q := by
  have e : stp X (pc, ln, 8, a, 1, v, ts) l (.long y :: .long x :: st) h = if y = 0 then none else nx l (.long (x - x / y * y) :: st) h := rfl
  by_cases hy : y = 0
  · rw [if_pos hy] at e ⊢; exact Wp_no e
  · rw [if_neg hy] at e ⊢; exact Wp_go (j := none) e
theorem w9_0 {x : Int64} {y : Int32} : Wp X m ((pc, ln, 9, a, 0, v, ts) :: c) l (.int y :: .long x :: st) h Q = Wp X m c l (.long (x <<< (y.toInt64 &&& 63)) :: st) h Q := Wp_go (j := none) rfl
theorem w9_1 {x : Int64} {y : Int32} : Wp X m ((pc, ln, 9, a, 1, v, ts) :: c) l (.int y :: .long x :: st) h Q = Wp X m c l (.long (x >>> (y.toInt64 &&& 63)) :: st) h Q := Wp_go (j := none) rfl
theorem w9_2 {x : Int64} {y : Int32} : Wp X m ((pc, ln, 9, a, 2, v, ts) :: c) l (.int y :: .long x :: st) h Q = Wp X m c l (.long ((x.toUInt64 >>> (y.toInt64.toUInt64 &&& Int64.toUInt64 63)).toInt64) :: st) h Q := Wp_go (j := none) rfl
theorem w10_0 {x : Int32} : Wp X m ((pc, ln, 10, a, 0, v, ts) :: c) l (.int x :: st) h Q = Wp X m c l (.int (-x) :: st) h Q := Wp_go (j := none) rfl
theorem w10_1 {x : Int64} : Wp X m ((pc, ln, 10, a, 1, v, ts) :: c) l (.long x :: st) h Q = Wp X m c l (.long (-x) :: st) h Q := Wp_go (j := none) rfl
theorem w10_2 {x : Int32} : Wp X m ((pc, ln, 10, a, 2, v, ts) :: c) l (.int x :: st) h Q = Wp X m c l (.long (x.toInt64) :: st) h Q := Wp_go (j := none) rfl
theorem w10_3 {x : Int64} : Wp X m ((pc, ln, 10, a, 3, v, ts) :: c) l (.long x :: st) h Q = Wp X m c l (.int (x.toInt32) :: st) h Q := Wp_go (j := none) rfl
theorem w10_4 {x : Int32} : Wp X m ((pc, ln, 10, a, 4, v, ts) :: c) l (.int x :: st) h Q = Wp X m c l (.int (x.toInt8.toInt32) :: st) h Q := Wp_go (j := none) rfl
theorem w10_5 {x : Int32} : Wp X m ((pc, ln, 10, a, 5, v, ts) :: c) l (.int x :: st) h Q = Wp X m c l (.int (x.toInt16.toInt32) :: st) h Q := Wp_go (j := none) rfl
theorem w11 {x y : Int64} : Wp X m ((pc, ln, 11, a, b, v, ts) :: c) l (.long y :: .long x :: st) h Q = Wp X m c l (.int (lg_cmp x y) :: st) h Q := Wp_go (j := none) rfl
theorem w_br {e : CE} {P : Prop} [Decidable P] {l' : Lo} {st' : List Value} (hs : stp X e l st h = br P a l' st' h) : Wp X m (e :: c) l st h Q = if P then Wp X m (J m a) l' st' h Q else Wp X m c l' st' h Q := by
  rw [Wp_go hs]
  by_cases hp : P
  · rw [if_pos hp, if_pos hp]; rfl
  · rw [if_neg hp, if_neg hp]; rfl
theorem w12_0 {x : Int32} : Wp X m ((pc, ln, 12, a, 0, v, ts) :: c) l (.int x :: st) h Q = if x = 0 then Wp X m (J m a) l st h Q else Wp X m c l st h Q := w_br rfl
theorem w12_1 {x : Int32} : Wp X m ((pc, ln, 12, a, 1, v, ts) :: c) l (.int x :: st) h Q = if x ≠ 0 then Wp X m (J m a) l st h Q else Wp X m c l st h Q := w_br rfl
theorem w12_2 {x : Int32} : Wp X m ((pc, ln, 12, a, 2, v, ts) :: c) l (.int x :: st) h Q = if x < 0 then Wp X m (J m a) l st h Q else Wp X m c l st h Q := w_br rfl
theorem w12_3 {x : Int32} : Wp X m ((pc, ln, 12, a, 3, v, ts) :: c) l (.int x :: st) h Q = if 0 ≤ x then Wp X m (J m a) l st h Q else Wp X m c l st h Q := w_br rfl
theorem w12_4 {x : Int32} : Wp X m ((pc, ln, 12, a, 4, v, ts) :: c) l (.int x :: st) h Q = if 0 < x then Wp X m (J m a) l st h Q else Wp X m c l st h Q := w_br rfl
theorem w12_5 {x : Int32} : Wp X m ((pc, ln, 12, a, 5, v, ts) :: c) l (.int x :: st) h Q = if x ≤ 0 then Wp X m (J m a) l st h Q else Wp X m c l st h Q := w_br rfl
theorem w13_0 {x y : Int32} : Wp X m ((pc, ln, 13, a, 0, v, ts) :: c) l (.int y :: .int x :: st) h Q = if x = y then Wp X m (J m a) l st h Q else Wp X m c l st h Q := w_br rfl
theorem w13_1 {x y : Int32} : Wp X m ((pc, ln, 13, a, 1, v, ts) :: c) l (.int y :: .int x :: st) h Q = if x ≠ y then Wp X m (J m a) l st h Q else Wp X m c l st h Q := w_br rfl
theorem w13_2 {x y : Int32} : Wp X m ((pc, ln, 13, a, 2, v, ts) :: c) l (.int y :: .int x :: st) h Q = if x < y then Wp X m (J m a) l st h Q else Wp X m c l st h Q := w_br rfl
theorem w13_3 {x y : Int32} : Wp X m ((pc, ln, 13, a, 3, v, ts) :: c) l (.int y :: .int x :: st) h Q = if y ≤ x then Wp X m (J m a) l st h Q else Wp X m c l st h Q := w_br rfl
theorem w13_4 {x y : Int32} : Wp X m ((pc, ln, 13, a, 4, v, ts) :: c) l (.int y :: .int x :: st) h Q = if y < x then Wp X m (J m a) l st h Q else Wp X m c l st h Q := w_br rfl
theorem w13_5 {x y : Int32} : Wp X m ((pc, ln, 13, a, 5, v, ts) :: c) l (.int y :: .int x :: st) h Q = if x ≤ y then Wp X m (J m a) l st h Q else Wp X m c l st h Q := w_br rfl
theorem w14 : Wp X m ((pc, ln, 14, a, b, v, ts) :: c) l st h Q = Wp X m (J m a) l st h Q := Wp_go (j := some a) rfl
theorem w15i {x : Int32} : Wp X m ((pc, ln, 15, a, b, v, ts) :: c) l (.int x :: st) h Q = Wp X m c l (.int x :: .int x :: st) h Q := Wp_go (j := none) rfl
theorem w15r {x : Nat} : Wp X m ((pc, ln, 15, a, b, v, ts) :: c) l (.ref x :: st) h Q = Wp X m c l (.ref x :: .ref x :: st) h Q := Wp_go (j := none) rfl
theorem w16 {x : Int32} : Wp X m ((pc, ln, 16, a, b, v, ts) :: c) l (.int x :: st) h Q = Wp X m c l st h Q := Wp_go (j := none) rfl
theorem w17 {x : Int32} {y : Nat} : Wp X m ((pc, ln, 17, a, b, v, ts) :: c) l (.int x :: .ref y :: st) h Q = Wp X m c l (.int x :: .ref y :: .int x :: .ref y :: st) h Q := Wp_go (j := none) rfl
/-- what a cell gives, what it becomes -/
def fK (K : Value → Prop) : List Value → Nat → Prop
  | [], _ => False
  | v :: _, 0 => K v
  | _ :: fs, k + 1 => fK K fs k
theorem fK_0 (K : Value → Prop) (v : Value) (fs : List Value) : fK K (v :: fs) 0 = K v := rfl
theorem fK_s (K : Value → Prop) (v : Value) (fs : List Value) (k : Nat) : fK K (v :: fs) (k + 1) = fK K fs k := rfl
theorem fK_eq (K : Value → Prop) : ∀ (fs : List Value) (k : Nat), (match fs[k]? with | some v => K v | none => False) = fK K fs k := by
  intro fs
  induction fs with
  | nil => intro k; simp [fK]
  | cons v fs ih =>
    intro k
    cases k with
    | zero => simp [fK]
    | succ k => rw [fK_s, ← ih k, List.getElem?_cons_succ]
def gfc (C : AC) (ci k : Nat) (K : Value → Prop) : Prop := match C with
  | .inr (.inr (.inr (.inr (c, fs)))) => if c = ci then fK K fs k else False
  | _ => False
theorem gfc_O {ci k : Nat} {fs : List Value} {K : Value → Prop} : gfc (aO ci fs) ci k K = fK K fs k := by simp [gfc]
theorem w18 {q : Nat} : Wp X m ((pc, ln, 18, a, b, v, ts) :: c) l (.ref q :: st) h Q = gfc (h q) a b (fun v => Wp X m c l (v :: st) h Q) := by
  have e : stp X (pc, ln, 18, a, b, v, ts) l (.ref q :: st) h = (match gf h q a b with | some v => nx l (v :: st) h | none => none) := rfl
  unfold gfc
  unfold gf at e
  generalize h q = CC at e ⊢
  rcases CC with ⟨n, f⟩ | ⟨n, f⟩ | ⟨n, f⟩ | ⟨n, f⟩ | ⟨cc, fs⟩ <;> try exact Wp_no e
  dsimp only at e ⊢
  by_cases hc : cc = a
  · rw [if_pos hc] at e ⊢
    rw [← fK_eq]
    cases hf : fs[b]? with
    | none => rw [hf] at e; exact Wp_no e
    | some w => rw [hf] at e; exact Wp_go (j := none) e
  · rw [if_neg hc] at e ⊢
    exact Wp_no e
/-- the fields with one in another's place -/
def fS (w : Value) : List Value → Nat → List Value
  | [], _ => []
  | _ :: fs, 0 => w :: fs
  | v :: fs, k + 1 => v :: fS w fs k
theorem fS_0 (w v : Value) (fs : List Value) : fS w (v :: fs) 0 = w :: fs := rfl
theorem fS_s (w v : Value) (fs : List Value) (k : Nat) : fS w (v :: fs) (k + 1) = v :: fS w fs k := rfl
theorem fS_eq (w : Value) : ∀ (fs : List Value) (k : Nat), fs.set k w = fS w fs k := by
  intro fs
  induction fs with
  | nil => intro k; rfl
  | cons v fs ih =>
    intro k
    cases k with
    | zero => rfl
    | succ k => rw [fS_s, ← ih k, List.set_cons_succ]
def pfc (C : AC) (ci k : Nat) (w : Value) (K : AC → Prop) : Prop := match C with
  | .inr (.inr (.inr (.inr (c, fs)))) => if c = ci ∧ k < fs.length then K (aO ci (fS w fs k)) else False
  | _ => False
theorem pfc_O {ci k : Nat} {fs : List Value} {w : Value} {K : AC → Prop} (hk : k < fs.length) : pfc (aO ci fs) ci k w K = K (aO ci (fS w fs k)) := by simp [pfc, hk]
theorem w19_aux {e : CE} {q ci k : Nat} {w : Value} (he : stp X e l (w :: .ref q :: st) h = (match pf h q ci k w with | some h' => nx l st h' | none => none)) : Wp X m (e :: c) l (w :: .ref q :: st) h Q = pfc (h q) ci k w (fun C => Wp X m c l st (uH h q C) Q) := by
  unfold pfc
  unfold pf at he
  generalize h q = CC at he ⊢
  rcases CC with ⟨n, f⟩ | ⟨n, f⟩ | ⟨n, f⟩ | ⟨n, f⟩ | ⟨cc, fs⟩ <;> try exact Wp_no he
  dsimp only at he ⊢
  by_cases hc : cc = ci ∧ k < fs.length
  · rw [if_pos hc] at he ⊢
    rw [← fS_eq]
    exact Wp_go (j := none) he
  · rw [if_neg hc] at he ⊢
    exact Wp_no he
theorem w19i {q : Nat} {x : Int32} : Wp X m ((pc, ln, 19, a, b, .int 0, ts) :: c) l (.int x :: .ref q :: st) h Q = pfc (h q) a b (.int x) (fun C => Wp X m c l st (uH h q C) Q) := by
  apply w19_aux
  show s19 a b (.int 0) l (.int x :: .ref q :: st) h = _
  simp only [s19, true_or, if_true]
  rfl
theorem w19z {q : Nat} {x : Int32} : Wp X m ((pc, ln, 19, a, b, .int 1, ts) :: c) l (.int x :: .ref q :: st) h Q = if x &&& 1 = x then pfc (h q) a b (.int x) (fun C => Wp X m c l st (uH h q C) Q) else False := by
  by_cases hx : x &&& 1 = x
  · rw [if_pos hx]
    apply w19_aux
    show s19 a b (.int 1) l (.int x :: .ref q :: st) h = _
    simp only [s19, hx, or_true, if_true]
    rfl
  · rw [if_neg hx]
    apply Wp_no
    show s19 a b (.int 1) l (.int x :: .ref q :: st) h = _
    have h1 : ¬ ((1 : Int32) = 0 ∨ x &&& 1 = x) := by
      rintro (h1 | h1)
      · exact absurd h1 (by decide)
      · exact hx h1
    simp only [s19, if_neg h1]
theorem w19l {q : Nat} {x y : Int64} : Wp X m ((pc, ln, 19, a, b, .long y, ts) :: c) l (.long x :: .ref q :: st) h Q = pfc (h q) a b (.long x) (fun C => Wp X m c l st (uH h q C) Q) := w19_aux rfl
def rIc (X : SX) (C : AC) (a : Nat) (i : Int32) (K : Int32 → Prop) : Prop := match C with
  | .inl (n, f) => if i < 0 ∨ n ≤ i.toNatClampNeg then False else K (f i.toNatClampNeg)
  | _ => match X with
    | some (n, f) => if a = 61 then if i < 0 ∨ n ≤ i.toNatClampNeg then False else K (f i.toNatClampNeg) else False
    | none => False
theorem rIc_in {n : Nat} {f : Nat → Int32} {i : Int32} {K : Int32 → Prop} (hi : vp_in i n) : rIc X (aI n f) a i K = K (f i.toNatClampNeg) := by
  unfold rIc; exact if_neg hi
theorem rIc_n {n j : Nat} {f : Nat → Int32} {K : Int32 → Prop} (hj : j < n) (hn : n < 2 ^ 31) : rIc X (aI n f) a (nI j) K = K (f j) := by
  rw [rIc_in (vp_in_nI hj hn), nI_clamp (by omega)]
theorem w20 {q : Nat} {i : Int32} : Wp X m ((pc, ln, 20, a, b, v, ts) :: c) l (.int i :: .ref q :: st) h Q = rIc X (h q) q i (fun x => Wp X m c l (.int x :: st) h Q) := by
  have e : stp X (pc, ln, 20, a, b, v, ts) l (.int i :: .ref q :: st) h = (match rI X h q i with | some x => nx l (.int x :: st) h | none => none) := rfl
  unfold rIc
  unfold rI at e
  generalize h q = CC at e ⊢
  rcases CC with ⟨n, f⟩ | C
  · dsimp only at e ⊢
    by_cases hi : i < 0 ∨ n ≤ i.toNatClampNeg
    · rw [if_pos hi] at e ⊢; exact Wp_no e
    · rw [if_neg hi] at e ⊢; exact Wp_go (j := none) e
  · dsimp only at e ⊢
    rcases X with _ | ⟨n, f⟩
    · exact Wp_no e
    · dsimp only at e ⊢
      by_cases hq : q = 61
      · rw [if_pos hq] at e ⊢
        by_cases hi : i < 0 ∨ n ≤ i.toNatClampNeg
        · rw [if_pos hi] at e ⊢; exact Wp_no e
        · rw [if_neg hi] at e ⊢; exact Wp_go (j := none) e
      · rw [if_neg hq] at e ⊢; exact Wp_no e
def rJc (C : AC) (i : Int32) (K : Int64 → Prop) : Prop := match C with
  | .inr (.inl (n, f)) => if i < 0 ∨ n ≤ i.toNatClampNeg then False else K (f i.toNatClampNeg)
  | _ => False
def rBc (C : AC) (i : Int32) (K : Int32 → Prop) : Prop := match C with
  | .inr (.inr (.inl (n, f))) => if i < 0 ∨ n ≤ i.toNatClampNeg then False else K (f i.toNatClampNeg)
  | _ => False
def rRc (C : AC) (i : Int32) (K : Nat → Prop) : Prop := match C with
  | .inr (.inr (.inr (.inl (n, f)))) => if i < 0 ∨ n ≤ i.toNatClampNeg then False else match f i.toNatClampNeg with
    | some x => K x
    | none => False
  | _ => False
def wIc (C : AC) (i x : Int32) (K : AC → Prop) : Prop := match C with
  | .inl (n, f) => if i < 0 ∨ n ≤ i.toNatClampNeg then False else K (aI n (upd f i.toNatClampNeg x))
  | _ => False
def wJc (C : AC) (i : Int32) (x : Int64) (K : AC → Prop) : Prop := match C with
  | .inr (.inl (n, f)) => if i < 0 ∨ n ≤ i.toNatClampNeg then False else K (aJ n (vp_updL f i.toNatClampNeg x))
  | _ => False
def wBc (C : AC) (i x : Int32) (K : AC → Prop) : Prop := match C with
  | .inr (.inr (.inl (n, f))) => if i < 0 ∨ n ≤ i.toNatClampNeg then False else K (aB n (upd f i.toNatClampNeg (vp_nar .byte x)))
  | _ => False
theorem rJc_in {n : Nat} {f : Nat → Int64} {i : Int32} {K : Int64 → Prop} (hi : vp_in i n) : rJc (aJ n f) i K = K (f i.toNatClampNeg) := by
  unfold rJc; exact if_neg hi
theorem rJc_n {n j : Nat} {f : Nat → Int64} {K : Int64 → Prop} (hj : j < n) (hn : n < 2 ^ 31) : rJc (aJ n f) (nI j) K = K (f j) := by
  rw [rJc_in (vp_in_nI hj hn), nI_clamp (by omega)]
theorem rBc_in {n : Nat} {f : Nat → Int32} {i : Int32} {K : Int32 → Prop} (hi : vp_in i n) : rBc (aB n f) i K = K (f i.toNatClampNeg) := by
  unfold rBc; exact if_neg hi
theorem rBc_n {n j : Nat} {f : Nat → Int32} {K : Int32 → Prop} (hj : j < n) (hn : n < 2 ^ 31) : rBc (aB n f) (nI j) K = K (f j) := by
  rw [rBc_in (vp_in_nI hj hn), nI_clamp (by omega)]
theorem rRc_n {n j : Nat} {f : Nat → Option Nat} {K : Nat → Prop} {y : Nat} (hj : j < n) (hn : n < 2 ^ 31) (hf : f j = some y) : rRc (aR n f) (nI j) K = K y := by
  unfold rRc
  have hi := vp_in_nI hj hn
  dsimp only
  rw [if_neg hi, nI_clamp (by omega), hf]
theorem wIc_in {n : Nat} {f : Nat → Int32} {i x : Int32} {K : AC → Prop} (hi : vp_in i n) : wIc (aI n f) i x K = K (aI n (upd f i.toNatClampNeg x)) := by
  unfold wIc; exact if_neg hi
theorem wIc_n {n j : Nat} {f : Nat → Int32} {x : Int32} {K : AC → Prop} (hj : j < n) (hn : n < 2 ^ 31) : wIc (aI n f) (nI j) x K = K (aI n (upd f j x)) := by
  rw [wIc_in (vp_in_nI hj hn), nI_clamp (by omega)]
theorem wJc_in {n : Nat} {f : Nat → Int64} {i : Int32} {x : Int64} {K : AC → Prop} (hi : vp_in i n) : wJc (aJ n f) i x K = K (aJ n (vp_updL f i.toNatClampNeg x)) := by
  unfold wJc; exact if_neg hi
theorem wJc_n {n j : Nat} {f : Nat → Int64} {x : Int64} {K : AC → Prop} (hj : j < n) (hn : n < 2 ^ 31) : wJc (aJ n f) (nI j) x K = K (aJ n (vp_updL f j x)) := by
  rw [wJc_in (vp_in_nI hj hn), nI_clamp (by omega)]
theorem wBc_in {n : Nat} {f : Nat → Int32} {i x : Int32} {K : AC → Prop} (hi : vp_in i n) : wBc (aB n f) i x K = K (aB n (upd f i.toNatClampNeg (vp_nar .byte x))) := by
  unfold wBc; exact if_neg hi
theorem wBc_n {n j : Nat} {f : Nat → Int32} {x : Int32} {K : AC → Prop} (hj : j < n) (hn : n < 2 ^ 31) : wBc (aB n f) (nI j) x K = K (aB n (upd f j (vp_nar .byte x))) := by
  rw [wBc_in (vp_in_nI hj hn), nI_clamp (by omega)]
theorem w21 {q : Nat} {i : Int32} : Wp X m ((pc, ln, 21, a, b, v, ts) :: c) l (.int i :: .ref q :: st) h Q = rJc (h q) i (fun x => Wp X m c l (.long x :: st) h Q) := by
  have e : stp X (pc, ln, 21, a, b, v, ts) l (.int i :: .ref q :: st) h = (match rJ h q i with | some x => nx l (.long x :: st) h | none => none) := rfl
  unfold rJc
  unfold rJ at e
  generalize h q = CC at e ⊢
  rcases CC with ⟨n, f⟩ | ⟨n, f⟩ | C
  · exact Wp_no e
  · dsimp only at e ⊢
    by_cases hi : i < 0 ∨ n ≤ i.toNatClampNeg
    · rw [if_pos hi] at e ⊢; exact Wp_no e
    · rw [if_neg hi] at e ⊢; exact Wp_go (j := none) e
  · exact Wp_no e
theorem w22 {q : Nat} {i : Int32} : Wp X m ((pc, ln, 22, a, b, v, ts) :: c) l (.int i :: .ref q :: st) h Q = rBc (h q) i (fun x => Wp X m c l (.int x :: st) h Q) := by
  have e : stp X (pc, ln, 22, a, b, v, ts) l (.int i :: .ref q :: st) h = (match rB h q i with | some x => nx l (.int x :: st) h | none => none) := rfl
  unfold rBc
  unfold rB at e
  generalize h q = CC at e ⊢
  rcases CC with ⟨n, f⟩ | ⟨n, f⟩ | ⟨n, f⟩ | C
  · exact Wp_no e
  · exact Wp_no e
  · dsimp only at e ⊢
    by_cases hi : i < 0 ∨ n ≤ i.toNatClampNeg
    · rw [if_pos hi] at e ⊢; exact Wp_no e
    · rw [if_neg hi] at e ⊢; exact Wp_go (j := none) e
  · exact Wp_no e
theorem w23 {q : Nat} {i : Int32} : Wp X m ((pc, ln, 23, a, b, v, ts) :: c) l (.int i :: .ref q :: st) h Q = rRc (h q) i (fun x => Wp X m c l (.ref x :: st) h Q) := by
  have e : stp X (pc, ln, 23, a, b, v, ts) l (.int i :: .ref q :: st) h = (match rR h q i with | some x => nx l (.ref x :: st) h | none => none) := rfl
  unfold rRc
  unfold rR at e
  generalize h q = CC at e ⊢
  rcases CC with ⟨n, f⟩ | ⟨n, f⟩ | ⟨n, f⟩ | ⟨n, f⟩ | C
  · exact Wp_no e
  · exact Wp_no e
  · exact Wp_no e
  · dsimp only at e ⊢
    by_cases hi : i < 0 ∨ n ≤ i.toNatClampNeg
    · rw [if_pos hi] at e ⊢; exact Wp_no e
    · rw [if_neg hi] at e ⊢
      cases hf : f i.toNatClampNeg with
      | none => rw [hf] at e; exact Wp_no e
      | some y => rw [hf] at e; exact Wp_go (j := none) e
  · exact Wp_no e
theorem w24 {q : Nat} {i x : Int32} : Wp X m ((pc, ln, 24, a, b, v, ts) :: c) l (.int x :: .int i :: .ref q :: st) h Q = wIc (h q) i x (fun C => Wp X m c l st (uH h q C) Q) := by
  have e : stp X (pc, ln, 24, a, b, v, ts) l (.int x :: .int i :: .ref q :: st) h = (match wI h q i x with | some h' => nx l st h' | none => none) := rfl
  unfold wIc
  unfold wI at e
  generalize h q = CC at e ⊢
  rcases CC with ⟨n, f⟩ | C
  · dsimp only at e ⊢
    by_cases hi : i < 0 ∨ n ≤ i.toNatClampNeg
    · rw [if_pos hi] at e ⊢; exact Wp_no e
    · rw [if_neg hi] at e ⊢; exact Wp_go (j := none) e
  · exact Wp_no e
theorem w25 {q : Nat} {i : Int32} {x : Int64} : Wp X m ((pc, ln, 25, a, b, v, ts) :: c) l (.long x :: .int i :: .ref q :: st) h Q = wJc (h q) i x (fun C => Wp X m c l st (uH h q C) Q) := by
  have e : stp X (pc, ln, 25, a, b, v, ts) l (.long x :: .int i :: .ref q :: st) h = (match wJ h q i x with | some h' => nx l st h' | none => none) := rfl
  unfold wJc
  unfold wJ at e
  generalize h q = CC at e ⊢
  rcases CC with ⟨n, f⟩ | ⟨n, f⟩ | C
  · exact Wp_no e
  · dsimp only at e ⊢
    by_cases hi : i < 0 ∨ n ≤ i.toNatClampNeg
    · rw [if_pos hi] at e ⊢; exact Wp_no e
    · rw [if_neg hi] at e ⊢; exact Wp_go (j := none) e
  · exact Wp_no e
theorem w26 {q : Nat} {i x : Int32} : Wp X m ((pc, ln, 26, a, b, v, ts) :: c) l (.int x :: .int i :: .ref q :: st) h Q = wBc (h q) i x (fun C => Wp X m c l st (uH h q C) Q) := by
  have e : stp X (pc, ln, 26, a, b, v, ts) l (.int x :: .int i :: .ref q :: st) h = (match wB h q i x with | some h' => nx l st h' | none => none) := rfl
  unfold wBc
  unfold wB at e
  generalize h q = CC at e ⊢
  rcases CC with ⟨n, f⟩ | ⟨n, f⟩ | ⟨n, f⟩ | C
  · exact Wp_no e
  · exact Wp_no e
  · dsimp only at e ⊢
    by_cases hi : i < 0 ∨ n ≤ i.toNatClampNeg
    · rw [if_pos hi] at e ⊢; exact Wp_no e
    · rw [if_neg hi] at e ⊢; exact Wp_go (j := none) e
  · exact Wp_no e
def lnc (X : SX) (C : AC) (a : Nat) (K : Nat → Prop) : Prop := match C with
  | .inl (n, _) => K n
  | _ => match X with
    | some (n, _) => if a = 61 then K n else False
    | none => False
theorem lnc_I {n : Nat} {f : Nat → Int32} {K : Nat → Prop} : lnc X (aI n f) a K = K n := rfl
theorem w27 {q : Nat} : Wp X m ((pc, ln, 27, a, b, v, ts) :: c) l (.ref q :: st) h Q = lnc X (h q) q (fun n => Wp X m c l (.int (Int32.ofNat n) :: st) h Q) := by
  have e : stp X (pc, ln, 27, a, b, v, ts) l (.ref q :: st) h = (match lnA X h q with | some n => nx l (.int (Int32.ofNat n) :: st) h | none => none) := rfl
  unfold lnc
  unfold lnA at e
  generalize h q = CC at e ⊢
  rcases CC with ⟨n, f⟩ | C
  · exact Wp_go (j := none) e
  · dsimp only at e ⊢
    rcases X with _ | ⟨n, f⟩
    · exact Wp_no e
    · dsimp only at e ⊢
      by_cases hq : q = 61
      · rw [if_pos hq] at e ⊢; exact Wp_go (j := none) e
      · rw [if_neg hq] at e ⊢; exact Wp_no e
theorem w28_aux {as st' : List Value} (hb : st = as.reverse ++ st') (hl : as.length = b) (h4 : st'.length ≤ 4) : Wp X m ((pc, ln, 28, a, b, v, ts) :: c) l st h Q = WpM a as h (fun r h' => Wp X m c l (r.toList ++ st') h' Q) := by
  apply Wp_call
  show s28 a b l st h = _
  unfold s28
  have h1 : st.length = b + st'.length := by rw [hb]; simp [hl]
  rw [if_pos (by omega)]
  have h2 : st.take b = as.reverse := by rw [hb, List.take_append_of_le_length (by simp [hl])]; rw [List.take_of_length_le (by simp [hl])]
  have h3 : st.drop b = st' := by rw [hb, List.drop_append_of_le_length (by simp [hl])]; rw [List.drop_of_length_le (by simp [hl])]; rfl
  rw [h2, h3, List.reverse_reverse]
theorem w28_1 {a0 : Value} (h4 : st.length ≤ 4) : Wp X m ((pc, ln, 28, a, 1, v, ts) :: c) l (a0 :: st) h Q = WpM a [a0] h (fun r h' => Wp X m c l (r.toList ++ st) h' Q) := w28_aux rfl rfl h4
theorem w28_2 {a0 a1 : Value} (h4 : st.length ≤ 4) : Wp X m ((pc, ln, 28, a, 2, v, ts) :: c) l (a1 :: a0 :: st) h Q = WpM a [a0, a1] h (fun r h' => Wp X m c l (r.toList ++ st) h' Q) := w28_aux rfl rfl h4
theorem w28_3 {a0 a1 a2 : Value} (h4 : st.length ≤ 4) : Wp X m ((pc, ln, 28, a, 3, v, ts) :: c) l (a2 :: a1 :: a0 :: st) h Q = WpM a [a0, a1, a2] h (fun r h' => Wp X m c l (r.toList ++ st) h' Q) := w28_aux rfl rfl h4
theorem w28_4 {a0 a1 a2 a3 : Value} (h4 : st.length ≤ 4) : Wp X m ((pc, ln, 28, a, 4, v, ts) :: c) l (a3 :: a2 :: a1 :: a0 :: st) h Q = WpM a [a0, a1, a2, a3] h (fun r h' => Wp X m c l (r.toList ++ st) h' Q) := w28_aux rfl rfl h4
theorem w28_5 {a0 a1 a2 a3 a4 : Value} (h4 : st.length ≤ 4) : Wp X m ((pc, ln, 28, a, 5, v, ts) :: c) l (a4 :: a3 :: a2 :: a1 :: a0 :: st) h Q = WpM a [a0, a1, a2, a3, a4] h (fun r h' => Wp X m c l (r.toList ++ st) h' Q) := w28_aux rfl rfl h4
theorem w28_6 {a0 a1 a2 a3 a4 a5 : Value} (h4 : st.length ≤ 4) : Wp X m ((pc, ln, 28, a, 6, v, ts) :: c) l (a5 :: a4 :: a3 :: a2 :: a1 :: a0 :: st) h Q = WpM a [a0, a1, a2, a3, a4, a5] h (fun r h' => Wp X m c l (r.toList ++ st) h' Q) := w28_aux rfl rfl h4
def isO (C : AC) (ci : Nat) (P : Prop) : Prop := match C with
  | .inr (.inr (.inr (.inr (c, _)))) => (c = ci ∧ ¬ c = 99) ∧ P
  | _ => False
theorem isO_O {ci : Nat} {fs : List Value} {P : Prop} (hc : ¬ ci = 99) : isO (aO ci fs) ci P = P := by
  unfold isO
  exact propext ⟨fun x => x.2, fun x => ⟨⟨rfl, hc⟩, x⟩⟩
theorem w37_aux {as st' : List Value} {q ci : Nat} {z : Int32} (hb : st = (Value.ref q :: as).reverse ++ st') (hl : as.length + 1 = b) (h4 : st'.length ≤ 4) : Wp X m ((pc, ln, 37, a, b, v, [(z, ci)]) :: c) l st h Q = isO (h q) ci (WpM a (.ref q :: as) h (fun r h' => Wp X m c l (r.toList ++ st') h' Q)) := by
  have h1 : st.length = b + st'.length := by rw [hb]; simp; omega
  have h2 : st.take b = (Value.ref q :: as).reverse := by rw [hb, List.take_append_of_le_length (by simp [hl])]; rw [List.take_of_length_le (by simp [hl])]
  have h3 : st.drop b = st' := by rw [hb, List.drop_append_of_le_length (by simp [hl])]; rw [List.drop_of_length_le (by simp [hl])]; rfl
  have e : stp X (pc, ln, 37, a, b, v, [(z, ci)]) l st h = s37 a b ci st h := rfl
  unfold s37 at e
  rw [if_pos (by omega), h2, h3, List.reverse_reverse] at e
  dsimp only at e
  unfold isO
  generalize hq : h q = CC at e ⊢
  rcases CC with ⟨n, f⟩ | ⟨n, f⟩ | ⟨n, f⟩ | ⟨n, f⟩ | ⟨cc, fs⟩ <;> try exact Wp_no e
  dsimp only at e ⊢
  by_cases hc : cc = ci ∧ ¬ cc = 99
  · rw [if_pos hc] at e
    rw [Wp_call e]
    exact propext ⟨fun x => ⟨hc, x⟩, fun x => x.2⟩
  · rw [if_neg hc] at e
    rw [Wp_no e]
    exact propext ⟨fun x => x.elim, fun x => hc x.1⟩
theorem w37_1 {q ci : Nat} {z : Int32} (h4 : st.length ≤ 4) : Wp X m ((pc, ln, 37, a, 1, v, [(z, ci)]) :: c) l (.ref q :: st) h Q = isO (h q) ci (WpM a [.ref q] h (fun r h' => Wp X m c l (r.toList ++ st) h' Q)) := w37_aux rfl rfl h4
theorem w37_2 {q ci : Nat} {z : Int32} {a1 : Value} (h4 : st.length ≤ 4) : Wp X m ((pc, ln, 37, a, 2, v, [(z, ci)]) :: c) l (a1 :: .ref q :: st) h Q = isO (h q) ci (WpM a [.ref q, a1] h (fun r h' => Wp X m c l (r.toList ++ st) h' Q)) := w37_aux rfl rfl h4
theorem w37_3 {q ci : Nat} {z : Int32} {a1 a2 : Value} (h4 : st.length ≤ 4) : Wp X m ((pc, ln, 37, a, 3, v, [(z, ci)]) :: c) l (a2 :: a1 :: .ref q :: st) h Q = isO (h q) ci (WpM a [.ref q, a1, a2] h (fun r h' => Wp X m c l (r.toList ++ st) h' Q)) := w37_aux rfl rfl h4
theorem w37_4 {q ci : Nat} {z : Int32} {a1 a2 a3 : Value} (h4 : st.length ≤ 4) : Wp X m ((pc, ln, 37, a, 4, v, [(z, ci)]) :: c) l (a3 :: a2 :: a1 :: .ref q :: st) h Q = isO (h q) ci (WpM a [.ref q, a1, a2, a3] h (fun r h' => Wp X m c l (r.toList ++ st) h' Q)) := w37_aux rfl rfl h4
theorem w37_5 {q ci : Nat} {z : Int32} {a1 a2 a3 a4 : Value} (h4 : st.length ≤ 4) : Wp X m ((pc, ln, 37, a, 5, v, [(z, ci)]) :: c) l (a4 :: a3 :: a2 :: a1 :: .ref q :: st) h Q = isO (h q) ci (WpM a [.ref q, a1, a2, a3, a4] h (fun r h' => Wp X m c l (r.toList ++ st) h' Q)) := w37_aux rfl rfl h4
theorem w37_6 {q ci : Nat} {z : Int32} {a1 a2 a3 a4 a5 : Value} (h4 : st.length ≤ 4) : Wp X m ((pc, ln, 37, a, 6, v, [(z, ci)]) :: c) l (a5 :: a4 :: a3 :: a2 :: a1 :: .ref q :: st) h Q = isO (h q) ci (WpM a [.ref q, a1, a2, a3, a4, a5] h (fun r h' => Wp X m c l (r.toList ++ st) h' Q)) := w37_aux rfl rfl h4
def cpc (C0 C1 : AC) (sp dp n : Int32) (K : AC → Prop) : Prop := match C0, C1 with
  | .inl (n0, f), .inl (n1, g) => if sp < 0 ∨ dp < 0 ∨ n < 0 ∨ ¬ sp.toNatClampNeg + n.toNatClampNeg ≤ n0 ∨ ¬ dp.toNatClampNeg + n.toNatClampNeg ≤ n1 then False else K (aI n1 (va_cpy f g sp.toNatClampNeg dp.toNatClampNeg n.toNatClampNeg))
  | .inr (.inl (n0, f)), .inr (.inl (n1, g)) => if sp < 0 ∨ dp < 0 ∨ n < 0 ∨ ¬ sp.toNatClampNeg + n.toNatClampNeg ≤ n0 ∨ ¬ dp.toNatClampNeg + n.toNatClampNeg ≤ n1 then False else K (aJ n1 (va_cpy f g sp.toNatClampNeg dp.toNatClampNeg n.toNatClampNeg))
  | _, _ => False
theorem w29 {q0 q : Nat} {sp dp n : Int32} : Wp X m ((pc, ln, 29, a, b, v, ts) :: c) l [.int n, .int dp, .ref q, .int sp, .ref q0] h Q = cpc (h q0) (h q) sp dp n (fun C => Wp X m c l [] (uH h q C) Q) := by
  have e : stp X (pc, ln, 29, a, b, v, ts) l [.int n, .int dp, .ref q, .int sp, .ref q0] h = (match cpA h q0 q sp dp n with | some h' => nx l [] h' | none => none) := rfl
  unfold cpc
  unfold cpA at e
  generalize h q0 = CC0 at e ⊢
  generalize h q = CC at e ⊢
  rcases CC0 with ⟨n0, f⟩ | ⟨n0, f⟩ | C0 <;> rcases CC with ⟨n1, g⟩ | ⟨n1, g⟩ | C1 <;> try exact Wp_no e
  all_goals
    dsimp only at e ⊢
    by_cases hi : sp < 0 ∨ dp < 0 ∨ n < 0 ∨ ¬ sp.toNatClampNeg + n.toNatClampNeg ≤ n0 ∨ ¬ dp.toNatClampNeg + n.toNatClampNeg ≤ n1
    · rw [if_pos hi] at e ⊢; exact Wp_no e
    · rw [if_neg hi] at e ⊢; exact Wp_go (j := none) e
theorem cpc_I {n0 n1 i j k : Nat} {f g : Nat → Int32} {K : AC → Prop} (h0 : i + k ≤ n0) (h1 : j + k ≤ n1) (hn0 : n0 < 2 ^ 31) (hn1 : n1 < 2 ^ 31) : cpc (aI n0 f) (aI n1 g) (nI i) (nI j) (nI k) K = K (aI n1 (va_cpy f g i j k)) := by
  unfold cpc
  dsimp only
  rw [nI_clamp (show i < 2 ^ 31 by omega), nI_clamp (show j < 2 ^ 31 by omega), nI_clamp (show k < 2 ^ 31 by omega)]
  have e1 := nI_pos (show i < 2 ^ 31 by omega)
  have e2 := nI_pos (show j < 2 ^ 31 by omega)
  have e3 := nI_pos (show k < 2 ^ 31 by omega)
  rw [if_neg]
  rintro (x | x | x | x | x)
  · exact e1 x
  · exact e2 x
  · exact e3 x
  · exact x h0
  · exact x h1
theorem cpc_J {n0 n1 i j k : Nat} {f g : Nat → Int64} {K : AC → Prop} (h0 : i + k ≤ n0) (h1 : j + k ≤ n1) (hn0 : n0 < 2 ^ 31) (hn1 : n1 < 2 ^ 31) : cpc (aJ n0 f) (aJ n1 g) (nI i) (nI j) (nI k) K = K (aJ n1 (va_cpy f g i j k)) := by
  unfold cpc
  dsimp only
  rw [nI_clamp (show i < 2 ^ 31 by omega), nI_clamp (show j < 2 ^ 31 by omega), nI_clamp (show k < 2 ^ 31 by omega)]
  have e1 := nI_pos (show i < 2 ^ 31 by omega)
  have e2 := nI_pos (show j < 2 ^ 31 by omega)
  have e3 := nI_pos (show k < 2 ^ 31 by omega)
  rw [if_neg]
  rintro (x | x | x | x | x)
  · exact e1 x
  · exact e2 x
  · exact e3 x
  · exact x h0
  · exact x h1
theorem w30i {x : Int32} : Wp X m ((pc, ln, 30, a, 0, v, ts) :: c) l [.int x] h Q = Q (some (.int x)) h := by
  apply Wp_ret
  show s30 0 [.int x] = _
  simp only [s30, true_or, if_true]
theorem w30z {x : Int32} : Wp X m ((pc, ln, 30, a, 1, v, ts) :: c) l [.int x] h Q = if x &&& 1 = x then Q (some (.int x)) h else False := by
  by_cases hx : x &&& 1 = x
  · rw [if_pos hx]
    apply Wp_ret
    show s30 1 [.int x] = _
    simp only [s30, hx, or_true, if_true]
  · rw [if_neg hx]
    apply Wp_no
    show s30 1 [.int x] = _
    have h1 : ¬ (1 = 0 ∨ x &&& 1 = x) := by
      rintro (h1 | h1)
      · exact absurd h1 (by decide)
      · exact hx h1
    simp only [s30, if_neg h1]
theorem w31 {x : Int64} : Wp X m ((pc, ln, 31, a, b, v, ts) :: c) l [.long x] h Q = Q (some (.long x)) h := Wp_ret rfl
theorem w32 : Wp X m ((pc, ln, 32, a, b, v, ts) :: c) l [] h Q = Q none h := Wp_ret rfl
theorem w33 {x : Int32} : Wp X m ((pc, ln, 33, a, b, v, ts) :: c) l (.int x :: st) h Q = Wp X m (J m (swT x a ts)) l st h Q := Wp_go (j := some (swT x a ts)) rfl
theorem w34 {x y : Int32} (h4 : st.length ≤ 4) : Wp X m ((pc, ln, 34, a, b, v, ts) :: c) l (.int y :: .int x :: st) h Q = Wp X m c l (.int (if y < x then y else x) :: st) h Q := by
  apply Wp_go (j := none)
  show s34 l (.int y :: .int x :: st) h = _
  simp only [s34, h4, if_true]
  rfl
theorem w35 {x y : Int32} (h4 : st.length ≤ 4) : Wp X m ((pc, ln, 35, a, b, v, ts) :: c) l (.int y :: .int x :: st) h Q = Wp X m c l (.int (if x < y then y else x) :: st) h Q := by
  apply Wp_go (j := none)
  show s35 l (.int y :: .int x :: st) h = _
  simp only [s35, h4, if_true]
  rfl
theorem w36 {x : Int64} (h4 : st.length ≤ 4) : Wp X m ((pc, ln, 36, a, b, v, ts) :: c) l (.long x :: st) h Q = Wp X m c l (.long (if 0 < x then x else -x) :: st) h Q := by
  apply Wp_go (j := none)
  show s36 l (.long x :: st) h = _
  simp only [s36, h4, if_true]
  rfl
end EQS
theorem uH_s (h : AH) (a : Nat) (c : AC) : uH h a c a = c := by simp [uH]
theorem uH_n (h : AH) {a q : Nat} (c : AC) (hq : ¬ q = a) : uH h a c q = h q := by simp [uH, hq]
theorem uH_u (h : AH) (a : Nat) (c c' : AC) : uH (uH h a c) a c' = uH h a c' := by
  funext q; by_cases hq : q = a <;> simp [uH, hq]
theorem uH_c (h : AH) {a b : Nat} (c c' : AC) (hab : a ≠ b) : uH (uH h a c) b c' = uH (uH h b c') a c := by
  funext q
  by_cases hq : q = a
  · by_cases hq2 : q = b
    · exact absurd (hq.symm.trans hq2) hab
    · simp [uH, hq]; intro h1; exact absurd h1 (fun h => hab h)
  · by_cases hq2 : q = b
    · simp [uH, hq, hq2]; intro hb; exact absurd hb.symm hab
    · simp [uH, hq, hq2]
theorem uH_id (h : AH) {a : Nat} {c : AC} (hc : h a = c) : uH h a c = h := by
  funext q; by_cases hq : q = a
  · simp [uH, hq, hc]
  · simp [uH, hq]
theorem b1_0 : ((0 : Int32) &&& 1 = 0) = True := by decide
theorem b1_1 : ((1 : Int32) &&& 1 = 1) = True := by decide
theorem tl_s (v : Value) (st : List Value) : (some v).toList ++ st = v :: st := rfl
theorem tl_n (st : List Value) : (none : Option Value).toList ++ st = st := rfl
end
section
/-! entries of the methods: the locals as they begin -/
theorem eJI_bitCount {v0 : Int32} {h : AH} {Q : Option Value → AH → Prop} : WpM 0 [.int v0] h Q = Wp none 0 qJI_bitCount_0 [some (.int v0)] [] h Q := WpM_e (Nat.le_of_ble_eq_true rfl)
theorem eR_reaches {v0 : Nat} {v1 : Int32} {h : AH} {Q : Option Value → AH → Prop} : WpM 1 [.ref v0, .int v1] h Q = Wp none 1 qR_reaches_0 [some (.ref v0), some (.int v1)] [] h Q := WpM_e (Nat.le_of_ble_eq_true rfl)
theorem eR_solve {v0 : Nat} {v1 : Nat} {h : AH} {Q : Option Value → AH → Prop} : WpM 2 [.ref v0, .ref v1] h Q = Wp none 2 qR_solve_0 [some (.ref v0), some (.ref v1), none] [] h Q := WpM_e (Nat.le_of_ble_eq_true rfl)
theorem eR_fillRows {v0 : Nat} {v1 : Nat} {h : AH} {Q : Option Value → AH → Prop} : WpM 3 [.ref v0, .ref v1] h Q = Wp none 3 qR_fillRows_0 [some (.ref v0), some (.ref v1), none, none, none] [] h Q := WpM_e (Nat.le_of_ble_eq_true rfl)
theorem eR_clearRows {v0 : Nat} {h : AH} {Q : Option Value → AH → Prop} : WpM 4 [.ref v0] h Q = Wp none 4 qR_clearRows_0 [some (.ref v0), none, none, none, none] [] h Q := WpM_e (Nat.le_of_ble_eq_true rfl)
theorem eR_clearRow {v0 : Nat} {v1 : Int32} {v2 : Int32} {v3 : Int64} {h : AH} {Q : Option Value → AH → Prop} : WpM 5 [.ref v0, .int v1, .int v2, .long v3] h Q = Wp none 5 qR_clearRow_0 [some (.ref v0), some (.int v1), some (.int v2), some (.long v3), none, none, none, none, none, none, none, none] [] h Q := WpM_e (Nat.le_of_ble_eq_true rfl)
theorem eR_rentAbove {v0 : Nat} {v1 : Int32} {h : AH} {Q : Option Value → AH → Prop} : WpM 6 [.ref v0, .int v1] h Q = Wp none 6 qR_rentAbove_0 [some (.ref v0), some (.int v1), none, none, none] [] h Q := WpM_e (Nat.le_of_ble_eq_true rfl)
theorem eR_movesAbove {v0 : Nat} {v1 : Int32} {v2 : Int32} {h : AH} {Q : Option Value → AH → Prop} : WpM 7 [.ref v0, .int v1, .int v2] h Q = Wp none 7 qR_movesAbove_0 [some (.ref v0), some (.int v1), some (.int v2)] [] h Q := WpM_e (Nat.le_of_ble_eq_true rfl)
theorem eR_stepsAbove {v0 : Nat} {v1 : Int32} {h : AH} {Q : Option Value → AH → Prop} : WpM 8 [.ref v0, .int v1] h Q = Wp none 8 qR_stepsAbove_0 [some (.ref v0), some (.int v1)] [] h Q := WpM_e (Nat.le_of_ble_eq_true rfl)
theorem eR_reprice {v0 : Nat} {v1 : Int32} {v2 : Int32} {h : AH} {Q : Option Value → AH → Prop} : WpM 9 [.ref v0, .int v1, .int v2] h Q = Wp none 9 qR_reprice_0 [some (.ref v0), some (.int v1), some (.int v2), none, none] [] h Q := WpM_e (Nat.le_of_ble_eq_true rfl)
theorem eR_incomeAbove {v0 : Nat} {v1 : Nat} {v2 : Int32} {h : AH} {Q : Option Value → AH → Prop} : WpM 10 [.ref v0, .ref v1, .int v2] h Q = Wp none 10 qR_incomeAbove_0 [some (.ref v0), some (.ref v1), some (.int v2), none, none, none] [] h Q := WpM_e (Nat.le_of_ble_eq_true rfl)
theorem eR_areNear {v0 : Nat} {v1 : Nat} {v2 : Int32} {h : AH} {Q : Option Value → AH → Prop} : WpM 11 [.ref v0, .ref v1, .int v2] h Q = Wp none 11 qR_areNear_0 [some (.ref v0), some (.ref v1), some (.int v2), none] [] h Q := WpM_e (Nat.le_of_ble_eq_true rfl)
theorem eS_renew {v0 : Nat} {v1 : Int32} {v2 : Int32} {h : AH} {Q : Option Value → AH → Prop} : WpM 12 [.ref v0, .int v1, .int v2] h Q = Wp none 12 qS_renew_0 [some (.ref v0), some (.int v1), some (.int v2), none] [] h Q := WpM_e (Nat.le_of_ble_eq_true rfl)
theorem eS_holds {v0 : Nat} {v1 : Int32} {v2 : Int32} {h : AH} {Q : Option Value → AH → Prop} : WpM 13 [.ref v0, .int v1, .int v2] h Q = Wp none 13 qS_holds_0 [some (.ref v0), some (.int v1), some (.int v2)] [] h Q := WpM_e (Nat.le_of_ble_eq_true rfl)
theorem eP_append {v0 : Nat} {v1 : Int64} {v2 : Int32} {h : AH} {Q : Option Value → AH → Prop} : WpM 14 [.ref v0, .long v1, .int v2] h Q = Wp none 14 qP_append_0 [some (.ref v0), some (.long v1), none, some (.int v2), none] [] h Q := WpM_e (Nat.le_of_ble_eq_true rfl)
theorem eP_readTown {v0 : Nat} {v1 : Nat} {h : AH} {Q : Option Value → AH → Prop} : WpM 15 [.ref v0, .ref v1] h Q = Wp none 15 qP_readTown_0 [some (.ref v0), some (.ref v1), none] [] h Q := WpM_e (Nat.le_of_ble_eq_true rfl)
theorem eP_readHouses {v0 : Nat} {v1 : Nat} {h : AH} {Q : Option Value → AH → Prop} : WpM 16 [.ref v0, .ref v1] h Q = Wp none 16 qP_readHouses_0 [some (.ref v0), some (.ref v1), none, none, none, none] [] h Q := WpM_e (Nat.le_of_ble_eq_true rfl)
theorem eP_readShares {v0 : Nat} {v1 : Nat} {h : AH} {Q : Option Value → AH → Prop} : WpM 17 [.ref v0, .ref v1] h Q = Wp none 17 qP_readShares_0 [some (.ref v0), some (.ref v1), none, none, none, none, none, none, none] [] h Q := WpM_e (Nat.le_of_ble_eq_true rfl)
theorem eP_faultHere {v0 : Nat} {h : AH} {Q : Option Value → AH → Prop} : WpM 18 [.ref v0] h Q = Wp none 18 qP_faultHere_0 [some (.ref v0)] [] h Q := WpM_e (Nat.le_of_ble_eq_true rfl)
theorem eP_pairPlace {v0 : Int32} {v1 : Int32} {h : AH} {Q : Option Value → AH → Prop} : WpM 19 [.int v0, .int v1] h Q = Wp none 19 qP_pairPlace_0 [some (.int v0), some (.int v1)] [] h Q := WpM_e (Nat.le_of_ble_eq_true rfl)
theorem eP_nextSign {v0 : Nat} {h : AH} {Q : Option Value → AH → Prop} : WpM 20 [.ref v0] h Q = Wp none 20 qP_nextSign_0 [some (.ref v0)] [] h Q := WpM_e (Nat.le_of_ble_eq_true rfl)
theorem eP_kindOf {v0 : Int32} {h : AH} {Q : Option Value → AH → Prop} : WpM 21 [.int v0] h Q = Wp none 21 qP_kindOf_0 [some (.int v0)] [] h Q := WpM_e (Nat.le_of_ble_eq_true rfl)
theorem eP_digitOf {v0 : Int32} {v1 : Int32} {h : AH} {Q : Option Value → AH → Prop} : WpM 22 [.int v0, .int v1] h Q = Wp none 22 qP_digitOf_0 [some (.int v0), some (.int v1), none] [] h Q := WpM_e (Nat.le_of_ble_eq_true rfl)
theorem eP_readDigit {v0 : Nat} {v1 : Int32} {h : AH} {Q : Option Value → AH → Prop} : WpM 23 [.ref v0, .int v1] h Q = Wp none 23 qP_readDigit_0 [some (.ref v0), some (.int v1), none] [] h Q := WpM_e (Nat.le_of_ble_eq_true rfl)
theorem eP_readNumber {v0 : Nat} {h : AH} {Q : Option Value → AH → Prop} : WpM 24 [.ref v0] h Q = Wp none 24 qP_readNumber_0 [some (.ref v0), none, none] [] h Q := WpM_e (Nat.le_of_ble_eq_true rfl)
theorem eT_has {v0 : Nat} {v1 : Int32} {h : AH} {Q : Option Value → AH → Prop} : WpM 25 [.ref v0, .int v1] h Q = Wp none 25 qT_has_0 [some (.ref v0), some (.int v1)] [] h Q := WpM_e (Nat.le_of_ble_eq_true rfl)
theorem eT_hasTwo {v0 : Nat} {v1 : Int32} {v2 : Int32} {h : AH} {Q : Option Value → AH → Prop} : WpM 26 [.ref v0, .int v1, .int v2] h Q = Wp none 26 qT_hasTwo_0 [some (.ref v0), some (.int v1), some (.int v2)] [] h Q := WpM_e (Nat.le_of_ble_eq_true rfl)
theorem eT_isFixed {v0 : Nat} {v1 : Int32} {h : AH} {Q : Option Value → AH → Prop} : WpM 27 [.ref v0, .int v1] h Q = Wp none 27 qT_isFixed_0 [some (.ref v0), some (.int v1)] [] h Q := WpM_e (Nat.le_of_ble_eq_true rfl)
theorem eT_build {v0 : Nat} {v1 : Int32} {v2 : Int32} {h : AH} {Q : Option Value → AH → Prop} : WpM 28 [.ref v0, .int v1, .int v2] h Q = Wp none 28 qT_build_0 [some (.ref v0), some (.int v1), some (.int v2), none] [] h Q := WpM_e (Nat.le_of_ble_eq_true rfl)
theorem eT_shareOf {v0 : Nat} {v1 : Int32} {v2 : Int32} {h : AH} {Q : Option Value → AH → Prop} : WpM 29 [.ref v0, .int v1, .int v2] h Q = Wp none 29 qT_shareOf_0 [some (.ref v0), some (.int v1), some (.int v2)] [] h Q := WpM_e (Nat.le_of_ble_eq_true rfl)
theorem eT_putShare {v0 : Nat} {v1 : Int32} {v2 : Int32} {v3 : Int32} {h : AH} {Q : Option Value → AH → Prop} : WpM 30 [.ref v0, .int v1, .int v2, .int v3] h Q = Wp none 30 qT_putShare_0 [some (.ref v0), some (.int v1), some (.int v2), some (.int v3)] [] h Q := WpM_e (Nat.le_of_ble_eq_true rfl)
theorem eT_pullDown {v0 : Nat} {v1 : Int32} {h : AH} {Q : Option Value → AH → Prop} : WpM 31 [.ref v0, .int v1] h Q = Wp none 31 qT_pullDown_0 [some (.ref v0), some (.int v1), none] [] h Q := WpM_e (Nat.le_of_ble_eq_true rfl)
theorem eT_clear {v0 : Nat} {h : AH} {Q : Option Value → AH → Prop} : WpM 32 [.ref v0] h Q = Wp none 32 qT_clear_0 [some (.ref v0), none] [] h Q := WpM_e (Nat.le_of_ble_eq_true rfl)
theorem eT_weight {v0 : Nat} {v1 : Int32} {h : AH} {Q : Option Value → AH → Prop} : WpM 33 [.ref v0, .int v1] h Q = Wp none 33 qT_weight_0 [some (.ref v0), some (.int v1), none, none] [] h Q := WpM_e (Nat.le_of_ble_eq_true rfl)
theorem eT_pairs {v0 : Nat} {h : AH} {Q : Option Value → AH → Prop} : WpM 34 [.ref v0] h Q = Wp none 34 qT_pairs_0 [some (.ref v0), none, none, none] [] h Q := WpM_e (Nat.le_of_ble_eq_true rfl)
theorem eT_fixedSet {v0 : Nat} {h : AH} {Q : Option Value → AH → Prop} : WpM 35 [.ref v0] h Q = Wp none 35 qT_fixedSet_0 [some (.ref v0), none, none] [] h Q := WpM_e (Nat.le_of_ble_eq_true rfl)
theorem eT_reachedSet {v0 : Nat} {h : AH} {Q : Option Value → AH → Prop} : WpM 36 [.ref v0] h Q = Wp none 36 qT_reachedSet_0 [some (.ref v0), none, none, none, none, none] [] h Q := WpM_e (Nat.le_of_ble_eq_true rfl)
theorem eT_besideSet {v0 : Nat} {v1 : Int32} {h : AH} {Q : Option Value → AH → Prop} : WpM 37 [.ref v0, .int v1] h Q = Wp none 37 qT_besideSet_0 [some (.ref v0), some (.int v1), none, none] [] h Q := WpM_e (Nat.le_of_ble_eq_true rfl)
theorem eT_passYear {v0 : Nat} {h : AH} {Q : Option Value → AH → Prop} : WpM 38 [.ref v0] h Q = Wp none 38 qT_passYear_0 [some (.ref v0), none, none] [] h Q := WpM_e (Nat.le_of_ble_eq_true rfl)
theorem eT_askingAfter {v0 : Nat} {v1 : Int32} {h : AH} {Q : Option Value → AH → Prop} : WpM 39 [.ref v0, .int v1] h Q = Wp none 39 qT_askingAfter_0 [some (.ref v0), some (.int v1), none, none, none] [] h Q := WpM_e (Nat.le_of_ble_eq_true rfl)
theorem eT_takeFrom {v0 : Nat} {v1 : Nat} {h : AH} {Q : Option Value → AH → Prop} : WpM 40 [.ref v0, .ref v1] h Q = Wp none 40 qT_takeFrom_0 [some (.ref v0), some (.ref v1)] [] h Q := WpM_e (Nat.le_of_ble_eq_true rfl)
theorem eC_house {v0 : Nat} {v1 : Int32} {v2 : Int32} {h : AH} {Q : Option Value → AH → Prop} : WpM 41 [.ref v0, .int v1, .int v2] h Q = Wp none 41 qC_house_0 [some (.ref v0), some (.int v1), some (.int v2)] [] h Q := WpM_e (Nat.le_of_ble_eq_true rfl)
theorem eC_share {v0 : Nat} {v1 : Int32} {v2 : Int32} {v3 : Int32} {h : AH} {Q : Option Value → AH → Prop} : WpM 42 [.ref v0, .int v1, .int v2, .int v3] h Q = Wp none 42 qC_share_0 [some (.ref v0), some (.int v1), some (.int v2), some (.int v3), none] [] h Q := WpM_e (Nat.le_of_ble_eq_true rfl)
theorem eC_ask {v0 : Nat} {v1 : Int32} {v2 : Int32} {h : AH} {Q : Option Value → AH → Prop} : WpM 43 [.ref v0, .int v1, .int v2] h Q = Wp none 43 qC_ask_0 [some (.ref v0), some (.int v1), some (.int v2), none] [] h Q := WpM_e (Nat.le_of_ble_eq_true rfl)
theorem eC_set {v0 : Nat} {v1 : Int32} {v2 : Int32} {v3 : Int32} {h : AH} {Q : Option Value → AH → Prop} : WpM 44 [.ref v0, .int v1, .int v2, .int v3] h Q = Wp none 44 qC_set_0 [some (.ref v0), some (.int v1), some (.int v2), some (.int v3), none] [] h Q := WpM_e (Nat.le_of_ble_eq_true rfl)
theorem eC_purse {v0 : Nat} {v1 : Int32} {h : AH} {Q : Option Value → AH → Prop} : WpM 45 [.ref v0, .int v1] h Q = Wp none 45 qC_purse_0 [some (.ref v0), some (.int v1), none] [] h Q := WpM_e (Nat.le_of_ble_eq_true rfl)
theorem eC_told {v0 : Nat} {v1 : Int32} {v2 : Int32} {h : AH} {Q : Option Value → AH → Prop} : WpM 46 [.ref v0, .int v1, .int v2] h Q = Wp none 46 qC_told_0 [some (.ref v0), some (.int v1), some (.int v2)] [] h Q := WpM_e (Nat.le_of_ble_eq_true rfl)
theorem eC_type {v0 : Nat} {v1 : Int64} {v2 : Int32} {h : AH} {Q : Option Value → AH → Prop} : WpM 47 [.ref v0, .long v1, .int v2] h Q = Wp none 47 qC_type_0 [some (.ref v0), some (.long v1), none, some (.int v2)] [] h Q := WpM_e (Nat.le_of_ble_eq_true rfl)
theorem eC_town {v0 : Nat} {h : AH} {Q : Option Value → AH → Prop} : WpM 48 [.ref v0] h Q = Wp none 48 qC_town_0 [some (.ref v0), none] [] h Q := WpM_e (Nat.le_of_ble_eq_true rfl)
theorem eC_count {v0 : Nat} {v1 : Int32} {h : AH} {Q : Option Value → AH → Prop} : WpM 49 [.ref v0, .int v1] h Q = Wp none 49 qC_count_0 [some (.ref v0), some (.int v1)] [] h Q := WpM_e (Nat.le_of_ble_eq_true rfl)
theorem eC_rent {v0 : Nat} {v1 : Int32} {v2 : Int32} {h : AH} {Q : Option Value → AH → Prop} : WpM 50 [.ref v0, .int v1, .int v2] h Q = Wp none 50 qC_rent_0 [some (.ref v0), some (.int v1), some (.int v2)] [] h Q := WpM_e (Nat.le_of_ble_eq_true rfl)
theorem eC_moves {v0 : Nat} {v1 : Int32} {v2 : Int32} {v3 : Int32} {h : AH} {Q : Option Value → AH → Prop} : WpM 51 [.ref v0, .int v1, .int v2, .int v3] h Q = Wp none 51 qC_moves_0 [some (.ref v0), some (.int v1), some (.int v2), some (.int v3)] [] h Q := WpM_e (Nat.le_of_ble_eq_true rfl)
theorem eC_walk {v0 : Nat} {v1 : Int32} {v2 : Int32} {h : AH} {Q : Option Value → AH → Prop} : WpM 52 [.ref v0, .int v1, .int v2] h Q = Wp none 52 qC_walk_0 [some (.ref v0), some (.int v1), some (.int v2)] [] h Q := WpM_e (Nat.le_of_ble_eq_true rfl)
theorem eC_change {v0 : Nat} {v1 : Int32} {v2 : Int32} {v3 : Int32} {v4 : Int32} {v5 : Int32} {h : AH} {Q : Option Value → AH → Prop} : WpM 53 [.ref v0, .int v1, .int v2, .int v3, .int v4, .int v5] h Q = Wp none 53 qC_change_0 [some (.ref v0), some (.int v1), some (.int v2), some (.int v3), some (.int v4), some (.int v5)] [] h Q := WpM_e (Nat.le_of_ble_eq_true rfl)
theorem eC_pulled {v0 : Nat} {v1 : Int32} {v2 : Int32} {v3 : Int32} {h : AH} {Q : Option Value → AH → Prop} : WpM 54 [.ref v0, .int v1, .int v2, .int v3] h Q = Wp none 54 qC_pulled_0 [some (.ref v0), some (.int v1), some (.int v2), some (.int v3)] [] h Q := WpM_e (Nat.le_of_ble_eq_true rfl)
theorem eC_year {v0 : Nat} {h : AH} {Q : Option Value → AH → Prop} : WpM 55 [.ref v0] h Q = Wp none 55 qC_year_0 [some (.ref v0)] [] h Q := WpM_e (Nat.le_of_ble_eq_true rfl)
theorem eC_near {v0 : Nat} {v1 : Int32} {h : AH} {Q : Option Value → AH → Prop} : WpM 56 [.ref v0, .int v1] h Q = Wp none 56 qC_near_0 [some (.ref v0), some (.int v1), none] [] h Q := WpM_e (Nat.le_of_ble_eq_true rfl)
theorem eC_income {v0 : Nat} {v1 : Int32} {v2 : Int32} {h : AH} {Q : Option Value → AH → Prop} : WpM 57 [.ref v0, .int v1, .int v2] h Q = Wp none 57 qC_income_0 [some (.ref v0), some (.int v1), some (.int v2)] [] h Q := WpM_e (Nat.le_of_ble_eq_true rfl)
theorem eC_best {v0 : Nat} {v1 : Int32} {h : AH} {Q : Option Value → AH → Prop} : WpM 58 [.ref v0, .int v1] h Q = Wp none 58 qC_best_0 [some (.ref v0), some (.int v1), none, none, none, none, none, none] [] h Q := WpM_e (Nat.le_of_ble_eq_true rfl)
theorem eC_rests {v0 : Nat} {v1 : Int32} {v2 : Int32} {v3 : Int32} {h : AH} {Q : Option Value → AH → Prop} : WpM 59 [.ref v0, .int v1, .int v2, .int v3] h Q = Wp none 59 qC_rests_0 [some (.ref v0), some (.int v1), some (.int v2), some (.int v3), none, none, none] [] h Q := WpM_e (Nat.le_of_ble_eq_true rfl)
theorem eC_bought {v0 : Nat} {v1 : Int32} {v2 : Int32} {v3 : Int32} {h : AH} {Q : Option Value → AH → Prop} : WpM 60 [.ref v0, .int v1, .int v2, .int v3] h Q = Wp none 60 qC_bought_0 [some (.ref v0), some (.int v1), some (.int v2), some (.int v3), none, none, none, none] [] h Q := WpM_e (Nat.le_of_ble_eq_true rfl)
theorem eC_image {v0 : Nat} {h : AH} {Q : Option Value → AH → Prop} : WpM 61 [.ref v0] h Q = Wp none 61 qC_image_0 [some (.ref v0)] [] h Q := WpM_e (Nat.le_of_ble_eq_true rfl)
theorem eC_restore {v0 : Nat} {h : AH} {Q : Option Value → AH → Prop} : WpM 62 [.ref v0] h Q = Wp none 62 qC_restore_0 [some (.ref v0)] [] h Q := WpM_e (Nat.le_of_ble_eq_true rfl)
theorem eC_book {v0 : Nat} {v1 : Int32} {v2 : Int32} {v3 : Int32} {h : AH} {Q : Option Value → AH → Prop} : WpM 63 [.ref v0, .int v1, .int v2, .int v3] h Q = Wp none 63 qC_book_0 [some (.ref v0), some (.int v1), some (.int v2), some (.int v3), none, none, none, none, none] [] h Q := WpM_e (Nat.le_of_ble_eq_true rfl)
theorem eC_film {v0 : Nat} {v1 : Int32} {v2 : Int32} {v3 : Int32} {h : AH} {Q : Option Value → AH → Prop} : WpM 64 [.ref v0, .int v1, .int v2, .int v3] h Q = Wp none 64 qC_film_0 [some (.ref v0), some (.int v1), some (.int v2), some (.int v3), none, none] [] h Q := WpM_e (Nat.le_of_ble_eq_true rfl)
theorem eC_sheet {v0 : Nat} {v1 : Int32} {v2 : Int32} {v3 : Int32} {h : AH} {Q : Option Value → AH → Prop} : WpM 65 [.ref v0, .int v1, .int v2, .int v3] h Q = Wp none 65 qC_sheet_0 [some (.ref v0), some (.int v1), some (.int v2), some (.int v3)] [] h Q := WpM_e (Nat.le_of_ble_eq_true rfl)
theorem eC_drop {v0 : Nat} {v1 : Int32} {h : AH} {Q : Option Value → AH → Prop} : WpM 66 [.ref v0, .int v1] h Q = Wp none 66 qC_drop_0 [some (.ref v0), some (.int v1)] [] h Q := WpM_e (Nat.le_of_ble_eq_true rfl)
theorem eC_item {v0 : Nat} {v1 : Int32} {v2 : Int32} {v3 : Int32} {v4 : Int64} {h : AH} {Q : Option Value → AH → Prop} : WpM 67 [.ref v0, .int v1, .int v2, .int v3, .long v4] h Q = Wp none 67 qC_item_0 [some (.ref v0), some (.int v1), some (.int v2), some (.int v3), some (.long v4), none, none] [] h Q := WpM_e (Nat.le_of_ble_eq_true rfl)
theorem eC_copy {v0 : Nat} {v1 : Int32} {v2 : Int32} {v3 : Int32} {v4 : Int32} {v5 : Int32} {h : AH} {Q : Option Value → AH → Prop} : WpM 68 [.ref v0, .int v1, .int v2, .int v3, .int v4, .int v5] h Q = Wp none 68 qC_copy_0 [some (.ref v0), some (.int v1), some (.int v2), some (.int v3), some (.int v4), some (.int v5), none, none] [] h Q := WpM_e (Nat.le_of_ble_eq_true rfl)
theorem eC_isPence {v0 : Int32} {h : AH} {Q : Option Value → AH → Prop} : WpM 69 [.int v0] h Q = Wp none 69 qC_isPence_0 [some (.int v0)] [] h Q := WpM_e (Nat.le_of_ble_eq_true rfl)
theorem eC_isShare {v0 : Int32} {h : AH} {Q : Option Value → AH → Prop} : WpM 70 [.int v0] h Q = Wp none 70 qC_isShare_0 [some (.int v0)] [] h Q := WpM_e (Nat.le_of_ble_eq_true rfl)
theorem eC_isOwner {v0 : Int32} {h : AH} {Q : Option Value → AH → Prop} : WpM 71 [.int v0] h Q = Wp none 71 qC_isOwner_0 [some (.int v0)] [] h Q := WpM_e (Nat.le_of_ble_eq_true rfl)
theorem eC_isPart {v0 : Int32} {h : AH} {Q : Option Value → AH → Prop} : WpM 72 [.int v0] h Q = Wp none 72 qC_isPart_0 [some (.int v0)] [] h Q := WpM_e (Nat.le_of_ble_eq_true rfl)
theorem eC_isSheet {v0 : Int32} {h : AH} {Q : Option Value → AH → Prop} : WpM 73 [.int v0] h Q = Wp none 73 qC_isSheet_0 [some (.int v0)] [] h Q := WpM_e (Nat.le_of_ble_eq_true rfl)
theorem eC_isLane {v0 : Int32} {h : AH} {Q : Option Value → AH → Prop} : WpM 74 [.int v0] h Q = Wp none 74 qC_isLane_0 [some (.int v0)] [] h Q := WpM_e (Nat.le_of_ble_eq_true rfl)
theorem eC_isIn {v0 : Int32} {v1 : Int32} {h : AH} {Q : Option Value → AH → Prop} : WpM 75 [.int v0, .int v1] h Q = Wp none 75 qC_isIn_0 [some (.int v0), some (.int v1)] [] h Q := WpM_e (Nat.le_of_ble_eq_true rfl)
theorem eC_areSigns {v0 : Int64} {v1 : Int32} {h : AH} {Q : Option Value → AH → Prop} : WpM 76 [.long v0, .int v1] h Q = Wp none 76 qC_areSigns_0 [some (.long v0), none, some (.int v1), none, none] [] h Q := WpM_e (Nat.le_of_ble_eq_true rfl)
theorem eC_byteOf {v0 : Int64} {v1 : Int32} {h : AH} {Q : Option Value → AH → Prop} : WpM 77 [.long v0, .int v1] h Q = Wp none 77 qC_byteOf_0 [some (.long v0), none, some (.int v1)] [] h Q := WpM_e (Nat.le_of_ble_eq_true rfl)
theorem eC_lowestBits {v0 : Int32} {v1 : Int64} {h : AH} {Q : Option Value → AH → Prop} : WpM 78 [.int v0, .long v1] h Q = Wp none 78 qC_lowestBits_0 [some (.int v0), some (.long v1), none] [] h Q := WpM_e (Nat.le_of_ble_eq_true rfl)
theorem eC_lowest {v0 : Int64} {v1 : Int64} {v2 : Int32} {h : AH} {Q : Option Value → AH → Prop} : WpM 79 [.long v0, .long v1, .int v2] h Q = Wp none 79 qC_lowest_0 [some (.long v0), none, some (.long v1), none, some (.int v2), none, none] [] h Q := WpM_e (Nat.le_of_ble_eq_true rfl)
theorem eC_commonDivisor {v0 : Int64} {v1 : Int64} {h : AH} {Q : Option Value → AH → Prop} : WpM 80 [.long v0, .long v1] h Q = Wp none 80 qC_commonDivisor_0 [some (.long v0), none, some (.long v1), none, none, none, none, none, none, none, none] [] h Q := WpM_e (Nat.le_of_ble_eq_true rfl)
theorem eC_trialLessNow {v0 : Nat} {v1 : Int32} {v2 : Int32} {h : AH} {Q : Option Value → AH → Prop} : WpM 81 [.ref v0, .int v1, .int v2] h Q = Wp none 81 qC_trialLessNow_0 [some (.ref v0), some (.int v1), some (.int v2), none, none, none, none, none, none] [] h Q := WpM_e (Nat.le_of_ble_eq_true rfl)
theorem eC_fillIncomes {v0 : Nat} {v1 : Int32} {v2 : Int32} {h : AH} {Q : Option Value → AH → Prop} : WpM 82 [.ref v0, .int v1, .int v2] h Q = Wp none 82 qC_fillIncomes_0 [some (.ref v0), some (.int v1), some (.int v2), none] [] h Q := WpM_e (Nat.le_of_ble_eq_true rfl)
theorem eC_isRest {v0 : Nat} {v1 : Int32} {h : AH} {Q : Option Value → AH → Prop} : WpM 83 [.ref v0, .int v1] h Q = Wp none 83 qC_isRest_0 [some (.ref v0), some (.int v1), none, none, none] [] h Q := WpM_e (Nat.le_of_ble_eq_true rfl)
theorem eC_isCheapWhenBought {v0 : Nat} {v1 : Int32} {v2 : Int32} {v3 : Int32} {v4 : Int32} {h : AH} {Q : Option Value → AH → Prop} : WpM 84 [.ref v0, .int v1, .int v2, .int v3, .int v4] h Q = Wp none 84 qC_isCheapWhenBought_0 [some (.ref v0), some (.int v1), some (.int v2), some (.int v3), some (.int v4), none, none] [] h Q := WpM_e (Nat.le_of_ble_eq_true rfl)
theorem eC_refusal {v0 : Nat} {v1 : Int32} {v2 : Int32} {v3 : Int32} {v4 : Int32} {h : AH} {Q : Option Value → AH → Prop} : WpM 85 [.ref v0, .int v1, .int v2, .int v3, .int v4] h Q = Wp none 85 qC_refusal_0 [some (.ref v0), some (.int v1), some (.int v2), some (.int v3), some (.int v4)] [] h Q := WpM_e (Nat.le_of_ble_eq_true rfl)
theorem eM_in {v0 : Int64} {v1 : Int64} {v2 : Int64} {h : AH} {Q : Option Value → AH → Prop} : WpM 86 [.long v0, .long v1, .long v2] h Q = Wp none 86 qM_in_0 [some (.long v0), none, some (.long v1), none, some (.long v2), none] [] h Q := WpM_e (Nat.le_of_ble_eq_true rfl)
theorem eM_isHouse {v0 : Nat} {v1 : Int32} {h : AH} {Q : Option Value → AH → Prop} : WpM 87 [.ref v0, .int v1] h Q = Wp none 87 qM_isHouse_0 [some (.ref v0), some (.int v1)] [] h Q := WpM_e (Nat.le_of_ble_eq_true rfl)
theorem eM_areTwo {v0 : Nat} {v1 : Int32} {v2 : Int32} {h : AH} {Q : Option Value → AH → Prop} : WpM 88 [.ref v0, .int v1, .int v2] h Q = Wp none 88 qM_areTwo_0 [some (.ref v0), some (.int v1), some (.int v2)] [] h Q := WpM_e (Nat.le_of_ble_eq_true rfl)
theorem eM_comes {v0 : Nat} {v1 : Int32} {v2 : Int32} {h : AH} {Q : Option Value → AH → Prop} : WpM 89 [.ref v0, .int v1, .int v2] h Q = Wp none 89 qM_comes_0 [some (.ref v0), some (.int v1), some (.int v2), none] [] h Q := WpM_e (Nat.le_of_ble_eq_true rfl)
theorem eM_house {v0 : Nat} {v1 : Int32} {v2 : Int32} {h : AH} {Q : Option Value → AH → Prop} : WpM 90 [.ref v0, .int v1, .int v2] h Q = Wp none 90 qM_house_0 [some (.ref v0), some (.int v1), some (.int v2)] [] h Q := WpM_e (Nat.le_of_ble_eq_true rfl)
theorem eM_puts {v0 : Nat} {v1 : Int32} {v2 : Int32} {v3 : Int32} {h : AH} {Q : Option Value → AH → Prop} : WpM 91 [.ref v0, .int v1, .int v2, .int v3] h Q = Wp none 91 qM_puts_0 [some (.ref v0), some (.int v1), some (.int v2), some (.int v3)] [] h Q := WpM_e (Nat.le_of_ble_eq_true rfl)
theorem eM_share {v0 : Nat} {v1 : Int32} {v2 : Int32} {v3 : Int32} {h : AH} {Q : Option Value → AH → Prop} : WpM 92 [.ref v0, .int v1, .int v2, .int v3] h Q = Wp none 92 qM_share_0 [some (.ref v0), some (.int v1), some (.int v2), some (.int v3), none] [] h Q := WpM_e (Nat.le_of_ble_eq_true rfl)
theorem eM_ask {v0 : Nat} {v1 : Int32} {v2 : Int32} {h : AH} {Q : Option Value → AH → Prop} : WpM 93 [.ref v0, .int v1, .int v2] h Q = Wp none 93 qM_ask_0 [some (.ref v0), some (.int v1), some (.int v2), none] [] h Q := WpM_e (Nat.le_of_ble_eq_true rfl)
theorem eM_set {v0 : Nat} {v1 : Int32} {v2 : Int32} {v3 : Int32} {h : AH} {Q : Option Value → AH → Prop} : WpM 94 [.ref v0, .int v1, .int v2, .int v3] h Q = Wp none 94 qM_set_0 [some (.ref v0), some (.int v1), some (.int v2), some (.int v3), none] [] h Q := WpM_e (Nat.le_of_ble_eq_true rfl)
theorem eM_purse {v0 : Nat} {v1 : Int32} {h : AH} {Q : Option Value → AH → Prop} : WpM 95 [.ref v0, .int v1] h Q = Wp none 95 qM_purse_0 [some (.ref v0), some (.int v1), none] [] h Q := WpM_e (Nat.le_of_ble_eq_true rfl)
theorem eM_weight {v0 : Nat} {v1 : Int32} {h : AH} {Q : Option Value → AH → Prop} : WpM 96 [.ref v0, .int v1] h Q = Wp none 96 qM_weight_0 [some (.ref v0), some (.int v1), none, none] [] h Q := WpM_e (Nat.le_of_ble_eq_true rfl)
theorem eM_isFixed {v0 : Nat} {v1 : Int32} {h : AH} {Q : Option Value → AH → Prop} : WpM 97 [.ref v0, .int v1] h Q = Wp none 97 qM_isFixed_0 [some (.ref v0), some (.int v1)] [] h Q := WpM_e (Nat.le_of_ble_eq_true rfl)
theorem eM_reached {v0 : Nat} {h : AH} {Q : Option Value → AH → Prop} : WpM 98 [.ref v0] h Q = Wp none 98 qM_reached_0 [some (.ref v0), none, none, none, none, none] [] h Q := WpM_e (Nat.le_of_ble_eq_true rfl)
theorem eM_told {v0 : Nat} {v1 : Int32} {v2 : Int32} {h : AH} {Q : Option Value → AH → Prop} : WpM 99 [.ref v0, .int v1, .int v2] h Q = Wp none 99 qM_told_0 [some (.ref v0), some (.int v1), some (.int v2)] [] h Q := WpM_e (Nat.le_of_ble_eq_true rfl)
theorem eM_count {v0 : Nat} {v1 : Int32} {h : AH} {Q : Option Value → AH → Prop} : WpM 100 [.ref v0, .int v1] h Q = Wp none 100 qM_count_0 [some (.ref v0), some (.int v1), none, none, none, none] [] h Q := WpM_e (Nat.le_of_ble_eq_true rfl)
theorem eM_size {v0 : Int32} {h : AH} {Q : Option Value → AH → Prop} : WpM 101 [.int v0] h Q = Wp none 101 qM_size_0 [some (.int v0), none, none] [] h Q := WpM_e (Nat.le_of_ble_eq_true rfl)
theorem eM_type {v0 : Nat} {v1 : Int64} {v2 : Int32} {h : AH} {Q : Option Value → AH → Prop} : WpM 102 [.ref v0, .long v1, .int v2] h Q = Wp none 102 qM_type_0 [some (.ref v0), some (.long v1), none, some (.int v2), none] [] h Q := WpM_e (Nat.le_of_ble_eq_true rfl)
theorem eM_here {v0 : Nat} {h : AH} {Q : Option Value → AH → Prop} : WpM 103 [.ref v0] h Q = Wp none 103 qM_here_0 [some (.ref v0)] [] h Q := WpM_e (Nat.le_of_ble_eq_true rfl)
theorem eM_has {v0 : Nat} {v1 : Int32} {h : AH} {Q : Option Value → AH → Prop} : WpM 104 [.ref v0, .int v1] h Q = Wp none 104 qM_has_0 [some (.ref v0), some (.int v1), none] [] h Q := WpM_e (Nat.le_of_ble_eq_true rfl)
theorem eM_must {v0 : Nat} {v1 : Int32} {v2 : Int32} {h : AH} {Q : Option Value → AH → Prop} : WpM 105 [.ref v0, .int v1, .int v2] h Q = Wp none 105 qM_must_0 [some (.ref v0), some (.int v1), some (.int v2), none] [] h Q := WpM_e (Nat.le_of_ble_eq_true rfl)
theorem eM_number {v0 : Nat} {v1 : Int32} {h : AH} {Q : Option Value → AH → Prop} : WpM 106 [.ref v0, .int v1] h Q = Wp none 106 qM_number_0 [some (.ref v0), some (.int v1), none, none] [] h Q := WpM_e (Nat.le_of_ble_eq_true rfl)
theorem eM_kindOf {v0 : Int32} {h : AH} {Q : Option Value → AH → Prop} : WpM 107 [.int v0] h Q = Wp none 107 qM_kindOf_0 [some (.int v0)] [] h Q := WpM_e (Nat.le_of_ble_eq_true rfl)
theorem eM_readHouses {v0 : Nat} {h : AH} {Q : Option Value → AH → Prop} : WpM 108 [.ref v0] h Q = Wp none 108 qM_readHouses_0 [some (.ref v0), none, none, none] [] h Q := WpM_e (Nat.le_of_ble_eq_true rfl)
theorem eM_readPairs {v0 : Nat} {v1 : Int32} {h : AH} {Q : Option Value → AH → Prop} : WpM 109 [.ref v0, .int v1] h Q = Wp none 109 qM_readPairs_0 [some (.ref v0), some (.int v1), none, none, none, none, none, none] [] h Q := WpM_e (Nat.le_of_ble_eq_true rfl)
theorem eM_town {v0 : Nat} {h : AH} {Q : Option Value → AH → Prop} : WpM 110 [.ref v0] h Q = Wp none 110 qM_town_0 [some (.ref v0), none, none] [] h Q := WpM_e (Nat.le_of_ble_eq_true rfl)
theorem eM_solves {v0 : Nat} {v1 : Int32} {h : AH} {Q : Option Value → AH → Prop} : WpM 111 [.ref v0, .int v1] h Q = Wp none 111 qM_solves_0 [some (.ref v0), some (.int v1), none, none, none, none, none] [] h Q := WpM_e (Nat.le_of_ble_eq_true rfl)
theorem eM_clears {v0 : Nat} {v1 : Int32} {v2 : Int64} {h : AH} {Q : Option Value → AH → Prop} : WpM 112 [.ref v0, .int v1, .long v2] h Q = Wp none 112 qM_clears_0 [some (.ref v0), some (.int v1), some (.long v2), none, none, none, none, none, none, none] [] h Q := WpM_e (Nat.le_of_ble_eq_true rfl)
theorem eM_lowest {v0 : Int64} {v1 : Int64} {v2 : Int32} {h : AH} {Q : Option Value → AH → Prop} : WpM 113 [.long v0, .long v1, .int v2] h Q = Wp none 113 qM_lowest_0 [some (.long v0), none, some (.long v1), none, some (.int v2), none, none, none, none, none, none] [] h Q := WpM_e (Nat.le_of_ble_eq_true rfl)
theorem eM_isKnown {v0 : Nat} {v1 : Int32} {h : AH} {Q : Option Value → AH → Prop} : WpM 114 [.ref v0, .int v1] h Q = Wp none 114 qM_isKnown_0 [some (.ref v0), some (.int v1)] [] h Q := WpM_e (Nat.le_of_ble_eq_true rfl)
theorem eM_rent {v0 : Nat} {v1 : Int32} {v2 : Int32} {h : AH} {Q : Option Value → AH → Prop} : WpM 115 [.ref v0, .int v1, .int v2] h Q = Wp none 115 qM_rent_0 [some (.ref v0), some (.int v1), some (.int v2)] [] h Q := WpM_e (Nat.le_of_ble_eq_true rfl)
theorem eM_moves {v0 : Nat} {v1 : Int32} {v2 : Int32} {v3 : Int32} {h : AH} {Q : Option Value → AH → Prop} : WpM 116 [.ref v0, .int v1, .int v2, .int v3] h Q = Wp none 116 qM_moves_0 [some (.ref v0), some (.int v1), some (.int v2), some (.int v3)] [] h Q := WpM_e (Nat.le_of_ble_eq_true rfl)
theorem eM_walk {v0 : Nat} {v1 : Int32} {v2 : Int32} {h : AH} {Q : Option Value → AH → Prop} : WpM 117 [.ref v0, .int v1, .int v2] h Q = Wp none 117 qM_walk_0 [some (.ref v0), some (.int v1), some (.int v2)] [] h Q := WpM_e (Nat.le_of_ble_eq_true rfl)
theorem eM_differs {v0 : Nat} {v1 : Int32} {v2 : Int32} {v3 : Int64} {v4 : Int64} {v5 : Int32} {h : AH} {Q : Option Value → AH → Prop} : WpM 118 [.ref v0, .int v1, .int v2, .long v3, .long v4, .int v5] h Q = Wp none 118 qM_differs_0 [some (.ref v0), some (.int v1), some (.int v2), some (.long v3), none, some (.long v4), none, some (.int v5), none, none, none, none, none, none, none, none, none, none, none, none, none] [] h Q := WpM_e (Nat.le_of_ble_eq_true rfl)
theorem eM_keeps {v0 : Nat} {h : AH} {Q : Option Value → AH → Prop} : WpM 119 [.ref v0] h Q = Wp none 119 qM_keeps_0 [some (.ref v0), none] [] h Q := WpM_e (Nat.le_of_ble_eq_true rfl)
theorem eM_change {v0 : Nat} {v1 : Int32} {v2 : Int32} {v3 : Int32} {v4 : Int32} {v5 : Int32} {h : AH} {Q : Option Value → AH → Prop} : WpM 120 [.ref v0, .int v1, .int v2, .int v3, .int v4, .int v5] h Q = Wp none 120 qM_change_0 [some (.ref v0), some (.int v1), some (.int v2), some (.int v3), some (.int v4), some (.int v5), none, none, none, none, none] [] h Q := WpM_e (Nat.le_of_ble_eq_true rfl)
theorem eM_pulled {v0 : Nat} {v1 : Int32} {v2 : Int32} {v3 : Int32} {h : AH} {Q : Option Value → AH → Prop} : WpM 121 [.ref v0, .int v1, .int v2, .int v3] h Q = Wp none 121 qM_pulled_0 [some (.ref v0), some (.int v1), some (.int v2), some (.int v3), none, none, none, none, none, none] [] h Q := WpM_e (Nat.le_of_ble_eq_true rfl)
theorem eM_goesOn {v0 : Nat} {v1 : Nat} {h : AH} {Q : Option Value → AH → Prop} : WpM 122 [.ref v0, .ref v1] h Q = Wp none 122 qM_goesOn_0 [some (.ref v0), some (.ref v1), none, none, none, none, none] [] h Q := WpM_e (Nat.le_of_ble_eq_true rfl)
theorem eM_year {v0 : Nat} {h : AH} {Q : Option Value → AH → Prop} : WpM 123 [.ref v0] h Q = Wp none 123 qM_year_0 [some (.ref v0), none, none] [] h Q := WpM_e (Nat.le_of_ble_eq_true rfl)
theorem eM_near {v0 : Nat} {v1 : Int32} {h : AH} {Q : Option Value → AH → Prop} : WpM 124 [.ref v0, .int v1] h Q = Wp none 124 qM_near_0 [some (.ref v0), some (.int v1), none, none, none, none, none] [] h Q := WpM_e (Nat.le_of_ble_eq_true rfl)
theorem eM_incomeOf {v0 : Nat} {v1 : Int32} {h : AH} {Q : Option Value → AH → Prop} : WpM 125 [.ref v0, .int v1] h Q = Wp none 125 qM_incomeOf_0 [some (.ref v0), some (.int v1), none, none, none, none] [] h Q := WpM_e (Nat.le_of_ble_eq_true rfl)
theorem eM_income {v0 : Nat} {v1 : Int32} {v2 : Int32} {h : AH} {Q : Option Value → AH → Prop} : WpM 126 [.ref v0, .int v1, .int v2] h Q = Wp none 126 qM_income_0 [some (.ref v0), some (.int v1), some (.int v2), none, none] [] h Q := WpM_e (Nat.le_of_ble_eq_true rfl)
theorem eM_best {v0 : Nat} {v1 : Int32} {h : AH} {Q : Option Value → AH → Prop} : WpM 127 [.ref v0, .int v1] h Q = Wp none 127 qM_best_0 [some (.ref v0), some (.int v1), none, none, none, none, none, none, none] [] h Q := WpM_e (Nat.le_of_ble_eq_true rfl)
theorem eM_rests {v0 : Nat} {v1 : Int32} {v2 : Int32} {v3 : Int32} {h : AH} {Q : Option Value → AH → Prop} : WpM 128 [.ref v0, .int v1, .int v2, .int v3] h Q = Wp none 128 qM_rests_0 [some (.ref v0), some (.int v1), some (.int v2), some (.int v3), none, none, none, none, none, none, none] [] h Q := WpM_e (Nat.le_of_ble_eq_true rfl)
theorem eM_bought {v0 : Nat} {v1 : Int32} {v2 : Int32} {v3 : Int32} {h : AH} {Q : Option Value → AH → Prop} : WpM 129 [.ref v0, .int v1, .int v2, .int v3] h Q = Wp none 129 qM_bought_0 [some (.ref v0), some (.int v1), some (.int v2), some (.int v3), none, none, none, none, none] [] h Q := WpM_e (Nat.le_of_ble_eq_true rfl)
theorem eM_lay {v0 : Nat} {v1 : Nat} {v2 : Int32} {h : AH} {Q : Option Value → AH → Prop} : WpM 130 [.ref v0, .ref v1, .int v2] h Q = Wp none 130 qM_lay_0 [some (.ref v0), some (.ref v1), some (.int v2), none] [] h Q := WpM_e (Nat.le_of_ble_eq_true rfl)
theorem eM_gives {v0 : Nat} {v1 : Int32} {v2 : Nat} {h : AH} {Q : Option Value → AH → Prop} : WpM 131 [.ref v0, .int v1, .ref v2] h Q = Wp none 131 qM_gives_0 [some (.ref v0), some (.int v1), some (.ref v2), none] [] h Q := WpM_e (Nat.le_of_ble_eq_true rfl)
theorem eM_image {v0 : Nat} {h : AH} {Q : Option Value → AH → Prop} : WpM 132 [.ref v0] h Q = Wp none 132 qM_image_0 [some (.ref v0), none] [] h Q := WpM_e (Nat.le_of_ble_eq_true rfl)
theorem eM_restore {v0 : Nat} {h : AH} {Q : Option Value → AH → Prop} : WpM 133 [.ref v0] h Q = Wp none 133 qM_restore_0 [some (.ref v0), none] [] h Q := WpM_e (Nat.le_of_ble_eq_true rfl)
theorem eM_isSheet {v0 : Int32} {h : AH} {Q : Option Value → AH → Prop} : WpM 134 [.int v0] h Q = Wp none 134 qM_isSheet_0 [some (.int v0)] [] h Q := WpM_e (Nat.le_of_ble_eq_true rfl)
theorem eM_isLane {v0 : Int32} {h : AH} {Q : Option Value → AH → Prop} : WpM 135 [.int v0] h Q = Wp none 135 qM_isLane_0 [some (.int v0)] [] h Q := WpM_e (Nat.le_of_ble_eq_true rfl)
theorem eM_why {v0 : Nat} {v1 : Int32} {v2 : Int32} {v3 : Int32} {v4 : Int32} {h : AH} {Q : Option Value → AH → Prop} : WpM 136 [.ref v0, .int v1, .int v2, .int v3, .int v4] h Q = Wp none 136 qM_why_0 [some (.ref v0), some (.int v1), some (.int v2), some (.int v3), some (.int v4)] [] h Q := WpM_e (Nat.le_of_ble_eq_true rfl)
theorem eM_book {v0 : Nat} {v1 : Int32} {v2 : Int32} {v3 : Int32} {h : AH} {Q : Option Value → AH → Prop} : WpM 137 [.ref v0, .int v1, .int v2, .int v3] h Q = Wp none 137 qM_book_0 [some (.ref v0), some (.int v1), some (.int v2), some (.int v3), none, none, none] [] h Q := WpM_e (Nat.le_of_ble_eq_true rfl)
theorem eM_comesTo {v0 : Nat} {v1 : Int32} {v2 : Int32} {v3 : Int64} {h : AH} {Q : Option Value → AH → Prop} : WpM 138 [.ref v0, .int v1, .int v2, .long v3] h Q = Wp none 138 qM_comesTo_0 [some (.ref v0), some (.int v1), some (.int v2), some (.long v3), none, none] [] h Q := WpM_e (Nat.le_of_ble_eq_true rfl)
theorem eM_film {v0 : Nat} {v1 : Int32} {v2 : Int32} {v3 : Int32} {h : AH} {Q : Option Value → AH → Prop} : WpM 139 [.ref v0, .int v1, .int v2, .int v3] h Q = Wp none 139 qM_film_0 [some (.ref v0), some (.int v1), some (.int v2), some (.int v3), none, none] [] h Q := WpM_e (Nat.le_of_ble_eq_true rfl)
theorem eM_sheet {v0 : Nat} {v1 : Int32} {v2 : Int32} {v3 : Int32} {h : AH} {Q : Option Value → AH → Prop} : WpM 140 [.ref v0, .int v1, .int v2, .int v3] h Q = Wp none 140 qM_sheet_0 [some (.ref v0), some (.int v1), some (.int v2), some (.int v3), none] [] h Q := WpM_e (Nat.le_of_ble_eq_true rfl)
theorem eM_drop {v0 : Nat} {v1 : Int32} {h : AH} {Q : Option Value → AH → Prop} : WpM 141 [.ref v0, .int v1] h Q = Wp none 141 qM_drop_0 [some (.ref v0), some (.int v1)] [] h Q := WpM_e (Nat.le_of_ble_eq_true rfl)
theorem eM_item {v0 : Nat} {v1 : Int32} {v2 : Int32} {v3 : Int32} {v4 : Int64} {h : AH} {Q : Option Value → AH → Prop} : WpM 142 [.ref v0, .int v1, .int v2, .int v3, .long v4] h Q = Wp none 142 qM_item_0 [some (.ref v0), some (.int v1), some (.int v2), some (.int v3), some (.long v4), none, none] [] h Q := WpM_e (Nat.le_of_ble_eq_true rfl)
theorem eM_copy {v0 : Nat} {v1 : Int32} {v2 : Int32} {v3 : Int32} {v4 : Int32} {v5 : Int32} {h : AH} {Q : Option Value → AH → Prop} : WpM 143 [.ref v0, .int v1, .int v2, .int v3, .int v4, .int v5] h Q = Wp none 143 qM_copy_0 [some (.ref v0), some (.int v1), some (.int v2), some (.int v3), some (.int v4), some (.int v5), none] [] h Q := WpM_e (Nat.le_of_ble_eq_true rfl)
end
section
/-! THE OWN ABSTRACT MACHINE IS SOUND: a run of it is a walk of the machine (W), a method's run is its contract (Met). -/
abbrev GA : Type := (Nat → Nat) × ClassId × ClassId × ClassId × ClassId
def cv (ad : Nat → Nat) (v : Value) : Value := match v with
  | .ref i => .ref (ad i)
  | w => w
theorem cv_cat (ad : Nat → Nat) (v : Value) : (cv ad v).category = v.category := by cases v <;> rfl
def cnc (G : GA) (C : AC) : va_E := match C with
  | .inl (n, f) => .inl (G.2.1, n, .inl f)
  | .inr (.inl (n, f)) => .inl (G.2.2.1, n, .inr (.inl f))
  | .inr (.inr (.inl (n, f))) => .inl (G.2.2.2.1, n, .inl f)
  | .inr (.inr (.inr (.inl (n, f)))) => .inl (G.2.2.2.2, n, .inr (.inr (.inr (.inr (fun j => (f j).map G.1)))))
  | .inr (.inr (.inr (.inr (c, fs)))) => .inr (c, fs.map (cv G.1))
def wsA (G : GA) (h : AH) : va_W := (List.range 61).map (fun i => (G.1 i, cnc G (h i)))
def tyA (G : GA) : List (ClassId × FieldType) := [(G.2.1, .int), (G.2.2.1, .long), (G.2.2.2.1, .byte), (G.2.2.2.2, .object RX1)]
theorem wsA_at {G : GA} {h : AH} {i : Nat} (hi : i < 61) : (wsA G h)[i]? = some (G.1 i, cnc G (h i)) := by
  unfold wsA
  rw [List.getElem?_map, List.getElem?_range hi]
  rfl
theorem wsA_len {G : GA} {h : AH} : (wsA G h).length = 61 := by simp [wsA]
theorem wsA_set {G : GA} {h : AH} {i : Nat} {C : AC} (hi : i < 61) : (wsA G h).set i (G.1 i, cnc G C) = wsA G (uH h i C) := by
  apply List.ext_getElem?
  intro j
  by_cases hj : j < 61
  · rw [wsA_at hj, List.getElem?_set]
    by_cases hij : i = j
    · subst hij
      rw [if_pos rfl, if_pos (by rw [wsA_len]; exact hi), uH_s]
    · rw [if_neg hij, wsA_at hj, uH_n _ _ (fun q => hij q.symm)]
  · rw [List.getElem?_eq_none (by rw [List.length_set, wsA_len]; omega), List.getElem?_eq_none (by rw [wsA_len]; omega)]
def prs (ad : Nat → Nat) (lo : Lo) : List (Nat × Value) := (List.range lo.length).filterMap (fun i => match lo[i]? with
  | some (some v) => some (i, cv ad v)
  | _ => none)
theorem mem_prs {ad : Nat → Nat} {lo : Lo} {i : Nat} {w : Value} : (i, w) ∈ prs ad lo ↔ ∃ v, lo[i]? = some (some v) ∧ w = cv ad v := by
  unfold prs
  rw [List.mem_filterMap]
  constructor
  · rintro ⟨j, hj, hq⟩
    split at hq
    · rename_i v hv
      cases hq
      exact ⟨v, hv, rfl⟩
    · cases hq
  · rintro ⟨v, hv, rfl⟩
    have hlt : i < lo.length := (List.getElem?_eq_some_iff.mp hv).1
    exact ⟨i, List.mem_range.mpr hlt, by rw [hv]⟩
theorem kl_at {lo : Lo} {a j : Nat} {u : Value} (h : (kl lo a)[j]? = some (some u)) : lo[j]? = some (some u) ∧ ¬ (j + 1 = a ∧ u.category = 2) := by
  cases a with
  | zero => exact ⟨h, fun q => by omega⟩
  | succ a =>
    have hk : kl lo (a + 1) = (match lo[a]? with
      | some (some (.long _)) => lo.set a none
      | some (some (.double _)) => lo.set a none
      | _ => lo) := rfl
    rw [hk] at h
    generalize hla : lo[a]? = z at h
    rcases z with _ | _ | y
    · exact ⟨h, fun q => by have hj : j = a := by omega
                            subst hj; rw [hla] at h; cases h⟩
    · exact ⟨h, fun q => by have hj : j = a := by omega
                            subst hj; rw [hla] at h; cases h⟩
    · cases y
      case long x =>
        have h : (lo.set a none)[j]? = some (some u) := h
        by_cases hj : j = a
        · subst hj
          rw [List.getElem?_set] at h
          simp at h
        · rw [List.getElem?_set, if_neg (fun q => hj q.symm)] at h
          exact ⟨h, fun q => hj (by omega)⟩
      case double x =>
        have h : (lo.set a none)[j]? = some (some u) := h
        by_cases hj : j = a
        · subst hj
          rw [List.getElem?_set] at h
          simp at h
        · rw [List.getElem?_set, if_neg (fun q => hj q.symm)] at h
          exact ⟨h, fun q => hj (by omega)⟩
      all_goals
        refine ⟨h, fun q => ?_⟩
        obtain ⟨q1, q2⟩ := q
        have hj : j = a := by omega
        subst hj
        have h : lo[j]? = some (some u) := h
        rw [hla] at h
        cases h
        simp [Value.category] at q2
theorem lvs1 {ls : Array Slot} {nL a : Nat} {ad : Nat → Nat} {lo : Lo} {v : Value} (h : lv_has ls nL ((a, cv ad v) :: (prs ad lo).filter (fun q => !(q.1 == a) && !(q.1 + 1 == a && q.2.category == 2)))) : lv_has ls nL (prs ad (set1 lo a v)) := by
  refine ⟨h.1, h.2.1, ?_⟩
  rintro ⟨j, w⟩ hq
  refine h.2.2 (j, w) ?_
  obtain ⟨u, hu, rfl⟩ := mem_prs.mp hq
  unfold set1 at hu
  rw [List.getElem?_set] at hu
  by_cases hja : a = j
  · subst hja
    rw [if_pos rfl] at hu
    split at hu
    · cases hu; exact List.mem_cons_self
    · cases hu
  · rw [if_neg hja] at hu
    obtain ⟨h1, h2⟩ := kl_at hu
    refine List.mem_cons_of_mem _ (List.mem_filter.mpr ⟨mem_prs.mpr ⟨u, h1, rfl⟩, ?_⟩)
    simp only [cv_cat, Bool.and_eq_true, Bool.not_eq_true', beq_eq_false_iff_ne, ne_eq, Bool.and_eq_false_iff]
    refine ⟨fun q => hja q.symm, ?_⟩
    by_cases h3 : j + 1 = a
    · exact Or.inr (fun q => h2 ⟨h3, q⟩)
    · exact Or.inl h3
theorem lvs2 {ls : Array Slot} {nL a : Nat} {ad : Nat → Nat} {lo : Lo} {v : Value} (h : lv_has ls nL ((a, cv ad v) :: (prs ad lo).filter (fun q => !(q.1 == a) && (!(q.1 == a + 1) && !(q.1 + 1 == a && q.2.category == 2))))) : lv_has ls nL (prs ad (set2 lo a v)) := by
  refine ⟨h.1, h.2.1, ?_⟩
  rintro ⟨j, w⟩ hq
  refine h.2.2 (j, w) ?_
  obtain ⟨u, hu, rfl⟩ := mem_prs.mp hq
  unfold set2 at hu
  rw [List.getElem?_set] at hu
  by_cases hj1 : a + 1 = j
  · rw [if_pos hj1] at hu
    split at hu <;> cases hu
  · rw [if_neg hj1, List.getElem?_set] at hu
    by_cases hja : a = j
    · subst hja
      rw [if_pos rfl] at hu
      split at hu
      · cases hu; exact List.mem_cons_self
      · cases hu
    · rw [if_neg hja] at hu
      obtain ⟨h1, h2⟩ := kl_at hu
      refine List.mem_cons_of_mem _ (List.mem_filter.mpr ⟨mem_prs.mpr ⟨u, h1, rfl⟩, ?_⟩)
      simp only [cv_cat, Bool.and_eq_true, Bool.not_eq_true', beq_eq_false_iff_ne, ne_eq, Bool.and_eq_false_iff]
      refine ⟨fun q => hja q.symm, fun q => hj1 q.symm, ?_⟩
      by_cases h3 : j + 1 = a
      · exact Or.inr (fun q => h2 ⟨h3, q⟩)
      · exact Or.inl h3
def HJ (h : AH) : Prop := ∀ a, 61 ≤ a → h a = aO 99 []
theorem HJ_u {h : AH} {a : Nat} {C : AC} (hj : HJ h) (ha : a < 61) : HJ (uH h a C) := fun q hq => by rw [uH_n _ _ (by omega)]; exact hj q hq
def WD (D : va_G) (G : GA) (A : Nat → Prop) (H0 H : Heap) (locs : List Loc) (h : AH) : Prop := va_P D vwCl (wsA G h) H ∧ va_D A (wsA G h) ∧ va_S A H0 H locs ∧ HJ h
def CX (k : Nat) (X : SX) (G : GA) (D : va_G) (p : Program) (s : State) (m : MethodId) (args : Array Value) (c : Code) (R : Room) (A : Nat → Prop) (H0 : Heap) (cells slots : Nat) : Prop :=
  p.tables.exec = Jvm.exec ∧ c.code = byt k ∧ c.maxLocals = mxL k ∧ s.vm.findClass (clN (own k)) = some m.cls ∧ (∀ w ∈ GW, w.before args s = true) ∧ (∀ w ∈ NW, va_Nw w s) ∧ va_K D vwCl (tyA G) s ∧ (frm k ≤ R.frames ∧ lco k ≤ R.locals ∧ cells ≤ R.cells ∧ slots ≤ R.slots) ∧ (∀ q, H0.size ≤ q → A q) ∧ (∀ L xs, X = some (L, xs) → va_X (G.1 61) L xs s H0 ∧ G.1 61 < H0.size ∧ ¬ A (G.1 61))
/-- the pairs of a tableswitch -/
def tsw (pc : Nat) : Int → List Int → List (Int32 × Nat)
  | _, [] => []
  | lo, o :: os => (Int32.ofInt lo, ((pc : Int) + o).toNat) :: tsw pc (lo + 1) os
def putK (a b : Nat) (v : Value) : Bool := match vwCl[a]? with
  | some (_, T, _) => !(T b).2.2.2 && (match parseFieldDescriptor (T b).2.2.1, v with
    | some .int, .int z => z == 0
    | some .boolean, .int z => z == 1
    | some .long, .long _ => true
    | _, _ => false)
  | none => false
def cOp (k a b : Nat) (kd : Nat) : Bool := (match parseMethodDescriptor (nam a).desc with
  | some d => decide (d.parameters.length + (if kd = 0 then 1 else 0) = b)
  | none => false) && decide (frm a + 1 ≤ frm k ∧ 8 + (mxL a + 11) + lco a ≤ lco k)
def mOp (k pc ln op a b : Nat) (v : Value) (ts : List (Int32 × Nat)) (ins : Instr) : Bool := match ins with
  | .iconst n => decide (op = 0 ∧ v = .int (Int32.ofInt n) ∧ ln = 1)
  | .bipush n => decide (op = 0 ∧ v = .int (Int8.ofInt n).toInt32 ∧ ln = 2)
  | .sipush n => decide (op = 0 ∧ v = .int (Int16.ofInt n).toInt32 ∧ ln = 3)
  | .lconst n => decide (op = 0 ∧ v = .long (Int64.ofNat n) ∧ ln = 1)
  | .ldc2_w i => decide (op = 0 ∧ (own k, i, v) ∈ conT ∧ v.category = 2 ∧ ln = 3)
  | .ldc_w i => decide (op = 0 ∧ (own k, i, v) ∈ conT ∧ v.category = 1 ∧ ln = 3)
  | .iload_n n => decide (op = 1 ∧ a = (n : Nat) ∧ b = 0 ∧ ln = 1)
  | .iload i => decide (op = 1 ∧ a = i ∧ b = 0 ∧ ln = 2)
  | .lload_n n => decide (op = 1 ∧ a = (n : Nat) ∧ b = 1 ∧ ln = 1)
  | .lload i => decide (op = 1 ∧ a = i ∧ b = 1 ∧ ln = 2)
  | .aload_n n => decide (op = 1 ∧ a = (n : Nat) ∧ b = 2 ∧ ln = 1)
  | .aload i => decide (op = 1 ∧ a = i ∧ b = 2 ∧ ln = 2)
  | .istore_n n => decide (op = 2 ∧ a = (n : Nat) ∧ b = 0 ∧ ln = 1 ∧ a < mxL k)
  | .istore i => decide (op = 2 ∧ a = i ∧ b = 0 ∧ ln = 2 ∧ a < mxL k)
  | .astore_n n => decide (op = 2 ∧ a = (n : Nat) ∧ b = 2 ∧ ln = 1 ∧ a < mxL k)
  | .astore i => decide (op = 2 ∧ a = i ∧ b = 2 ∧ ln = 2 ∧ a < mxL k)
  | .lstore_n n => decide (op = 3 ∧ a = (n : Nat) ∧ ln = 1 ∧ a + 1 < mxL k)
  | .lstore i => decide (op = 3 ∧ a = i ∧ ln = 2 ∧ a + 1 < mxL k)
  | .iinc i n => decide (op = 4 ∧ a = i ∧ v = .int (Int32.ofInt n) ∧ ln = 3 ∧ a < mxL k)
  | .iadd => decide (op = 5 ∧ b = 0 ∧ ln = 1)
  | .isub => decide (op = 5 ∧ b = 1 ∧ ln = 1)
  | .imul => decide (op = 5 ∧ b = 2 ∧ ln = 1)
  | .iand => decide (op = 5 ∧ b = 3 ∧ ln = 1)
  | .ior => decide (op = 5 ∧ b = 4 ∧ ln = 1)
  | .ixor => decide (op = 5 ∧ b = 5 ∧ ln = 1)
  | .ishl => decide (op = 5 ∧ b = 6 ∧ ln = 1)
  | .ishr => decide (op = 5 ∧ b = 7 ∧ ln = 1)
  | .iushr => decide (op = 5 ∧ b = 8 ∧ ln = 1)
  | .idiv => decide (op = 6 ∧ b = 0 ∧ ln = 1)
  | .irem => decide (op = 6 ∧ b = 1 ∧ ln = 1)
  | .ladd => decide (op = 7 ∧ b = 0 ∧ ln = 1)
  | .lsub => decide (op = 7 ∧ b = 1 ∧ ln = 1)
  | .lmul => decide (op = 7 ∧ b = 2 ∧ ln = 1)
  | .land => decide (op = 7 ∧ b = 3 ∧ ln = 1)
  | .lor => decide (op = 7 ∧ b = 4 ∧ ln = 1)
  | .lxor => decide (op = 7 ∧ b = 5 ∧ ln = 1)
  | .ldiv => decide (op = 8 ∧ b = 0 ∧ ln = 1)
  | .lrem => decide (op = 8 ∧ b = 1 ∧ ln = 1)
  | .lshl => decide (op = 9 ∧ b = 0 ∧ ln = 1)
  | .lshr => decide (op = 9 ∧ b = 1 ∧ ln = 1)
  | .lushr => decide (op = 9 ∧ b = 2 ∧ ln = 1)
  | .ineg => decide (op = 10 ∧ b = 0 ∧ ln = 1)
  | .lneg => decide (op = 10 ∧ b = 1 ∧ ln = 1)
  | .i2l => decide (op = 10 ∧ b = 2 ∧ ln = 1)
  | .l2i => decide (op = 10 ∧ b = 3 ∧ ln = 1)
  | .i2b => decide (op = 10 ∧ b = 4 ∧ ln = 1)
  | .i2s => decide (op = 10 ∧ b = 5 ∧ ln = 1)
  | .lcmp => decide (op = 11 ∧ ln = 1)
  | .ifCond .eq off => decide (op = 12 ∧ b = 0 ∧ ln = 3 ∧ (pc : Int) + off = (a : Int))
  | .ifCond .ne off => decide (op = 12 ∧ b = 1 ∧ ln = 3 ∧ (pc : Int) + off = (a : Int))
  | .ifCond .lt off => decide (op = 12 ∧ b = 2 ∧ ln = 3 ∧ (pc : Int) + off = (a : Int))
  | .ifCond .ge off => decide (op = 12 ∧ b = 3 ∧ ln = 3 ∧ (pc : Int) + off = (a : Int))
  | .ifCond .gt off => decide (op = 12 ∧ b = 4 ∧ ln = 3 ∧ (pc : Int) + off = (a : Int))
  | .ifCond .le off => decide (op = 12 ∧ b = 5 ∧ ln = 3 ∧ (pc : Int) + off = (a : Int))
  | .if_icmp .eq off => decide (op = 13 ∧ b = 0 ∧ ln = 3 ∧ (pc : Int) + off = (a : Int))
  | .if_icmp .ne off => decide (op = 13 ∧ b = 1 ∧ ln = 3 ∧ (pc : Int) + off = (a : Int))
  | .if_icmp .lt off => decide (op = 13 ∧ b = 2 ∧ ln = 3 ∧ (pc : Int) + off = (a : Int))
  | .if_icmp .ge off => decide (op = 13 ∧ b = 3 ∧ ln = 3 ∧ (pc : Int) + off = (a : Int))
  | .if_icmp .gt off => decide (op = 13 ∧ b = 4 ∧ ln = 3 ∧ (pc : Int) + off = (a : Int))
  | .if_icmp .le off => decide (op = 13 ∧ b = 5 ∧ ln = 3 ∧ (pc : Int) + off = (a : Int))
  | .goto off => decide (op = 14 ∧ ln = 3 ∧ (pc : Int) + off = (a : Int))
  | .dup => decide (op = 15 ∧ ln = 1)
  | .pop => decide (op = 16 ∧ ln = 1)
  | .dup2 => decide (op = 17 ∧ ln = 1)
  | .getfield i => decide (op = 18 ∧ (own k, i, a, b) ∈ fldT ∧ ln = 3)
  | .putfield i => decide (op = 19 ∧ (own k, i, a, b) ∈ fldT ∧ putK a b v = true ∧ ln = 3)
  | .iaload => decide (op = 20 ∧ ln = 1)
  | .laload => decide (op = 21 ∧ ln = 1)
  | .baload => decide (op = 22 ∧ ln = 1)
  | .aaload => decide (op = 23 ∧ ln = 1)
  | .iastore => decide (op = 24 ∧ ln = 1)
  | .lastore => decide (op = 25 ∧ ln = 1)
  | .bastore => decide (op = 26 ∧ ln = 1)
  | .arraylength => decide (op = 27 ∧ ln = 1)
  | .invokevirtual i => decide (op = 37 ∧ (own k, i, a, 0) ∈ metT ∧ cOp k a b 0 = true ∧ ln = 3 ∧ ts = [(0, own a)])
  | .invokestatic i => decide (op = 28 ∧ ((own k, i, a, 1) ∈ metT ∨ (own k, i, a, 2) ∈ metT) ∧ cOp k a b 1 = true ∧ ln = 3) || (decide (op = 29 ∧ (own k, i, 999, 3) ∈ metT ∧ 1 ≤ frm k ∧ 18 ≤ lco k ∧ ln = 3) || (decide (op = 34 ∧ (own k, i, 999, 4) ∈ metT ∧ 1 ≤ frm k ∧ 21 ≤ lco k ∧ ln = 3) || (decide (op = 35 ∧ (own k, i, 999, 5) ∈ metT ∧ 1 ≤ frm k ∧ 21 ≤ lco k ∧ ln = 3) || decide (op = 36 ∧ (own k, i, 999, 6) ∈ metT ∧ 1 ≤ frm k ∧ 21 ≤ lco k ∧ ln = 3))))
  | .ireturn => decide (op = 30 ∧ ((b = 0 ∧ rett k = some .int) ∨ (b = 1 ∧ rett k = some .boolean)) ∧ ln = 1)
  | .lreturn => decide (op = 31 ∧ rett k = some .long ∧ ln = 1)
  | .return_ => decide (op = 32 ∧ rett k = none ∧ ln = 1)
  | .tableswitch d lo hi offs => decide (op = 33 ∧ (pc : Int) + d = (a : Int) ∧ ts = tsw pc lo offs.toList ∧ hi = lo + offs.size - 1 ∧ -2147483648 ≤ lo ∧ hi < 2147483648 ∧ (∀ x ∈ offs.toList, 0 ≤ (pc : Int) + x))
  | .lookupswitch d ps => decide (op = 33 ∧ (pc : Int) + d = (a : Int) ∧ ts = ps.toList.map (fun q => (Int32.ofInt q.1, ((pc : Int) + q.2).toNat)) ∧ (ps.toList.zip (ps.toList.drop 1)).all (fun (a, next) => a.1 < next.1) = true ∧ (∀ q ∈ ps.toList, 0 ≤ (pc : Int) + q.2 ∧ -2147483648 ≤ q.1 ∧ q.1 < 2147483648))
  | _ => false
def okE (k : Nat) (e : CE) : Bool := match decode (byt k) e.1 with
  | .ok (ins, ln) => (ln == e.2.1) && mOp k e.1 e.2.1 e.2.2.1 e.2.2.2.1 e.2.2.2.2.1 e.2.2.2.2.2.1 e.2.2.2.2.2.2 ins
  | .error _ => false
def okC (k : Nat) : Nat → List CE → Bool
  | _, [] => true
  | pc, e :: c => (e.1 == pc) && okE k e && okC k (pc + e.2.1) c
end
section
/-! each block of the code tables is what the class files decode to -/
theorem ok_0 : jt_0.all (fun q => okC 0 q.1 q.2) = true := by decide +kernel
theorem ok_1 : jt_1.all (fun q => okC 1 q.1 q.2) = true := by decide +kernel
theorem ok_2 : jt_2.all (fun q => okC 2 q.1 q.2) = true := by decide +kernel
theorem ok_3 : jt_3.all (fun q => okC 3 q.1 q.2) = true := by decide +kernel
theorem ok_4 : jt_4.all (fun q => okC 4 q.1 q.2) = true := by decide +kernel
theorem ok_5 : jt_5.all (fun q => okC 5 q.1 q.2) = true := by decide +kernel
theorem ok_6 : jt_6.all (fun q => okC 6 q.1 q.2) = true := by decide +kernel
theorem ok_7 : jt_7.all (fun q => okC 7 q.1 q.2) = true := by decide +kernel
theorem ok_8 : jt_8.all (fun q => okC 8 q.1 q.2) = true := by decide +kernel
theorem ok_9 : jt_9.all (fun q => okC 9 q.1 q.2) = true := by decide +kernel
theorem ok_10 : jt_10.all (fun q => okC 10 q.1 q.2) = true := by decide +kernel
theorem ok_11 : jt_11.all (fun q => okC 11 q.1 q.2) = true := by decide +kernel
theorem ok_12 : jt_12.all (fun q => okC 12 q.1 q.2) = true := by decide +kernel
theorem ok_13 : jt_13.all (fun q => okC 13 q.1 q.2) = true := by decide +kernel
theorem ok_14 : jt_14.all (fun q => okC 14 q.1 q.2) = true := by decide +kernel
theorem ok_15 : jt_15.all (fun q => okC 15 q.1 q.2) = true := by decide +kernel
theorem ok_16 : jt_16.all (fun q => okC 16 q.1 q.2) = true := by decide +kernel
theorem ok_17 : jt_17.all (fun q => okC 17 q.1 q.2) = true := by decide +kernel
theorem ok_18 : jt_18.all (fun q => okC 18 q.1 q.2) = true := by decide +kernel
theorem ok_19 : jt_19.all (fun q => okC 19 q.1 q.2) = true := by decide +kernel
theorem ok_20 : jt_20.all (fun q => okC 20 q.1 q.2) = true := by decide +kernel
theorem ok_21 : jt_21.all (fun q => okC 21 q.1 q.2) = true := by decide +kernel
theorem ok_22 : jt_22.all (fun q => okC 22 q.1 q.2) = true := by decide +kernel
theorem ok_23 : jt_23.all (fun q => okC 23 q.1 q.2) = true := by decide +kernel
theorem ok_24 : jt_24.all (fun q => okC 24 q.1 q.2) = true := by decide +kernel
theorem ok_25 : jt_25.all (fun q => okC 25 q.1 q.2) = true := by decide +kernel
theorem ok_26 : jt_26.all (fun q => okC 26 q.1 q.2) = true := by decide +kernel
theorem ok_27 : jt_27.all (fun q => okC 27 q.1 q.2) = true := by decide +kernel
theorem ok_28 : jt_28.all (fun q => okC 28 q.1 q.2) = true := by decide +kernel
theorem ok_29 : jt_29.all (fun q => okC 29 q.1 q.2) = true := by decide +kernel
theorem ok_30 : jt_30.all (fun q => okC 30 q.1 q.2) = true := by decide +kernel
theorem ok_31 : jt_31.all (fun q => okC 31 q.1 q.2) = true := by decide +kernel
theorem ok_32 : jt_32.all (fun q => okC 32 q.1 q.2) = true := by decide +kernel
theorem ok_33 : jt_33.all (fun q => okC 33 q.1 q.2) = true := by decide +kernel
theorem ok_34 : jt_34.all (fun q => okC 34 q.1 q.2) = true := by decide +kernel
theorem ok_35 : jt_35.all (fun q => okC 35 q.1 q.2) = true := by decide +kernel
theorem ok_36 : jt_36.all (fun q => okC 36 q.1 q.2) = true := by decide +kernel
theorem ok_37 : jt_37.all (fun q => okC 37 q.1 q.2) = true := by decide +kernel
theorem ok_38 : jt_38.all (fun q => okC 38 q.1 q.2) = true := by decide +kernel
theorem ok_39 : jt_39.all (fun q => okC 39 q.1 q.2) = true := by decide +kernel
theorem ok_40 : jt_40.all (fun q => okC 40 q.1 q.2) = true := by decide +kernel
theorem ok_41 : jt_41.all (fun q => okC 41 q.1 q.2) = true := by decide +kernel
theorem ok_42 : jt_42.all (fun q => okC 42 q.1 q.2) = true := by decide +kernel
theorem ok_43 : jt_43.all (fun q => okC 43 q.1 q.2) = true := by decide +kernel
theorem ok_44 : jt_44.all (fun q => okC 44 q.1 q.2) = true := by decide +kernel
theorem ok_45 : jt_45.all (fun q => okC 45 q.1 q.2) = true := by decide +kernel
theorem ok_46 : jt_46.all (fun q => okC 46 q.1 q.2) = true := by decide +kernel
theorem ok_47 : jt_47.all (fun q => okC 47 q.1 q.2) = true := by decide +kernel
theorem ok_48 : jt_48.all (fun q => okC 48 q.1 q.2) = true := by decide +kernel
theorem ok_49 : jt_49.all (fun q => okC 49 q.1 q.2) = true := by decide +kernel
theorem ok_50 : jt_50.all (fun q => okC 50 q.1 q.2) = true := by decide +kernel
theorem ok_51 : jt_51.all (fun q => okC 51 q.1 q.2) = true := by decide +kernel
theorem ok_52 : jt_52.all (fun q => okC 52 q.1 q.2) = true := by decide +kernel
theorem ok_53 : jt_53.all (fun q => okC 53 q.1 q.2) = true := by decide +kernel
theorem ok_54 : jt_54.all (fun q => okC 54 q.1 q.2) = true := by decide +kernel
theorem ok_55 : jt_55.all (fun q => okC 55 q.1 q.2) = true := by decide +kernel
theorem ok_56 : jt_56.all (fun q => okC 56 q.1 q.2) = true := by decide +kernel
theorem ok_57 : jt_57.all (fun q => okC 57 q.1 q.2) = true := by decide +kernel
theorem ok_58 : jt_58.all (fun q => okC 58 q.1 q.2) = true := by decide +kernel
theorem ok_59 : jt_59.all (fun q => okC 59 q.1 q.2) = true := by decide +kernel
theorem ok_60 : jt_60.all (fun q => okC 60 q.1 q.2) = true := by decide +kernel
theorem ok_61 : jt_61.all (fun q => okC 61 q.1 q.2) = true := by decide +kernel
theorem ok_62 : jt_62.all (fun q => okC 62 q.1 q.2) = true := by decide +kernel
theorem ok_63 : jt_63.all (fun q => okC 63 q.1 q.2) = true := by decide +kernel
theorem ok_64 : jt_64.all (fun q => okC 64 q.1 q.2) = true := by decide +kernel
theorem ok_65 : jt_65.all (fun q => okC 65 q.1 q.2) = true := by decide +kernel
theorem ok_66 : jt_66.all (fun q => okC 66 q.1 q.2) = true := by decide +kernel
theorem ok_67 : jt_67.all (fun q => okC 67 q.1 q.2) = true := by decide +kernel
theorem ok_68 : jt_68.all (fun q => okC 68 q.1 q.2) = true := by decide +kernel
theorem ok_69 : jt_69.all (fun q => okC 69 q.1 q.2) = true := by decide +kernel
theorem ok_70 : jt_70.all (fun q => okC 70 q.1 q.2) = true := by decide +kernel
theorem ok_71 : jt_71.all (fun q => okC 71 q.1 q.2) = true := by decide +kernel
theorem ok_72 : jt_72.all (fun q => okC 72 q.1 q.2) = true := by decide +kernel
theorem ok_73 : jt_73.all (fun q => okC 73 q.1 q.2) = true := by decide +kernel
theorem ok_74 : jt_74.all (fun q => okC 74 q.1 q.2) = true := by decide +kernel
theorem ok_75 : jt_75.all (fun q => okC 75 q.1 q.2) = true := by decide +kernel
theorem ok_76 : jt_76.all (fun q => okC 76 q.1 q.2) = true := by decide +kernel
theorem ok_77 : jt_77.all (fun q => okC 77 q.1 q.2) = true := by decide +kernel
theorem ok_78 : jt_78.all (fun q => okC 78 q.1 q.2) = true := by decide +kernel
theorem ok_79 : jt_79.all (fun q => okC 79 q.1 q.2) = true := by decide +kernel
theorem ok_80 : jt_80.all (fun q => okC 80 q.1 q.2) = true := by decide +kernel
theorem ok_81 : jt_81.all (fun q => okC 81 q.1 q.2) = true := by decide +kernel
theorem ok_82 : jt_82.all (fun q => okC 82 q.1 q.2) = true := by decide +kernel
theorem ok_83 : jt_83.all (fun q => okC 83 q.1 q.2) = true := by decide +kernel
theorem ok_84 : jt_84.all (fun q => okC 84 q.1 q.2) = true := by decide +kernel
theorem ok_85 : jt_85.all (fun q => okC 85 q.1 q.2) = true := by decide +kernel
theorem ok_86 : jt_86.all (fun q => okC 86 q.1 q.2) = true := by decide +kernel
theorem ok_87 : jt_87.all (fun q => okC 87 q.1 q.2) = true := by decide +kernel
theorem ok_88 : jt_88.all (fun q => okC 88 q.1 q.2) = true := by decide +kernel
theorem ok_89 : jt_89.all (fun q => okC 89 q.1 q.2) = true := by decide +kernel
theorem ok_90 : jt_90.all (fun q => okC 90 q.1 q.2) = true := by decide +kernel
theorem ok_91 : jt_91.all (fun q => okC 91 q.1 q.2) = true := by decide +kernel
theorem ok_92 : jt_92.all (fun q => okC 92 q.1 q.2) = true := by decide +kernel
theorem ok_93 : jt_93.all (fun q => okC 93 q.1 q.2) = true := by decide +kernel
theorem ok_94 : jt_94.all (fun q => okC 94 q.1 q.2) = true := by decide +kernel
theorem ok_95 : jt_95.all (fun q => okC 95 q.1 q.2) = true := by decide +kernel
theorem ok_96 : jt_96.all (fun q => okC 96 q.1 q.2) = true := by decide +kernel
theorem ok_97 : jt_97.all (fun q => okC 97 q.1 q.2) = true := by decide +kernel
theorem ok_98 : jt_98.all (fun q => okC 98 q.1 q.2) = true := by decide +kernel
theorem ok_99 : jt_99.all (fun q => okC 99 q.1 q.2) = true := by decide +kernel
theorem ok_100 : jt_100.all (fun q => okC 100 q.1 q.2) = true := by decide +kernel
theorem ok_101 : jt_101.all (fun q => okC 101 q.1 q.2) = true := by decide +kernel
theorem ok_102 : jt_102.all (fun q => okC 102 q.1 q.2) = true := by decide +kernel
theorem ok_103 : jt_103.all (fun q => okC 103 q.1 q.2) = true := by decide +kernel
theorem ok_104 : jt_104.all (fun q => okC 104 q.1 q.2) = true := by decide +kernel
theorem ok_105 : jt_105.all (fun q => okC 105 q.1 q.2) = true := by decide +kernel
theorem ok_106 : jt_106.all (fun q => okC 106 q.1 q.2) = true := by decide +kernel
theorem ok_107 : jt_107.all (fun q => okC 107 q.1 q.2) = true := by decide +kernel
theorem ok_108 : jt_108.all (fun q => okC 108 q.1 q.2) = true := by decide +kernel
theorem ok_109 : jt_109.all (fun q => okC 109 q.1 q.2) = true := by decide +kernel
theorem ok_110 : jt_110.all (fun q => okC 110 q.1 q.2) = true := by decide +kernel
theorem ok_111 : jt_111.all (fun q => okC 111 q.1 q.2) = true := by decide +kernel
theorem ok_112 : jt_112.all (fun q => okC 112 q.1 q.2) = true := by decide +kernel
theorem ok_113 : jt_113.all (fun q => okC 113 q.1 q.2) = true := by decide +kernel
theorem ok_114 : jt_114.all (fun q => okC 114 q.1 q.2) = true := by decide +kernel
theorem ok_115 : jt_115.all (fun q => okC 115 q.1 q.2) = true := by decide +kernel
theorem ok_116 : jt_116.all (fun q => okC 116 q.1 q.2) = true := by decide +kernel
theorem ok_117 : jt_117.all (fun q => okC 117 q.1 q.2) = true := by decide +kernel
theorem ok_118 : jt_118.all (fun q => okC 118 q.1 q.2) = true := by decide +kernel
theorem ok_119 : jt_119.all (fun q => okC 119 q.1 q.2) = true := by decide +kernel
theorem ok_120 : jt_120.all (fun q => okC 120 q.1 q.2) = true := by decide +kernel
theorem ok_121 : jt_121.all (fun q => okC 121 q.1 q.2) = true := by decide +kernel
theorem ok_122 : jt_122.all (fun q => okC 122 q.1 q.2) = true := by decide +kernel
theorem ok_123 : jt_123.all (fun q => okC 123 q.1 q.2) = true := by decide +kernel
theorem ok_124 : jt_124.all (fun q => okC 124 q.1 q.2) = true := by decide +kernel
theorem ok_125 : jt_125.all (fun q => okC 125 q.1 q.2) = true := by decide +kernel
theorem ok_126 : jt_126.all (fun q => okC 126 q.1 q.2) = true := by decide +kernel
theorem ok_127 : jt_127.all (fun q => okC 127 q.1 q.2) = true := by decide +kernel
theorem ok_128 : jt_128.all (fun q => okC 128 q.1 q.2) = true := by decide +kernel
theorem ok_129 : jt_129.all (fun q => okC 129 q.1 q.2) = true := by decide +kernel
theorem ok_130 : jt_130.all (fun q => okC 130 q.1 q.2) = true := by decide +kernel
theorem ok_131 : jt_131.all (fun q => okC 131 q.1 q.2) = true := by decide +kernel
theorem ok_132 : jt_132.all (fun q => okC 132 q.1 q.2) = true := by decide +kernel
theorem ok_133 : jt_133.all (fun q => okC 133 q.1 q.2) = true := by decide +kernel
theorem ok_134 : jt_134.all (fun q => okC 134 q.1 q.2) = true := by decide +kernel
theorem ok_135 : jt_135.all (fun q => okC 135 q.1 q.2) = true := by decide +kernel
theorem ok_136 : jt_136.all (fun q => okC 136 q.1 q.2) = true := by decide +kernel
theorem ok_137 : jt_137.all (fun q => okC 137 q.1 q.2) = true := by decide +kernel
theorem ok_138 : jt_138.all (fun q => okC 138 q.1 q.2) = true := by decide +kernel
theorem ok_139 : jt_139.all (fun q => okC 139 q.1 q.2) = true := by decide +kernel
theorem ok_140 : jt_140.all (fun q => okC 140 q.1 q.2) = true := by decide +kernel
theorem ok_141 : jt_141.all (fun q => okC 141 q.1 q.2) = true := by decide +kernel
theorem ok_142 : jt_142.all (fun q => okC 142 q.1 q.2) = true := by decide +kernel
theorem ok_143 : jt_143.all (fun q => okC 143 q.1 q.2) = true := by decide +kernel
theorem okL {k t : Nat} : ∀ (l : List (Nat × List CE)), l.all (fun q => okC k q.1 q.2) = true → okC k t ((l.lookup t).getD []) = true := by
  intro l
  induction l with
  | nil => intro _; rfl
  | cons q l ih =>
    intro h
    rw [List.all_cons, Bool.and_eq_true] at h
    obtain ⟨t0, c⟩ := q
    rw [List.lookup_cons]
    by_cases ht : t = t0
    · subst ht
      simp only [beq_self_eq_true, if_true]
      exact h.1
    · have hb : (t == t0) = false := beq_eq_false_iff_ne.mpr ht
      rw [hb]
      exact ih h.2
end
section
/-! the same of the law -/
theorem okl_18 : okC 144 18 qL_law_18 = true := by decide +kernel
theorem okl_160 : okC 144 160 qL_law_160 = true := by decide +kernel
theorem okl_193 : okC 144 193 qL_law_193 = true := by decide +kernel
theorem okl_236 : okC 144 236 qL_law_236 = true := by decide +kernel
theorem okl_269 : okC 144 269 qL_law_269 = true := by decide +kernel
theorem okl_312 : okC 144 312 qL_law_312 = true := by decide +kernel
theorem okl_335 : okC 144 335 qL_law_335 = true := by decide +kernel
theorem okl_368 : okC 144 368 qL_law_368 = true := by decide +kernel
theorem okl_431 : okC 144 431 qL_law_431 = true := by decide +kernel
theorem okl_444 : okC 144 444 qL_law_444 = true := by decide +kernel
theorem okl_467 : okC 144 467 qL_law_467 = true := by decide +kernel
theorem okl_501 : okC 144 501 qL_law_501 = true := by decide +kernel
theorem okl_545 : okC 144 545 qL_law_545 = true := by decide +kernel
theorem okl_579 : okC 144 579 qL_law_579 = true := by decide +kernel
theorem okl_643 : okC 144 643 qL_law_643 = true := by decide +kernel
theorem okl_687 : okC 144 687 qL_law_687 = true := by decide +kernel
theorem okl_700 : okC 144 700 qL_law_700 = true := by decide +kernel
theorem okl_723 : okC 144 723 qL_law_723 = true := by decide +kernel
theorem okl_757 : okC 144 757 qL_law_757 = true := by decide +kernel
theorem okl_780 : okC 144 780 qL_law_780 = true := by decide +kernel
theorem okl_823 : okC 144 823 qL_law_823 = true := by decide +kernel
theorem okl_866 : okC 144 866 qL_law_866 = true := by decide +kernel
theorem okl_879 : okC 144 879 qL_law_879 = true := by decide +kernel
theorem okl_892 : okC 144 892 qL_law_892 = true := by decide +kernel
theorem okl_935 : okC 144 935 qL_law_935 = true := by decide +kernel
theorem okl_978 : okC 144 978 qL_law_978 = true := by decide +kernel
theorem okl_1021 : okC 144 1021 qL_law_1021 = true := by decide +kernel
theorem okl_1044 : okC 144 1044 qL_law_1044 = true := by decide +kernel
theorem okl_1127 : okC 144 1127 qL_law_1127 = true := by decide +kernel
theorem okl_1190 : okC 144 1190 qL_law_1190 = true := by decide +kernel
theorem okl_1196 : okC 144 1196 qL_law_1196 = true := by decide +kernel
theorem ok_144 : jt_144.all (fun q => okC 144 q.1 q.2) = true := by
  unfold jt_144
  simp only [List.all_cons, List.all_nil, okl_18, okl_160, okl_193, okl_236, okl_269, okl_312, okl_335, okl_368, okl_431, okl_444, okl_467, okl_501, okl_545, okl_579, okl_643, okl_687, okl_700, okl_723, okl_757, okl_780, okl_823, okl_866, okl_879, okl_892, okl_935, okl_978, okl_1021, okl_1044, okl_1127, okl_1190, okl_1196, Bool.and_self]
theorem okJ : ∀ k t, okC k t (J k t) = true := by
  intro k t
  unfold J
  match k with
  | 0 => exact okL jt_0 ok_0
  | 1 => exact okL jt_1 ok_1
  | 2 => exact okL jt_2 ok_2
  | 3 => exact okL jt_3 ok_3
  | 4 => exact okL jt_4 ok_4
  | 5 => exact okL jt_5 ok_5
  | 6 => exact okL jt_6 ok_6
  | 7 => exact okL jt_7 ok_7
  | 8 => exact okL jt_8 ok_8
  | 9 => exact okL jt_9 ok_9
  | 10 => exact okL jt_10 ok_10
  | 11 => exact okL jt_11 ok_11
  | 12 => exact okL jt_12 ok_12
  | 13 => exact okL jt_13 ok_13
  | 14 => exact okL jt_14 ok_14
  | 15 => exact okL jt_15 ok_15
  | 16 => exact okL jt_16 ok_16
  | 17 => exact okL jt_17 ok_17
  | 18 => exact okL jt_18 ok_18
  | 19 => exact okL jt_19 ok_19
  | 20 => exact okL jt_20 ok_20
  | 21 => exact okL jt_21 ok_21
  | 22 => exact okL jt_22 ok_22
  | 23 => exact okL jt_23 ok_23
  | 24 => exact okL jt_24 ok_24
  | 25 => exact okL jt_25 ok_25
  | 26 => exact okL jt_26 ok_26
  | 27 => exact okL jt_27 ok_27
  | 28 => exact okL jt_28 ok_28
  | 29 => exact okL jt_29 ok_29
  | 30 => exact okL jt_30 ok_30
  | 31 => exact okL jt_31 ok_31
  | 32 => exact okL jt_32 ok_32
  | 33 => exact okL jt_33 ok_33
  | 34 => exact okL jt_34 ok_34
  | 35 => exact okL jt_35 ok_35
  | 36 => exact okL jt_36 ok_36
  | 37 => exact okL jt_37 ok_37
  | 38 => exact okL jt_38 ok_38
  | 39 => exact okL jt_39 ok_39
  | 40 => exact okL jt_40 ok_40
  | 41 => exact okL jt_41 ok_41
  | 42 => exact okL jt_42 ok_42
  | 43 => exact okL jt_43 ok_43
  | 44 => exact okL jt_44 ok_44
  | 45 => exact okL jt_45 ok_45
  | 46 => exact okL jt_46 ok_46
  | 47 => exact okL jt_47 ok_47
  | 48 => exact okL jt_48 ok_48
  | 49 => exact okL jt_49 ok_49
  | 50 => exact okL jt_50 ok_50
  | 51 => exact okL jt_51 ok_51
  | 52 => exact okL jt_52 ok_52
  | 53 => exact okL jt_53 ok_53
  | 54 => exact okL jt_54 ok_54
  | 55 => exact okL jt_55 ok_55
  | 56 => exact okL jt_56 ok_56
  | 57 => exact okL jt_57 ok_57
  | 58 => exact okL jt_58 ok_58
  | 59 => exact okL jt_59 ok_59
  | 60 => exact okL jt_60 ok_60
  | 61 => exact okL jt_61 ok_61
  | 62 => exact okL jt_62 ok_62
  | 63 => exact okL jt_63 ok_63
  | 64 => exact okL jt_64 ok_64
  | 65 => exact okL jt_65 ok_65
  | 66 => exact okL jt_66 ok_66
  | 67 => exact okL jt_67 ok_67
  | 68 => exact okL jt_68 ok_68
  | 69 => exact okL jt_69 ok_69
  | 70 => exact okL jt_70 ok_70
  | 71 => exact okL jt_71 ok_71
  | 72 => exact okL jt_72 ok_72
  | 73 => exact okL jt_73 ok_73
  | 74 => exact okL jt_74 ok_74
  | 75 => exact okL jt_75 ok_75
  | 76 => exact okL jt_76 ok_76
  | 77 => exact okL jt_77 ok_77
  | 78 => exact okL jt_78 ok_78
  | 79 => exact okL jt_79 ok_79
  | 80 => exact okL jt_80 ok_80
  | 81 => exact okL jt_81 ok_81
  | 82 => exact okL jt_82 ok_82
  | 83 => exact okL jt_83 ok_83
  | 84 => exact okL jt_84 ok_84
  | 85 => exact okL jt_85 ok_85
  | 86 => exact okL jt_86 ok_86
  | 87 => exact okL jt_87 ok_87
  | 88 => exact okL jt_88 ok_88
  | 89 => exact okL jt_89 ok_89
  | 90 => exact okL jt_90 ok_90
  | 91 => exact okL jt_91 ok_91
  | 92 => exact okL jt_92 ok_92
  | 93 => exact okL jt_93 ok_93
  | 94 => exact okL jt_94 ok_94
  | 95 => exact okL jt_95 ok_95
  | 96 => exact okL jt_96 ok_96
  | 97 => exact okL jt_97 ok_97
  | 98 => exact okL jt_98 ok_98
  | 99 => exact okL jt_99 ok_99
  | 100 => exact okL jt_100 ok_100
  | 101 => exact okL jt_101 ok_101
  | 102 => exact okL jt_102 ok_102
  | 103 => exact okL jt_103 ok_103
  | 104 => exact okL jt_104 ok_104
  | 105 => exact okL jt_105 ok_105
  | 106 => exact okL jt_106 ok_106
  | 107 => exact okL jt_107 ok_107
  | 108 => exact okL jt_108 ok_108
  | 109 => exact okL jt_109 ok_109
  | 110 => exact okL jt_110 ok_110
  | 111 => exact okL jt_111 ok_111
  | 112 => exact okL jt_112 ok_112
  | 113 => exact okL jt_113 ok_113
  | 114 => exact okL jt_114 ok_114
  | 115 => exact okL jt_115 ok_115
  | 116 => exact okL jt_116 ok_116
  | 117 => exact okL jt_117 ok_117
  | 118 => exact okL jt_118 ok_118
  | 119 => exact okL jt_119 ok_119
  | 120 => exact okL jt_120 ok_120
  | 121 => exact okL jt_121 ok_121
  | 122 => exact okL jt_122 ok_122
  | 123 => exact okL jt_123 ok_123
  | 124 => exact okL jt_124 ok_124
  | 125 => exact okL jt_125 ok_125
  | 126 => exact okL jt_126 ok_126
  | 127 => exact okL jt_127 ok_127
  | 128 => exact okL jt_128 ok_128
  | 129 => exact okL jt_129 ok_129
  | 130 => exact okL jt_130 ok_130
  | 131 => exact okL jt_131 ok_131
  | 132 => exact okL jt_132 ok_132
  | 133 => exact okL jt_133 ok_133
  | 134 => exact okL jt_134 ok_134
  | 135 => exact okL jt_135 ok_135
  | 136 => exact okL jt_136 ok_136
  | 137 => exact okL jt_137 ok_137
  | 138 => exact okL jt_138 ok_138
  | 139 => exact okL jt_139 ok_139
  | 140 => exact okL jt_140 ok_140
  | 141 => exact okL jt_141 ok_141
  | 142 => exact okL jt_142 ok_142
  | 143 => exact okL jt_143 ok_143
  | 144 => exact okL jt_144 ok_144
  | n + 145 => rw [show jt.getD (n + 145) [] = [] from by rw [List.getD_eq_getElem?_getD, List.getElem?_eq_none (show jt.length ≤ n + 145 from Nat.le_add_left 145 n)]; rfl]; rfl
end
section
/-! a step of the own machine is a step of the machine -/
def nxt (e : CE) (j : Option Nat) : Nat := match j with
  | none => e.1 + e.2.1
  | some t => t
theorem gf_inv {h : AH} {q a b : Nat} {w : Value} (hg : gf h q a b = some w) : ∃ fs, h q = aO a fs ∧ fs[b]? = some w := by
  unfold gf at hg
  split at hg
  · rename_i c fs hq
    split at hg
    · rename_i hc
      subst hc
      exact ⟨fs, hq, hg⟩
    · cases hg
  · cases hg
theorem pf_inv {h h' : AH} {q a b : Nat} {w : Value} (hg : pf h q a b w = some h') : ∃ fs, h q = aO a fs ∧ b < fs.length ∧ h' = uH h q (aO a (fs.set b w)) := by
  unfold pf at hg
  split at hg
  · rename_i c fs hq
    split at hg
    · rename_i hc
      obtain ⟨hc, hb⟩ := hc
      subst hc
      cases hg
      exact ⟨fs, hq, hb, rfl⟩
    · cases hg
  · cases hg
theorem lt61 {h : AH} (hj : HJ h) {q : Nat} {C : AC} (hq : h q = C) (hC : C ≠ aO 99 []) : q < 61 := by
  rcases Nat.lt_or_ge q 61 with h1 | h1
  · exact h1
  · exact absurd (hq.symm.trans (hj q h1)) hC
theorem WD_put {D : va_G} {G : GA} {A : Nat → Prop} {H0 H1 : Heap} {locs1 : List Loc} {h : AH} {q : Nat} {C : AC} (hj : HJ h) (hq : q < 61) (hP : va_P D vwCl ((wsA G h).set q (G.1 q, cnc G C)) H1) (hD : va_D A ((wsA G h).set q (G.1 q, cnc G C))) (hS : va_S A H0 H1 locs1) : WD D G A H0 H1 locs1 (uH h q C) := by
  rw [wsA_set hq] at hP hD
  exact ⟨hP, hD, hS, HJ_u hj hq⟩
theorem fld_of {k i a b : Nat} (h : (k, i, a, b) ∈ fldT) : ∃ (C : String) (T : u_T) (N : Nat), vwCl[a]? = some (C, T, N) ∧ b < N ∧ Cond.fieldLink (clN k) i (T b).1 (T b).2.1 (T b).2.2.1 ∈ GW ∧ ∀ w ∈ u_ws C T N, w ∈ GW := by
  have h1 := List.all_eq_true.mp fldOK _ h
  unfold FOKb at h1
  split at h1
  · rename_i C T N hv
    rw [Bool.and_eq_true] at h1
    refine ⟨C, T, N, hv, of_decide_eq_true h1.1, gw_of (of_decide_eq_true h1.2) rfl, fun w hw => ?_⟩
    have h2 := List.all_eq_true.mp inAll _ (List.mem_of_getElem? hv)
    have h3 := List.all_eq_true.mp h2 w hw
    rw [Bool.and_eq_true] at h3
    exact gw_of (of_decide_eq_true h3.1) h3.2
  · cases h1
theorem vw_ty {a : Nat} {C : String} {T : u_T} {N : Nat} (h : vwCl[a]? = some (C, T, N)) : ∃ ty0 : Nat → FieldType, (∀ k, k < N → parseFieldDescriptor (T k).2.2.1 = some (ty0 k)) ∧ (∀ a, a < N → ∀ b, b < N → a ≠ b → (T a).2.1 ≠ (T b).2.1) := by
  match a, h with
  | 0, h => cases h; exact ⟨tyX0, tyX0_ok, nmX0⟩
  | 1, h => cases h; exact ⟨tyX1, tyX1_ok, nmX1⟩
  | 2, h => cases h; exact ⟨tyX2, tyX2_ok, nmX2⟩
  | 3, h => cases h; exact ⟨tyX3, tyX3_ok, nmX3⟩
  | 4, h => cases h; exact ⟨tyX4, tyX4_ok, nmX4⟩
  | 5, h => cases h; exact ⟨tyX5, tyX5_ok, nmX5⟩
  | n + 6, h => simp [vwCl] at h
theorem b1_fit {x : Int32} (h : x &&& 1 = x) : fits .boolean (.int x) = true := by
  have h2 : x = 0 ∨ x = 1 := by
    have e : x &&& 1 = nI (x.toBitVec.toNat % 2 ^ 1) := pk_and x 1 (by decide)
    rw [h] at e
    have : x.toBitVec.toNat % 2 ^ 1 < 2 := Nat.mod_lt _ (by decide)
    generalize x.toBitVec.toNat % 2 ^ 1 = y at e this
    match y, this with
    | 0, _ => exact Or.inl e
    | 1, _ => exact Or.inr e
  rcases h2 with rfl | rfl <;> decide
theorem tsw_in (pc d : Nat) (x : Int32) : ∀ (os : List Int) (lo : Int), -2147483648 ≤ lo → lo + os.length ≤ 2147483648 → (∀ i, (hi : i < os.length) → x.toInt = lo + i → swT x d (tsw pc lo os) = ((pc : Int) + os[i]).toNat) ∧ ((x.toInt < lo ∨ lo + os.length ≤ x.toInt) → swT x d (tsw pc lo os) = d) := by
  intro os
  induction os with
  | nil => intro lo h1 h2; exact ⟨fun i hi => absurd hi (Nat.not_lt_zero i), fun _ => rfl⟩
  | cons o os ih =>
    intro lo h1 h2
    simp only [List.length_cons, Int.natCast_add, Int.natCast_one] at h2
    have hlo : (Int32.ofInt lo).toInt = lo := Int32.toInt_ofInt_of_le (by simpa using h1) (by omega)
    obtain ⟨i1, i2⟩ := ih (lo + 1) (by omega) (by omega)
    constructor
    · intro i hi hx
      cases i with
      | zero =>
        have : x = Int32.ofInt lo := Int32.toInt_inj.mp (by rw [hlo, hx]; simp)
        simp only [tsw, swT, if_pos this, List.getElem_cons_zero]
      | succ i =>
        have hne : ¬ x = Int32.ofInt lo := fun q => by
          have := congrArg Int32.toInt q
          rw [hlo, hx] at this
          omega
        simp only [tsw, swT, if_neg hne, List.getElem_cons_succ]
        exact i1 i (by simpa using hi) (by rw [hx]; omega)
    · intro hx
      simp only [List.length_cons, Int.natCast_add, Int.natCast_one] at hx
      have hne : ¬ x = Int32.ofInt lo := fun q => by
        have := congrArg Int32.toInt q
        rw [hlo] at this
        omega
      simp only [tsw, swT, if_neg hne]
      exact i2 (by omega)
theorem lsw_in (pc d : Nat) (dd : Int) (x : Int32) (hd : (pc : Int) + dd = (d : Int)) : ∀ (ps : List (Int × Int)), (∀ q ∈ ps, 0 ≤ (pc : Int) + q.2 ∧ -2147483648 ≤ q.1 ∧ q.1 < 2147483648) → (pc : Int) + Op.lookupswitch.offset ps dd x.toInt = (swT x d (ps.map (fun q => (Int32.ofInt q.1, ((pc : Int) + q.2).toNat))) : Int) := by
  intro ps
  induction ps with
  | nil => intro _; simpa [swT, Op.lookupswitch.offset] using hd
  | cons q ps ih =>
    intro h
    obtain ⟨a, o⟩ := q
    have h0 := h (a, o) List.mem_cons_self
    have ha : (Int32.ofInt a).toInt = a := Int32.toInt_ofInt_of_le (by simpa using h0.2.1) (by simpa using h0.2.2)
    rw [Op.lookupswitch.offset_cons]
    simp only [List.map_cons, swT]
    by_cases hx : x = Int32.ofInt a
    · have h1 : x.toInt = a := by rw [hx, ha]
      rw [if_pos hx]
      first | rw [if_pos h1] | rw [if_pos h1.symm]
      have := h0.1
      omega
    · have h1 : ¬ x.toInt = a := fun z => hx (Int32.toInt_inj.mp (by rw [ha]; exact z))
      rw [if_neg hx]
      first | rw [if_neg h1] | rw [if_neg (fun z => h1 z.symm)]
      exact ih (fun q hq => h q (List.mem_cons_of_mem _ hq))
theorem cats_le (ad : Nat → Nat) : ∀ (st : List Value), st.length ≤ 4 → ((st.map (cv ad)).map fun v => v.category).sum ≤ 8 := by
  have h2 : ∀ v : Value, v.category ≤ 2 := fun v => by cases v <;> simp [Value.category]
  have h1 : ∀ (st : List Value), ((st.map (cv ad)).map fun v => v.category).sum ≤ 2 * st.length := by
    intro st
    induction st with
    | nil => simp
    | cons v st ih =>
      simp only [List.map_cons, List.sum_cons, List.length_cons]
      have := h2 (cv ad v)
      omega
  intro st h
  have := h1 st
  omega
def KKt (p : Program) (l : Launch) (e : Env) (R : Room) (s : State) (m : MethodId) (args : Array Value) (below : List Frame) (meth : Method) (c : Code) (A : Nat → Prop) (H0 : Heap) (cells slots : Nat) (Qf : State → Prop) (D : va_G) (G : GA) (k : Nat) (h : AH) (lo : Lo) (st : List Value) (pc : Nat) : Prop := ∀ (H : Heap) (locs : List Loc) (ls : Array Slot), WD D G A H0 H locs h → lv_has ls (mxL k) (prs G.1 lo) → W p l e R s m args below meth c H locs cells slots Qf (F0 m pc ls (st.map (cv G.1)))
set_option maxHeartbeats 2000000 in
set_option maxRecDepth 100000 in
theorem q_iconst {p : Program} {l : Launch} {e : Env} {R : Room} {s : State} {m : MethodId} {args : Array Value} {below : List Frame} {meth : Method} {c : Code} {A : Nat → Prop} {H0 : Heap} {cells slots : Nat} {Qf : State → Prop} {D : va_G} {G : GA} {k : Nat} {X : SX} (C : CX k X G D p s m args c R A H0 cells slots) {pc ln op a b : Nat} {v : Value} {ts : List (Int32 × Nat)} {lo lo' : Lo} {st st' : List Value} {h h' : AH} {j : Option Nat} (hs : stp X (pc, ln, op, a, b, v, ts) lo st h = some (.inl (j, lo', st', h'))) {n : Int} (hd : decode (byt k) pc = .ok (.iconst n, ln)) (hm : mOp k pc ln op a b v ts (.iconst n) = true) (kk : KKt p l e R s m args below meth c A H0 cells slots Qf D G k h' lo' st' (nxt (pc, ln, op, a, b, v, ts) j)) : KKt p l e R s m args below meth c A H0 cells slots Qf D G k h lo st pc := by
  intro H locs ls hw hl
  obtain ⟨hx, hb, hml, hown, hts, hnw, hK, hR, hA, hX⟩ := C
  obtain ⟨hP, hD, hS, hj⟩ := id hw
  obtain ⟨rfl, rfl, rfl⟩ := of_decide_eq_true hm
  cases (show some (Sum.inl (none, lo, (Value.int (Int32.ofInt n)) :: st, h)) = some (Sum.inl (j, lo', st', h')) from hs)
  exact lv_iconst hx hb hd rfl (kk H locs ls hw hl)
set_option maxHeartbeats 2000000 in
set_option maxRecDepth 100000 in
theorem q_bipush {p : Program} {l : Launch} {e : Env} {R : Room} {s : State} {m : MethodId} {args : Array Value} {below : List Frame} {meth : Method} {c : Code} {A : Nat → Prop} {H0 : Heap} {cells slots : Nat} {Qf : State → Prop} {D : va_G} {G : GA} {k : Nat} {X : SX} (C : CX k X G D p s m args c R A H0 cells slots) {pc ln op a b : Nat} {v : Value} {ts : List (Int32 × Nat)} {lo lo' : Lo} {st st' : List Value} {h h' : AH} {j : Option Nat} (hs : stp X (pc, ln, op, a, b, v, ts) lo st h = some (.inl (j, lo', st', h'))) {n : Int} (hd : decode (byt k) pc = .ok (.bipush n, ln)) (hm : mOp k pc ln op a b v ts (.bipush n) = true) (kk : KKt p l e R s m args below meth c A H0 cells slots Qf D G k h' lo' st' (nxt (pc, ln, op, a, b, v, ts) j)) : KKt p l e R s m args below meth c A H0 cells slots Qf D G k h lo st pc := by
  intro H locs ls hw hl
  obtain ⟨hx, hb, hml, hown, hts, hnw, hK, hR, hA, hX⟩ := C
  obtain ⟨hP, hD, hS, hj⟩ := id hw
  obtain ⟨rfl, rfl, rfl⟩ := of_decide_eq_true hm
  cases (show some (Sum.inl (none, lo, (Value.int (Int8.ofInt n).toInt32) :: st, h)) = some (Sum.inl (j, lo', st', h')) from hs)
  exact lv_bipush hx hb hd rfl (kk H locs ls hw hl)
set_option maxHeartbeats 2000000 in
set_option maxRecDepth 100000 in
theorem q_sipush {p : Program} {l : Launch} {e : Env} {R : Room} {s : State} {m : MethodId} {args : Array Value} {below : List Frame} {meth : Method} {c : Code} {A : Nat → Prop} {H0 : Heap} {cells slots : Nat} {Qf : State → Prop} {D : va_G} {G : GA} {k : Nat} {X : SX} (C : CX k X G D p s m args c R A H0 cells slots) {pc ln op a b : Nat} {v : Value} {ts : List (Int32 × Nat)} {lo lo' : Lo} {st st' : List Value} {h h' : AH} {j : Option Nat} (hs : stp X (pc, ln, op, a, b, v, ts) lo st h = some (.inl (j, lo', st', h'))) {n : Int} (hd : decode (byt k) pc = .ok (.sipush n, ln)) (hm : mOp k pc ln op a b v ts (.sipush n) = true) (kk : KKt p l e R s m args below meth c A H0 cells slots Qf D G k h' lo' st' (nxt (pc, ln, op, a, b, v, ts) j)) : KKt p l e R s m args below meth c A H0 cells slots Qf D G k h lo st pc := by
  intro H locs ls hw hl
  obtain ⟨hx, hb, hml, hown, hts, hnw, hK, hR, hA, hX⟩ := C
  obtain ⟨hP, hD, hS, hj⟩ := id hw
  obtain ⟨rfl, rfl, rfl⟩ := of_decide_eq_true hm
  cases (show some (Sum.inl (none, lo, (Value.int (Int16.ofInt n).toInt32) :: st, h)) = some (Sum.inl (j, lo', st', h')) from hs)
  exact lv_sipush hx hb hd rfl (kk H locs ls hw hl)
set_option maxHeartbeats 2000000 in
set_option maxRecDepth 100000 in
theorem q_lconst {p : Program} {l : Launch} {e : Env} {R : Room} {s : State} {m : MethodId} {args : Array Value} {below : List Frame} {meth : Method} {c : Code} {A : Nat → Prop} {H0 : Heap} {cells slots : Nat} {Qf : State → Prop} {D : va_G} {G : GA} {k : Nat} {X : SX} (C : CX k X G D p s m args c R A H0 cells slots) {pc ln op a b : Nat} {v : Value} {ts : List (Int32 × Nat)} {lo lo' : Lo} {st st' : List Value} {h h' : AH} {j : Option Nat} (hs : stp X (pc, ln, op, a, b, v, ts) lo st h = some (.inl (j, lo', st', h'))) {n : Fin 2} (hd : decode (byt k) pc = .ok (.lconst n, ln)) (hm : mOp k pc ln op a b v ts (.lconst n) = true) (kk : KKt p l e R s m args below meth c A H0 cells slots Qf D G k h' lo' st' (nxt (pc, ln, op, a, b, v, ts) j)) : KKt p l e R s m args below meth c A H0 cells slots Qf D G k h lo st pc := by
  intro H locs ls hw hl
  obtain ⟨hx, hb, hml, hown, hts, hnw, hK, hR, hA, hX⟩ := C
  obtain ⟨hP, hD, hS, hj⟩ := id hw
  obtain ⟨rfl, rfl, rfl⟩ := of_decide_eq_true hm
  cases (show some (Sum.inl (none, lo, (Value.long (Int64.ofNat n)) :: st, h)) = some (Sum.inl (j, lo', st', h')) from hs)
  exact lv_lconst hx hb hd rfl (kk H locs ls hw hl)
set_option maxHeartbeats 2000000 in
set_option maxRecDepth 100000 in
theorem q_ldc2_w {p : Program} {l : Launch} {e : Env} {R : Room} {s : State} {m : MethodId} {args : Array Value} {below : List Frame} {meth : Method} {c : Code} {A : Nat → Prop} {H0 : Heap} {cells slots : Nat} {Qf : State → Prop} {D : va_G} {G : GA} {k : Nat} {X : SX} (C : CX k X G D p s m args c R A H0 cells slots) {pc ln op a b : Nat} {v : Value} {ts : List (Int32 × Nat)} {lo lo' : Lo} {st st' : List Value} {h h' : AH} {j : Option Nat} (hs : stp X (pc, ln, op, a, b, v, ts) lo st h = some (.inl (j, lo', st', h'))) {i : Nat} (hd : decode (byt k) pc = .ok (.ldc2_w i, ln)) (hm : mOp k pc ln op a b v ts (.ldc2_w i) = true) (kk : KKt p l e R s m args below meth c A H0 cells slots Qf D G k h' lo' st' (nxt (pc, ln, op, a, b, v, ts) j)) : KKt p l e R s m args below meth c A H0 cells slots Qf D G k h lo st pc := by
  intro H locs ls hw hl
  obtain ⟨hx, hb, hml, hown, hts, hnw, hK, hR, hA, hX⟩ := C
  obtain ⟨hP, hD, hS, hj⟩ := id hw
  obtain ⟨rfl, hc, hv, rfl⟩ := of_decide_eq_true hm
  cases (show some (Sum.inl (none, lo, v :: st, h)) = some (Sum.inl (j, lo', st', h')) from hs)
  have hk := conOK _ hc
  cases v
  case long z => exact lv_ldc2 hx hb hown (hts _ (gw_of hk rfl)) hd (kk H locs ls hw hl)
  all_goals first | (simp [Value.category] at hv; done) | exact hk.elim
set_option maxHeartbeats 2000000 in
set_option maxRecDepth 100000 in
theorem q_ldc_w {p : Program} {l : Launch} {e : Env} {R : Room} {s : State} {m : MethodId} {args : Array Value} {below : List Frame} {meth : Method} {c : Code} {A : Nat → Prop} {H0 : Heap} {cells slots : Nat} {Qf : State → Prop} {D : va_G} {G : GA} {k : Nat} {X : SX} (C : CX k X G D p s m args c R A H0 cells slots) {pc ln op a b : Nat} {v : Value} {ts : List (Int32 × Nat)} {lo lo' : Lo} {st st' : List Value} {h h' : AH} {j : Option Nat} (hs : stp X (pc, ln, op, a, b, v, ts) lo st h = some (.inl (j, lo', st', h'))) {i : Nat} (hd : decode (byt k) pc = .ok (.ldc_w i, ln)) (hm : mOp k pc ln op a b v ts (.ldc_w i) = true) (kk : KKt p l e R s m args below meth c A H0 cells slots Qf D G k h' lo' st' (nxt (pc, ln, op, a, b, v, ts) j)) : KKt p l e R s m args below meth c A H0 cells slots Qf D G k h lo st pc := by
  intro H locs ls hw hl
  obtain ⟨hx, hb, hml, hown, hts, hnw, hK, hR, hA, hX⟩ := C
  obtain ⟨hP, hD, hS, hj⟩ := id hw
  obtain ⟨rfl, hc, hv, rfl⟩ := of_decide_eq_true hm
  cases (show some (Sum.inl (none, lo, v :: st, h)) = some (Sum.inl (j, lo', st', h')) from hs)
  have hk := conOK _ hc
  cases v
  case int z => exact lv_ldcw hx hb hown (hts _ (gw_of hk rfl)) hd (kk H locs ls hw hl)
  all_goals first | (simp [Value.category] at hv; done) | exact hk.elim
set_option maxHeartbeats 2000000 in
set_option maxRecDepth 100000 in
theorem q_iload_n {p : Program} {l : Launch} {e : Env} {R : Room} {s : State} {m : MethodId} {args : Array Value} {below : List Frame} {meth : Method} {c : Code} {A : Nat → Prop} {H0 : Heap} {cells slots : Nat} {Qf : State → Prop} {D : va_G} {G : GA} {k : Nat} {X : SX} (C : CX k X G D p s m args c R A H0 cells slots) {pc ln op a b : Nat} {v : Value} {ts : List (Int32 × Nat)} {lo lo' : Lo} {st st' : List Value} {h h' : AH} {j : Option Nat} (hs : stp X (pc, ln, op, a, b, v, ts) lo st h = some (.inl (j, lo', st', h'))) {n : Fin 4} (hd : decode (byt k) pc = .ok (.iload_n n, ln)) (hm : mOp k pc ln op a b v ts (.iload_n n) = true) (kk : KKt p l e R s m args below meth c A H0 cells slots Qf D G k h' lo' st' (nxt (pc, ln, op, a, b, v, ts) j)) : KKt p l e R s m args below meth c A H0 cells slots Qf D G k h lo st pc := by
  intro H locs ls hw hl
  obtain ⟨hx, hb, hml, hown, hts, hnw, hK, hR, hA, hX⟩ := C
  obtain ⟨hP, hD, hS, hj⟩ := id hw
  obtain ⟨rfl, ha, rfl, rfl⟩ := of_decide_eq_true hm
  replace hs : s1 a 0 lo st h = _ := hs
  unfold s1 at hs
  rcases hla : lo[a]? with _ | _ | y
  · rw [hla] at hs; cases hs
  · rw [hla] at hs; cases hs
  · rw [hla] at hs
    cases y
    case int x =>
      cases (show some (Sum.inl (none, lo, (Value.int x) :: st, h)) = some (Sum.inl (j, lo', st', h')) from hs)
      exact lv_iload_n hx hb hd ha.symm (hl.2.2 (a, _) (mem_prs.mpr ⟨.int x, hla, rfl⟩)) (kk H locs ls hw hl)
    all_goals (cases hs)
set_option maxHeartbeats 2000000 in
set_option maxRecDepth 100000 in
theorem q_iload {p : Program} {l : Launch} {e : Env} {R : Room} {s : State} {m : MethodId} {args : Array Value} {below : List Frame} {meth : Method} {c : Code} {A : Nat → Prop} {H0 : Heap} {cells slots : Nat} {Qf : State → Prop} {D : va_G} {G : GA} {k : Nat} {X : SX} (C : CX k X G D p s m args c R A H0 cells slots) {pc ln op a b : Nat} {v : Value} {ts : List (Int32 × Nat)} {lo lo' : Lo} {st st' : List Value} {h h' : AH} {j : Option Nat} (hs : stp X (pc, ln, op, a, b, v, ts) lo st h = some (.inl (j, lo', st', h'))) {i : Nat} (hd : decode (byt k) pc = .ok (.iload i, ln)) (hm : mOp k pc ln op a b v ts (.iload i) = true) (kk : KKt p l e R s m args below meth c A H0 cells slots Qf D G k h' lo' st' (nxt (pc, ln, op, a, b, v, ts) j)) : KKt p l e R s m args below meth c A H0 cells slots Qf D G k h lo st pc := by
  intro H locs ls hw hl
  obtain ⟨hx, hb, hml, hown, hts, hnw, hK, hR, hA, hX⟩ := C
  obtain ⟨hP, hD, hS, hj⟩ := id hw
  obtain ⟨rfl, rfl, rfl, rfl⟩ := of_decide_eq_true hm
  replace hs : s1 a 0 lo st h = _ := hs
  unfold s1 at hs
  rcases hla : lo[a]? with _ | _ | y
  · rw [hla] at hs; cases hs
  · rw [hla] at hs; cases hs
  · rw [hla] at hs
    cases y
    case int x =>
      cases (show some (Sum.inl (none, lo, (Value.int x) :: st, h)) = some (Sum.inl (j, lo', st', h')) from hs)
      exact lv_iload hx hb hd (hl.2.2 (a, _) (mem_prs.mpr ⟨.int x, hla, rfl⟩)) (kk H locs ls hw hl)
    all_goals (cases hs)
set_option maxHeartbeats 2000000 in
set_option maxRecDepth 100000 in
theorem q_lload_n {p : Program} {l : Launch} {e : Env} {R : Room} {s : State} {m : MethodId} {args : Array Value} {below : List Frame} {meth : Method} {c : Code} {A : Nat → Prop} {H0 : Heap} {cells slots : Nat} {Qf : State → Prop} {D : va_G} {G : GA} {k : Nat} {X : SX} (C : CX k X G D p s m args c R A H0 cells slots) {pc ln op a b : Nat} {v : Value} {ts : List (Int32 × Nat)} {lo lo' : Lo} {st st' : List Value} {h h' : AH} {j : Option Nat} (hs : stp X (pc, ln, op, a, b, v, ts) lo st h = some (.inl (j, lo', st', h'))) {n : Fin 4} (hd : decode (byt k) pc = .ok (.lload_n n, ln)) (hm : mOp k pc ln op a b v ts (.lload_n n) = true) (kk : KKt p l e R s m args below meth c A H0 cells slots Qf D G k h' lo' st' (nxt (pc, ln, op, a, b, v, ts) j)) : KKt p l e R s m args below meth c A H0 cells slots Qf D G k h lo st pc := by
  intro H locs ls hw hl
  obtain ⟨hx, hb, hml, hown, hts, hnw, hK, hR, hA, hX⟩ := C
  obtain ⟨hP, hD, hS, hj⟩ := id hw
  obtain ⟨rfl, ha, rfl, rfl⟩ := of_decide_eq_true hm
  replace hs : s1 a 1 lo st h = _ := hs
  unfold s1 at hs
  rcases hla : lo[a]? with _ | _ | y
  · rw [hla] at hs; cases hs
  · rw [hla] at hs; cases hs
  · rw [hla] at hs
    cases y
    case long x =>
      cases (show some (Sum.inl (none, lo, (Value.long x) :: st, h)) = some (Sum.inl (j, lo', st', h')) from hs)
      exact lv_lload_n hx hb hd ha.symm (hl.2.2 (a, _) (mem_prs.mpr ⟨.long x, hla, rfl⟩)) (kk H locs ls hw hl)
    all_goals (cases hs)
set_option maxHeartbeats 2000000 in
set_option maxRecDepth 100000 in
theorem q_lload {p : Program} {l : Launch} {e : Env} {R : Room} {s : State} {m : MethodId} {args : Array Value} {below : List Frame} {meth : Method} {c : Code} {A : Nat → Prop} {H0 : Heap} {cells slots : Nat} {Qf : State → Prop} {D : va_G} {G : GA} {k : Nat} {X : SX} (C : CX k X G D p s m args c R A H0 cells slots) {pc ln op a b : Nat} {v : Value} {ts : List (Int32 × Nat)} {lo lo' : Lo} {st st' : List Value} {h h' : AH} {j : Option Nat} (hs : stp X (pc, ln, op, a, b, v, ts) lo st h = some (.inl (j, lo', st', h'))) {i : Nat} (hd : decode (byt k) pc = .ok (.lload i, ln)) (hm : mOp k pc ln op a b v ts (.lload i) = true) (kk : KKt p l e R s m args below meth c A H0 cells slots Qf D G k h' lo' st' (nxt (pc, ln, op, a, b, v, ts) j)) : KKt p l e R s m args below meth c A H0 cells slots Qf D G k h lo st pc := by
  intro H locs ls hw hl
  obtain ⟨hx, hb, hml, hown, hts, hnw, hK, hR, hA, hX⟩ := C
  obtain ⟨hP, hD, hS, hj⟩ := id hw
  obtain ⟨rfl, rfl, rfl, rfl⟩ := of_decide_eq_true hm
  replace hs : s1 a 1 lo st h = _ := hs
  unfold s1 at hs
  rcases hla : lo[a]? with _ | _ | y
  · rw [hla] at hs; cases hs
  · rw [hla] at hs; cases hs
  · rw [hla] at hs
    cases y
    case long x =>
      cases (show some (Sum.inl (none, lo, (Value.long x) :: st, h)) = some (Sum.inl (j, lo', st', h')) from hs)
      exact lv_lload hx hb hd (hl.2.2 (a, _) (mem_prs.mpr ⟨.long x, hla, rfl⟩)) (kk H locs ls hw hl)
    all_goals (cases hs)
set_option maxHeartbeats 2000000 in
set_option maxRecDepth 100000 in
theorem q_aload_n {p : Program} {l : Launch} {e : Env} {R : Room} {s : State} {m : MethodId} {args : Array Value} {below : List Frame} {meth : Method} {c : Code} {A : Nat → Prop} {H0 : Heap} {cells slots : Nat} {Qf : State → Prop} {D : va_G} {G : GA} {k : Nat} {X : SX} (C : CX k X G D p s m args c R A H0 cells slots) {pc ln op a b : Nat} {v : Value} {ts : List (Int32 × Nat)} {lo lo' : Lo} {st st' : List Value} {h h' : AH} {j : Option Nat} (hs : stp X (pc, ln, op, a, b, v, ts) lo st h = some (.inl (j, lo', st', h'))) {n : Fin 4} (hd : decode (byt k) pc = .ok (.aload_n n, ln)) (hm : mOp k pc ln op a b v ts (.aload_n n) = true) (kk : KKt p l e R s m args below meth c A H0 cells slots Qf D G k h' lo' st' (nxt (pc, ln, op, a, b, v, ts) j)) : KKt p l e R s m args below meth c A H0 cells slots Qf D G k h lo st pc := by
  intro H locs ls hw hl
  obtain ⟨hx, hb, hml, hown, hts, hnw, hK, hR, hA, hX⟩ := C
  obtain ⟨hP, hD, hS, hj⟩ := id hw
  obtain ⟨rfl, ha, rfl, rfl⟩ := of_decide_eq_true hm
  replace hs : s1 a 2 lo st h = _ := hs
  unfold s1 at hs
  rcases hla : lo[a]? with _ | _ | y
  · rw [hla] at hs; cases hs
  · rw [hla] at hs; cases hs
  · rw [hla] at hs
    cases y
    case ref x =>
      cases (show some (Sum.inl (none, lo, (Value.ref x) :: st, h)) = some (Sum.inl (j, lo', st', h')) from hs)
      exact lv_aload_n hx hb hd ha.symm (hl.2.2 (a, _) (mem_prs.mpr ⟨.ref x, hla, rfl⟩)) (kk H locs ls hw hl)
    all_goals (cases hs)
set_option maxHeartbeats 2000000 in
set_option maxRecDepth 100000 in
theorem q_aload {p : Program} {l : Launch} {e : Env} {R : Room} {s : State} {m : MethodId} {args : Array Value} {below : List Frame} {meth : Method} {c : Code} {A : Nat → Prop} {H0 : Heap} {cells slots : Nat} {Qf : State → Prop} {D : va_G} {G : GA} {k : Nat} {X : SX} (C : CX k X G D p s m args c R A H0 cells slots) {pc ln op a b : Nat} {v : Value} {ts : List (Int32 × Nat)} {lo lo' : Lo} {st st' : List Value} {h h' : AH} {j : Option Nat} (hs : stp X (pc, ln, op, a, b, v, ts) lo st h = some (.inl (j, lo', st', h'))) {i : Nat} (hd : decode (byt k) pc = .ok (.aload i, ln)) (hm : mOp k pc ln op a b v ts (.aload i) = true) (kk : KKt p l e R s m args below meth c A H0 cells slots Qf D G k h' lo' st' (nxt (pc, ln, op, a, b, v, ts) j)) : KKt p l e R s m args below meth c A H0 cells slots Qf D G k h lo st pc := by
  intro H locs ls hw hl
  obtain ⟨hx, hb, hml, hown, hts, hnw, hK, hR, hA, hX⟩ := C
  obtain ⟨hP, hD, hS, hj⟩ := id hw
  obtain ⟨rfl, rfl, rfl, rfl⟩ := of_decide_eq_true hm
  replace hs : s1 a 2 lo st h = _ := hs
  unfold s1 at hs
  rcases hla : lo[a]? with _ | _ | y
  · rw [hla] at hs; cases hs
  · rw [hla] at hs; cases hs
  · rw [hla] at hs
    cases y
    case ref x =>
      cases (show some (Sum.inl (none, lo, (Value.ref x) :: st, h)) = some (Sum.inl (j, lo', st', h')) from hs)
      exact lv_aload hx hb hd (hl.2.2 (a, _) (mem_prs.mpr ⟨.ref x, hla, rfl⟩)) (kk H locs ls hw hl)
    all_goals (cases hs)
set_option maxHeartbeats 2000000 in
set_option maxRecDepth 100000 in
theorem q_istore_n {p : Program} {l : Launch} {e : Env} {R : Room} {s : State} {m : MethodId} {args : Array Value} {below : List Frame} {meth : Method} {c : Code} {A : Nat → Prop} {H0 : Heap} {cells slots : Nat} {Qf : State → Prop} {D : va_G} {G : GA} {k : Nat} {X : SX} (C : CX k X G D p s m args c R A H0 cells slots) {pc ln op a b : Nat} {v : Value} {ts : List (Int32 × Nat)} {lo lo' : Lo} {st st' : List Value} {h h' : AH} {j : Option Nat} (hs : stp X (pc, ln, op, a, b, v, ts) lo st h = some (.inl (j, lo', st', h'))) {n : Fin 4} (hd : decode (byt k) pc = .ok (.istore_n n, ln)) (hm : mOp k pc ln op a b v ts (.istore_n n) = true) (kk : KKt p l e R s m args below meth c A H0 cells slots Qf D G k h' lo' st' (nxt (pc, ln, op, a, b, v, ts) j)) : KKt p l e R s m args below meth c A H0 cells slots Qf D G k h lo st pc := by
  intro H locs ls hw hl
  obtain ⟨hx, hb, hml, hown, hts, hnw, hK, hR, hA, hX⟩ := C
  obtain ⟨hP, hD, hS, hj⟩ := id hw
  obtain ⟨rfl, ha, rfl, rfl, hn⟩ := of_decide_eq_true hm
  replace hs : s2 a 0 lo st h = _ := hs
  rcases st with _ | ⟨y, st⟩
  · cases hs
  · cases y
    case int x =>
      cases (show some (Sum.inl (none, set1 lo a (.int x), st, h)) = some (Sum.inl (j, lo', st', h')) from hs)
      exact lv_istore_n hx hb hd ha.symm hl hn rfl (fun ls' hl' => kk H locs ls' hw (lvs1 (v := .int x) hl'))
    all_goals (cases hs)
set_option maxHeartbeats 2000000 in
set_option maxRecDepth 100000 in
theorem q_istore {p : Program} {l : Launch} {e : Env} {R : Room} {s : State} {m : MethodId} {args : Array Value} {below : List Frame} {meth : Method} {c : Code} {A : Nat → Prop} {H0 : Heap} {cells slots : Nat} {Qf : State → Prop} {D : va_G} {G : GA} {k : Nat} {X : SX} (C : CX k X G D p s m args c R A H0 cells slots) {pc ln op a b : Nat} {v : Value} {ts : List (Int32 × Nat)} {lo lo' : Lo} {st st' : List Value} {h h' : AH} {j : Option Nat} (hs : stp X (pc, ln, op, a, b, v, ts) lo st h = some (.inl (j, lo', st', h'))) {i : Nat} (hd : decode (byt k) pc = .ok (.istore i, ln)) (hm : mOp k pc ln op a b v ts (.istore i) = true) (kk : KKt p l e R s m args below meth c A H0 cells slots Qf D G k h' lo' st' (nxt (pc, ln, op, a, b, v, ts) j)) : KKt p l e R s m args below meth c A H0 cells slots Qf D G k h lo st pc := by
  intro H locs ls hw hl
  obtain ⟨hx, hb, hml, hown, hts, hnw, hK, hR, hA, hX⟩ := C
  obtain ⟨hP, hD, hS, hj⟩ := id hw
  obtain ⟨rfl, rfl, rfl, rfl, hn⟩ := of_decide_eq_true hm
  replace hs : s2 a 0 lo st h = _ := hs
  rcases st with _ | ⟨y, st⟩
  · cases hs
  · cases y
    case int x =>
      cases (show some (Sum.inl (none, set1 lo a (.int x), st, h)) = some (Sum.inl (j, lo', st', h')) from hs)
      exact lv_istore hx hb hd hl hn rfl (fun ls' hl' => kk H locs ls' hw (lvs1 (v := .int x) hl'))
    all_goals (cases hs)
set_option maxHeartbeats 2000000 in
set_option maxRecDepth 100000 in
theorem q_astore_n {p : Program} {l : Launch} {e : Env} {R : Room} {s : State} {m : MethodId} {args : Array Value} {below : List Frame} {meth : Method} {c : Code} {A : Nat → Prop} {H0 : Heap} {cells slots : Nat} {Qf : State → Prop} {D : va_G} {G : GA} {k : Nat} {X : SX} (C : CX k X G D p s m args c R A H0 cells slots) {pc ln op a b : Nat} {v : Value} {ts : List (Int32 × Nat)} {lo lo' : Lo} {st st' : List Value} {h h' : AH} {j : Option Nat} (hs : stp X (pc, ln, op, a, b, v, ts) lo st h = some (.inl (j, lo', st', h'))) {n : Fin 4} (hd : decode (byt k) pc = .ok (.astore_n n, ln)) (hm : mOp k pc ln op a b v ts (.astore_n n) = true) (kk : KKt p l e R s m args below meth c A H0 cells slots Qf D G k h' lo' st' (nxt (pc, ln, op, a, b, v, ts) j)) : KKt p l e R s m args below meth c A H0 cells slots Qf D G k h lo st pc := by
  intro H locs ls hw hl
  obtain ⟨hx, hb, hml, hown, hts, hnw, hK, hR, hA, hX⟩ := C
  obtain ⟨hP, hD, hS, hj⟩ := id hw
  obtain ⟨rfl, ha, rfl, rfl, hn⟩ := of_decide_eq_true hm
  replace hs : s2 a 2 lo st h = _ := hs
  rcases st with _ | ⟨y, st⟩
  · cases hs
  · cases y
    case ref x =>
      cases (show some (Sum.inl (none, set1 lo a (.ref x), st, h)) = some (Sum.inl (j, lo', st', h')) from hs)
      exact lv_astore_n hx hb hd ha.symm hl hn rfl (fun ls' hl' => kk H locs ls' hw (lvs1 (v := .ref x) hl'))
    all_goals (cases hs)
set_option maxHeartbeats 2000000 in
set_option maxRecDepth 100000 in
theorem q_astore {p : Program} {l : Launch} {e : Env} {R : Room} {s : State} {m : MethodId} {args : Array Value} {below : List Frame} {meth : Method} {c : Code} {A : Nat → Prop} {H0 : Heap} {cells slots : Nat} {Qf : State → Prop} {D : va_G} {G : GA} {k : Nat} {X : SX} (C : CX k X G D p s m args c R A H0 cells slots) {pc ln op a b : Nat} {v : Value} {ts : List (Int32 × Nat)} {lo lo' : Lo} {st st' : List Value} {h h' : AH} {j : Option Nat} (hs : stp X (pc, ln, op, a, b, v, ts) lo st h = some (.inl (j, lo', st', h'))) {i : Nat} (hd : decode (byt k) pc = .ok (.astore i, ln)) (hm : mOp k pc ln op a b v ts (.astore i) = true) (kk : KKt p l e R s m args below meth c A H0 cells slots Qf D G k h' lo' st' (nxt (pc, ln, op, a, b, v, ts) j)) : KKt p l e R s m args below meth c A H0 cells slots Qf D G k h lo st pc := by
  intro H locs ls hw hl
  obtain ⟨hx, hb, hml, hown, hts, hnw, hK, hR, hA, hX⟩ := C
  obtain ⟨hP, hD, hS, hj⟩ := id hw
  obtain ⟨rfl, rfl, rfl, rfl, hn⟩ := of_decide_eq_true hm
  replace hs : s2 a 2 lo st h = _ := hs
  rcases st with _ | ⟨y, st⟩
  · cases hs
  · cases y
    case ref x =>
      cases (show some (Sum.inl (none, set1 lo a (.ref x), st, h)) = some (Sum.inl (j, lo', st', h')) from hs)
      exact lv_astore hx hb hd hl hn rfl (fun ls' hl' => kk H locs ls' hw (lvs1 (v := .ref x) hl'))
    all_goals (cases hs)
set_option maxHeartbeats 2000000 in
set_option maxRecDepth 100000 in
theorem q_lstore_n {p : Program} {l : Launch} {e : Env} {R : Room} {s : State} {m : MethodId} {args : Array Value} {below : List Frame} {meth : Method} {c : Code} {A : Nat → Prop} {H0 : Heap} {cells slots : Nat} {Qf : State → Prop} {D : va_G} {G : GA} {k : Nat} {X : SX} (C : CX k X G D p s m args c R A H0 cells slots) {pc ln op a b : Nat} {v : Value} {ts : List (Int32 × Nat)} {lo lo' : Lo} {st st' : List Value} {h h' : AH} {j : Option Nat} (hs : stp X (pc, ln, op, a, b, v, ts) lo st h = some (.inl (j, lo', st', h'))) {n : Fin 4} (hd : decode (byt k) pc = .ok (.lstore_n n, ln)) (hm : mOp k pc ln op a b v ts (.lstore_n n) = true) (kk : KKt p l e R s m args below meth c A H0 cells slots Qf D G k h' lo' st' (nxt (pc, ln, op, a, b, v, ts) j)) : KKt p l e R s m args below meth c A H0 cells slots Qf D G k h lo st pc := by
  intro H locs ls hw hl
  obtain ⟨hx, hb, hml, hown, hts, hnw, hK, hR, hA, hX⟩ := C
  obtain ⟨hP, hD, hS, hj⟩ := id hw
  obtain ⟨rfl, ha, rfl, hn⟩ := of_decide_eq_true hm
  replace hs : s3 a lo st h = _ := hs
  rcases st with _ | ⟨y, st⟩
  · cases hs
  · cases y
    case long x =>
      cases (show some (Sum.inl (none, set2 lo a (.long x), st, h)) = some (Sum.inl (j, lo', st', h')) from hs)
      exact lv_lstore_n hx hb hd ha.symm hl hn rfl (fun ls' hl' => kk H locs ls' hw (lvs2 (v := .long x) hl'))
    all_goals (cases hs)
set_option maxHeartbeats 2000000 in
set_option maxRecDepth 100000 in
theorem q_lstore {p : Program} {l : Launch} {e : Env} {R : Room} {s : State} {m : MethodId} {args : Array Value} {below : List Frame} {meth : Method} {c : Code} {A : Nat → Prop} {H0 : Heap} {cells slots : Nat} {Qf : State → Prop} {D : va_G} {G : GA} {k : Nat} {X : SX} (C : CX k X G D p s m args c R A H0 cells slots) {pc ln op a b : Nat} {v : Value} {ts : List (Int32 × Nat)} {lo lo' : Lo} {st st' : List Value} {h h' : AH} {j : Option Nat} (hs : stp X (pc, ln, op, a, b, v, ts) lo st h = some (.inl (j, lo', st', h'))) {i : Nat} (hd : decode (byt k) pc = .ok (.lstore i, ln)) (hm : mOp k pc ln op a b v ts (.lstore i) = true) (kk : KKt p l e R s m args below meth c A H0 cells slots Qf D G k h' lo' st' (nxt (pc, ln, op, a, b, v, ts) j)) : KKt p l e R s m args below meth c A H0 cells slots Qf D G k h lo st pc := by
  intro H locs ls hw hl
  obtain ⟨hx, hb, hml, hown, hts, hnw, hK, hR, hA, hX⟩ := C
  obtain ⟨hP, hD, hS, hj⟩ := id hw
  obtain ⟨rfl, rfl, rfl, hn⟩ := of_decide_eq_true hm
  replace hs : s3 a lo st h = _ := hs
  rcases st with _ | ⟨y, st⟩
  · cases hs
  · cases y
    case long x =>
      cases (show some (Sum.inl (none, set2 lo a (.long x), st, h)) = some (Sum.inl (j, lo', st', h')) from hs)
      exact lv_lstore hx hb hd hl hn rfl (fun ls' hl' => kk H locs ls' hw (lvs2 (v := .long x) hl'))
    all_goals (cases hs)
set_option maxHeartbeats 2000000 in
set_option maxRecDepth 100000 in
theorem q_iinc {p : Program} {l : Launch} {e : Env} {R : Room} {s : State} {m : MethodId} {args : Array Value} {below : List Frame} {meth : Method} {c : Code} {A : Nat → Prop} {H0 : Heap} {cells slots : Nat} {Qf : State → Prop} {D : va_G} {G : GA} {k : Nat} {X : SX} (C : CX k X G D p s m args c R A H0 cells slots) {pc ln op a b : Nat} {v : Value} {ts : List (Int32 × Nat)} {lo lo' : Lo} {st st' : List Value} {h h' : AH} {j : Option Nat} (hs : stp X (pc, ln, op, a, b, v, ts) lo st h = some (.inl (j, lo', st', h'))) {i : Nat} {n : Int} (hd : decode (byt k) pc = .ok (.iinc i n, ln)) (hm : mOp k pc ln op a b v ts (.iinc i n) = true) (kk : KKt p l e R s m args below meth c A H0 cells slots Qf D G k h' lo' st' (nxt (pc, ln, op, a, b, v, ts) j)) : KKt p l e R s m args below meth c A H0 cells slots Qf D G k h lo st pc := by
  intro H locs ls hw hl
  obtain ⟨hx, hb, hml, hown, hts, hnw, hK, hR, hA, hX⟩ := C
  obtain ⟨hP, hD, hS, hj⟩ := id hw
  obtain ⟨rfl, rfl, rfl, rfl, hn⟩ := of_decide_eq_true hm
  replace hs : s4 a (.int (Int32.ofInt n)) lo st h = _ := hs
  unfold s4 at hs
  rcases hla : lo[a]? with _ | _ | y
  · rw [hla] at hs; cases hs
  · rw [hla] at hs; cases hs
  · rw [hla] at hs
    cases y
    case int x =>
      cases (show some (Sum.inl (none, set1 lo a (.int (x + Int32.ofInt n)), st, h)) = some (Sum.inl (j, lo', st', h')) from hs)
      obtain ⟨kx, hkx⟩ := List.mem_iff_getElem?.mp (mem_prs.mpr ⟨.int x, hla, rfl⟩ : (a, _) ∈ prs G.1 lo)
      exact lv_iinc hx hb hd hl hkx rfl hn rfl (fun ls' hl' => kk H locs ls' hw (lvs1 (v := .int (x + Int32.ofInt n)) hl'))
    all_goals (cases hs)
set_option maxHeartbeats 2000000 in
set_option maxRecDepth 100000 in
theorem q_iadd {p : Program} {l : Launch} {e : Env} {R : Room} {s : State} {m : MethodId} {args : Array Value} {below : List Frame} {meth : Method} {c : Code} {A : Nat → Prop} {H0 : Heap} {cells slots : Nat} {Qf : State → Prop} {D : va_G} {G : GA} {k : Nat} {X : SX} (C : CX k X G D p s m args c R A H0 cells slots) {pc ln op a b : Nat} {v : Value} {ts : List (Int32 × Nat)} {lo lo' : Lo} {st st' : List Value} {h h' : AH} {j : Option Nat} (hs : stp X (pc, ln, op, a, b, v, ts) lo st h = some (.inl (j, lo', st', h')))  (hd : decode (byt k) pc = .ok (.iadd, ln)) (hm : mOp k pc ln op a b v ts (.iadd) = true) (kk : KKt p l e R s m args below meth c A H0 cells slots Qf D G k h' lo' st' (nxt (pc, ln, op, a, b, v, ts) j)) : KKt p l e R s m args below meth c A H0 cells slots Qf D G k h lo st pc := by
  intro H locs ls hw hl
  obtain ⟨hx, hb, hml, hown, hts, hnw, hK, hR, hA, hX⟩ := C
  obtain ⟨hP, hD, hS, hj⟩ := id hw
  obtain ⟨rfl, rfl, rfl⟩ := of_decide_eq_true hm
  rcases st with _ | ⟨y1, st⟩
  · cases hs
  rcases st with _ | ⟨y2, st⟩
  · cases y1 <;> cases hs
  cases y1
  case int y =>
    cases y2
    case int x =>
      cases (show some (Sum.inl (none, lo, (Value.int (x + y)) :: st, h)) = some (Sum.inl (j, lo', st', h')) from hs)
      exact lv_iadd hx hb hd (kk H locs ls hw hl)
    all_goals (cases hs)
  all_goals (cases y2 <;> cases hs)
set_option maxHeartbeats 2000000 in
set_option maxRecDepth 100000 in
theorem q_isub {p : Program} {l : Launch} {e : Env} {R : Room} {s : State} {m : MethodId} {args : Array Value} {below : List Frame} {meth : Method} {c : Code} {A : Nat → Prop} {H0 : Heap} {cells slots : Nat} {Qf : State → Prop} {D : va_G} {G : GA} {k : Nat} {X : SX} (C : CX k X G D p s m args c R A H0 cells slots) {pc ln op a b : Nat} {v : Value} {ts : List (Int32 × Nat)} {lo lo' : Lo} {st st' : List Value} {h h' : AH} {j : Option Nat} (hs : stp X (pc, ln, op, a, b, v, ts) lo st h = some (.inl (j, lo', st', h')))  (hd : decode (byt k) pc = .ok (.isub, ln)) (hm : mOp k pc ln op a b v ts (.isub) = true) (kk : KKt p l e R s m args below meth c A H0 cells slots Qf D G k h' lo' st' (nxt (pc, ln, op, a, b, v, ts) j)) : KKt p l e R s m args below meth c A H0 cells slots Qf D G k h lo st pc := by
  intro H locs ls hw hl
  obtain ⟨hx, hb, hml, hown, hts, hnw, hK, hR, hA, hX⟩ := C
  obtain ⟨hP, hD, hS, hj⟩ := id hw
  obtain ⟨rfl, rfl, rfl⟩ := of_decide_eq_true hm
  rcases st with _ | ⟨y1, st⟩
  · cases hs
  rcases st with _ | ⟨y2, st⟩
  · cases y1 <;> cases hs
  cases y1
  case int y =>
    cases y2
    case int x =>
      cases (show some (Sum.inl (none, lo, (Value.int (x - y)) :: st, h)) = some (Sum.inl (j, lo', st', h')) from hs)
      exact lv_isub hx hb hd (kk H locs ls hw hl)
    all_goals (cases hs)
  all_goals (cases y2 <;> cases hs)
set_option maxHeartbeats 2000000 in
set_option maxRecDepth 100000 in
theorem q_imul {p : Program} {l : Launch} {e : Env} {R : Room} {s : State} {m : MethodId} {args : Array Value} {below : List Frame} {meth : Method} {c : Code} {A : Nat → Prop} {H0 : Heap} {cells slots : Nat} {Qf : State → Prop} {D : va_G} {G : GA} {k : Nat} {X : SX} (C : CX k X G D p s m args c R A H0 cells slots) {pc ln op a b : Nat} {v : Value} {ts : List (Int32 × Nat)} {lo lo' : Lo} {st st' : List Value} {h h' : AH} {j : Option Nat} (hs : stp X (pc, ln, op, a, b, v, ts) lo st h = some (.inl (j, lo', st', h')))  (hd : decode (byt k) pc = .ok (.imul, ln)) (hm : mOp k pc ln op a b v ts (.imul) = true) (kk : KKt p l e R s m args below meth c A H0 cells slots Qf D G k h' lo' st' (nxt (pc, ln, op, a, b, v, ts) j)) : KKt p l e R s m args below meth c A H0 cells slots Qf D G k h lo st pc := by
  intro H locs ls hw hl
  obtain ⟨hx, hb, hml, hown, hts, hnw, hK, hR, hA, hX⟩ := C
  obtain ⟨hP, hD, hS, hj⟩ := id hw
  obtain ⟨rfl, rfl, rfl⟩ := of_decide_eq_true hm
  rcases st with _ | ⟨y1, st⟩
  · cases hs
  rcases st with _ | ⟨y2, st⟩
  · cases y1 <;> cases hs
  cases y1
  case int y =>
    cases y2
    case int x =>
      cases (show some (Sum.inl (none, lo, (Value.int (x * y)) :: st, h)) = some (Sum.inl (j, lo', st', h')) from hs)
      exact lv_imul hx hb hd (kk H locs ls hw hl)
    all_goals (cases hs)
  all_goals (cases y2 <;> cases hs)
set_option maxHeartbeats 2000000 in
set_option maxRecDepth 100000 in
theorem q_iand {p : Program} {l : Launch} {e : Env} {R : Room} {s : State} {m : MethodId} {args : Array Value} {below : List Frame} {meth : Method} {c : Code} {A : Nat → Prop} {H0 : Heap} {cells slots : Nat} {Qf : State → Prop} {D : va_G} {G : GA} {k : Nat} {X : SX} (C : CX k X G D p s m args c R A H0 cells slots) {pc ln op a b : Nat} {v : Value} {ts : List (Int32 × Nat)} {lo lo' : Lo} {st st' : List Value} {h h' : AH} {j : Option Nat} (hs : stp X (pc, ln, op, a, b, v, ts) lo st h = some (.inl (j, lo', st', h')))  (hd : decode (byt k) pc = .ok (.iand, ln)) (hm : mOp k pc ln op a b v ts (.iand) = true) (kk : KKt p l e R s m args below meth c A H0 cells slots Qf D G k h' lo' st' (nxt (pc, ln, op, a, b, v, ts) j)) : KKt p l e R s m args below meth c A H0 cells slots Qf D G k h lo st pc := by
  intro H locs ls hw hl
  obtain ⟨hx, hb, hml, hown, hts, hnw, hK, hR, hA, hX⟩ := C
  obtain ⟨hP, hD, hS, hj⟩ := id hw
  obtain ⟨rfl, rfl, rfl⟩ := of_decide_eq_true hm
  rcases st with _ | ⟨y1, st⟩
  · cases hs
  rcases st with _ | ⟨y2, st⟩
  · cases y1 <;> cases hs
  cases y1
  case int y =>
    cases y2
    case int x =>
      cases (show some (Sum.inl (none, lo, (Value.int (x &&& y)) :: st, h)) = some (Sum.inl (j, lo', st', h')) from hs)
      exact lv_iand hx hb hd (kk H locs ls hw hl)
    all_goals (cases hs)
  all_goals (cases y2 <;> cases hs)
set_option maxHeartbeats 2000000 in
set_option maxRecDepth 100000 in
theorem q_ior {p : Program} {l : Launch} {e : Env} {R : Room} {s : State} {m : MethodId} {args : Array Value} {below : List Frame} {meth : Method} {c : Code} {A : Nat → Prop} {H0 : Heap} {cells slots : Nat} {Qf : State → Prop} {D : va_G} {G : GA} {k : Nat} {X : SX} (C : CX k X G D p s m args c R A H0 cells slots) {pc ln op a b : Nat} {v : Value} {ts : List (Int32 × Nat)} {lo lo' : Lo} {st st' : List Value} {h h' : AH} {j : Option Nat} (hs : stp X (pc, ln, op, a, b, v, ts) lo st h = some (.inl (j, lo', st', h')))  (hd : decode (byt k) pc = .ok (.ior, ln)) (hm : mOp k pc ln op a b v ts (.ior) = true) (kk : KKt p l e R s m args below meth c A H0 cells slots Qf D G k h' lo' st' (nxt (pc, ln, op, a, b, v, ts) j)) : KKt p l e R s m args below meth c A H0 cells slots Qf D G k h lo st pc := by
  intro H locs ls hw hl
  obtain ⟨hx, hb, hml, hown, hts, hnw, hK, hR, hA, hX⟩ := C
  obtain ⟨hP, hD, hS, hj⟩ := id hw
  obtain ⟨rfl, rfl, rfl⟩ := of_decide_eq_true hm
  rcases st with _ | ⟨y1, st⟩
  · cases hs
  rcases st with _ | ⟨y2, st⟩
  · cases y1 <;> cases hs
  cases y1
  case int y =>
    cases y2
    case int x =>
      cases (show some (Sum.inl (none, lo, (Value.int (x ||| y)) :: st, h)) = some (Sum.inl (j, lo', st', h')) from hs)
      exact lv_ior hx hb hd (kk H locs ls hw hl)
    all_goals (cases hs)
  all_goals (cases y2 <;> cases hs)
set_option maxHeartbeats 2000000 in
set_option maxRecDepth 100000 in
theorem q_ixor {p : Program} {l : Launch} {e : Env} {R : Room} {s : State} {m : MethodId} {args : Array Value} {below : List Frame} {meth : Method} {c : Code} {A : Nat → Prop} {H0 : Heap} {cells slots : Nat} {Qf : State → Prop} {D : va_G} {G : GA} {k : Nat} {X : SX} (C : CX k X G D p s m args c R A H0 cells slots) {pc ln op a b : Nat} {v : Value} {ts : List (Int32 × Nat)} {lo lo' : Lo} {st st' : List Value} {h h' : AH} {j : Option Nat} (hs : stp X (pc, ln, op, a, b, v, ts) lo st h = some (.inl (j, lo', st', h')))  (hd : decode (byt k) pc = .ok (.ixor, ln)) (hm : mOp k pc ln op a b v ts (.ixor) = true) (kk : KKt p l e R s m args below meth c A H0 cells slots Qf D G k h' lo' st' (nxt (pc, ln, op, a, b, v, ts) j)) : KKt p l e R s m args below meth c A H0 cells slots Qf D G k h lo st pc := by
  intro H locs ls hw hl
  obtain ⟨hx, hb, hml, hown, hts, hnw, hK, hR, hA, hX⟩ := C
  obtain ⟨hP, hD, hS, hj⟩ := id hw
  obtain ⟨rfl, rfl, rfl⟩ := of_decide_eq_true hm
  rcases st with _ | ⟨y1, st⟩
  · cases hs
  rcases st with _ | ⟨y2, st⟩
  · cases y1 <;> cases hs
  cases y1
  case int y =>
    cases y2
    case int x =>
      cases (show some (Sum.inl (none, lo, (Value.int (x ^^^ y)) :: st, h)) = some (Sum.inl (j, lo', st', h')) from hs)
      exact lv_ixor hx hb hd (kk H locs ls hw hl)
    all_goals (cases hs)
  all_goals (cases y2 <;> cases hs)
set_option maxHeartbeats 2000000 in
set_option maxRecDepth 100000 in
theorem q_ishl {p : Program} {l : Launch} {e : Env} {R : Room} {s : State} {m : MethodId} {args : Array Value} {below : List Frame} {meth : Method} {c : Code} {A : Nat → Prop} {H0 : Heap} {cells slots : Nat} {Qf : State → Prop} {D : va_G} {G : GA} {k : Nat} {X : SX} (C : CX k X G D p s m args c R A H0 cells slots) {pc ln op a b : Nat} {v : Value} {ts : List (Int32 × Nat)} {lo lo' : Lo} {st st' : List Value} {h h' : AH} {j : Option Nat} (hs : stp X (pc, ln, op, a, b, v, ts) lo st h = some (.inl (j, lo', st', h')))  (hd : decode (byt k) pc = .ok (.ishl, ln)) (hm : mOp k pc ln op a b v ts (.ishl) = true) (kk : KKt p l e R s m args below meth c A H0 cells slots Qf D G k h' lo' st' (nxt (pc, ln, op, a, b, v, ts) j)) : KKt p l e R s m args below meth c A H0 cells slots Qf D G k h lo st pc := by
  intro H locs ls hw hl
  obtain ⟨hx, hb, hml, hown, hts, hnw, hK, hR, hA, hX⟩ := C
  obtain ⟨hP, hD, hS, hj⟩ := id hw
  obtain ⟨rfl, rfl, rfl⟩ := of_decide_eq_true hm
  rcases st with _ | ⟨y1, st⟩
  · cases hs
  rcases st with _ | ⟨y2, st⟩
  · cases y1 <;> cases hs
  cases y1
  case int y =>
    cases y2
    case int x =>
      cases (show some (Sum.inl (none, lo, (Value.int (x <<< (y &&& 31))) :: st, h)) = some (Sum.inl (j, lo', st', h')) from hs)
      exact lv_ishl hx hb hd (kk H locs ls hw hl)
    all_goals (cases hs)
  all_goals (cases y2 <;> cases hs)
set_option maxHeartbeats 2000000 in
set_option maxRecDepth 100000 in
theorem q_ishr {p : Program} {l : Launch} {e : Env} {R : Room} {s : State} {m : MethodId} {args : Array Value} {below : List Frame} {meth : Method} {c : Code} {A : Nat → Prop} {H0 : Heap} {cells slots : Nat} {Qf : State → Prop} {D : va_G} {G : GA} {k : Nat} {X : SX} (C : CX k X G D p s m args c R A H0 cells slots) {pc ln op a b : Nat} {v : Value} {ts : List (Int32 × Nat)} {lo lo' : Lo} {st st' : List Value} {h h' : AH} {j : Option Nat} (hs : stp X (pc, ln, op, a, b, v, ts) lo st h = some (.inl (j, lo', st', h')))  (hd : decode (byt k) pc = .ok (.ishr, ln)) (hm : mOp k pc ln op a b v ts (.ishr) = true) (kk : KKt p l e R s m args below meth c A H0 cells slots Qf D G k h' lo' st' (nxt (pc, ln, op, a, b, v, ts) j)) : KKt p l e R s m args below meth c A H0 cells slots Qf D G k h lo st pc := by
  intro H locs ls hw hl
  obtain ⟨hx, hb, hml, hown, hts, hnw, hK, hR, hA, hX⟩ := C
  obtain ⟨hP, hD, hS, hj⟩ := id hw
  obtain ⟨rfl, rfl, rfl⟩ := of_decide_eq_true hm
  rcases st with _ | ⟨y1, st⟩
  · cases hs
  rcases st with _ | ⟨y2, st⟩
  · cases y1 <;> cases hs
  cases y1
  case int y =>
    cases y2
    case int x =>
      cases (show some (Sum.inl (none, lo, (Value.int (x >>> (y &&& 31))) :: st, h)) = some (Sum.inl (j, lo', st', h')) from hs)
      exact lv_ishr hx hb hd (kk H locs ls hw hl)
    all_goals (cases hs)
  all_goals (cases y2 <;> cases hs)
set_option maxHeartbeats 2000000 in
set_option maxRecDepth 100000 in
theorem q_iushr {p : Program} {l : Launch} {e : Env} {R : Room} {s : State} {m : MethodId} {args : Array Value} {below : List Frame} {meth : Method} {c : Code} {A : Nat → Prop} {H0 : Heap} {cells slots : Nat} {Qf : State → Prop} {D : va_G} {G : GA} {k : Nat} {X : SX} (C : CX k X G D p s m args c R A H0 cells slots) {pc ln op a b : Nat} {v : Value} {ts : List (Int32 × Nat)} {lo lo' : Lo} {st st' : List Value} {h h' : AH} {j : Option Nat} (hs : stp X (pc, ln, op, a, b, v, ts) lo st h = some (.inl (j, lo', st', h')))  (hd : decode (byt k) pc = .ok (.iushr, ln)) (hm : mOp k pc ln op a b v ts (.iushr) = true) (kk : KKt p l e R s m args below meth c A H0 cells slots Qf D G k h' lo' st' (nxt (pc, ln, op, a, b, v, ts) j)) : KKt p l e R s m args below meth c A H0 cells slots Qf D G k h lo st pc := by
  intro H locs ls hw hl
  obtain ⟨hx, hb, hml, hown, hts, hnw, hK, hR, hA, hX⟩ := C
  obtain ⟨hP, hD, hS, hj⟩ := id hw
  obtain ⟨rfl, rfl, rfl⟩ := of_decide_eq_true hm
  rcases st with _ | ⟨y1, st⟩
  · cases hs
  rcases st with _ | ⟨y2, st⟩
  · cases y1 <;> cases hs
  cases y1
  case int y =>
    cases y2
    case int x =>
      cases (show some (Sum.inl (none, lo, (Value.int ((x.toUInt32 >>> (y.toUInt32 &&& Int32.toUInt32 31)).toInt32)) :: st, h)) = some (Sum.inl (j, lo', st', h')) from hs)
      exact lv_iushr hx hb hd rfl (kk H locs ls hw hl)
    all_goals (cases hs)
  all_goals (cases y2 <;> cases hs)
set_option maxHeartbeats 2000000 in
set_option maxRecDepth 100000 in
theorem q_idiv {p : Program} {l : Launch} {e : Env} {R : Room} {s : State} {m : MethodId} {args : Array Value} {below : List Frame} {meth : Method} {c : Code} {A : Nat → Prop} {H0 : Heap} {cells slots : Nat} {Qf : State → Prop} {D : va_G} {G : GA} {k : Nat} {X : SX} (C : CX k X G D p s m args c R A H0 cells slots) {pc ln op a b : Nat} {v : Value} {ts : List (Int32 × Nat)} {lo lo' : Lo} {st st' : List Value} {h h' : AH} {j : Option Nat} (hs : stp X (pc, ln, op, a, b, v, ts) lo st h = some (.inl (j, lo', st', h')))  (hd : decode (byt k) pc = .ok (.idiv, ln)) (hm : mOp k pc ln op a b v ts (.idiv) = true) (kk : KKt p l e R s m args below meth c A H0 cells slots Qf D G k h' lo' st' (nxt (pc, ln, op, a, b, v, ts) j)) : KKt p l e R s m args below meth c A H0 cells slots Qf D G k h lo st pc := by
  intro H locs ls hw hl
  obtain ⟨hx, hb, hml, hown, hts, hnw, hK, hR, hA, hX⟩ := C
  obtain ⟨hP, hD, hS, hj⟩ := id hw
  obtain ⟨rfl, rfl, rfl⟩ := of_decide_eq_true hm
  rcases st with _ | ⟨y1, st⟩
  · cases hs
  rcases st with _ | ⟨y2, st⟩
  · cases y1 <;> cases hs
  cases y1
  case int y =>
    cases y2
    case int x =>
      replace hs : (if y = 0 then none else nx lo (.int (x / y) :: st) h) = some (Sum.inl (j, lo', st', h')) := hs
      by_cases hy : y = 0
      · rw [if_pos hy] at hs; cases hs
      · rw [if_neg hy] at hs
        cases (show some (Sum.inl (none, lo, (Value.int (x / y)) :: st, h)) = some (Sum.inl (j, lo', st', h')) from hs)
        exact lv_idiv hx hb hd hy (kk H locs ls hw hl)
    all_goals (cases hs)
  all_goals (cases y2 <;> cases hs)
set_option maxHeartbeats 2000000 in
set_option maxRecDepth 100000 in
theorem q_irem {p : Program} {l : Launch} {e : Env} {R : Room} {s : State} {m : MethodId} {args : Array Value} {below : List Frame} {meth : Method} {c : Code} {A : Nat → Prop} {H0 : Heap} {cells slots : Nat} {Qf : State → Prop} {D : va_G} {G : GA} {k : Nat} {X : SX} (C : CX k X G D p s m args c R A H0 cells slots) {pc ln op a b : Nat} {v : Value} {ts : List (Int32 × Nat)} {lo lo' : Lo} {st st' : List Value} {h h' : AH} {j : Option Nat} (hs : stp X (pc, ln, op, a, b, v, ts) lo st h = some (.inl (j, lo', st', h')))  (hd : decode (byt k) pc = .ok (.irem, ln)) (hm : mOp k pc ln op a b v ts (.irem) = true) (kk : KKt p l e R s m args below meth c A H0 cells slots Qf D G k h' lo' st' (nxt (pc, ln, op, a, b, v, ts) j)) : KKt p l e R s m args below meth c A H0 cells slots Qf D G k h lo st pc := by
  intro H locs ls hw hl
  obtain ⟨hx, hb, hml, hown, hts, hnw, hK, hR, hA, hX⟩ := C
  obtain ⟨hP, hD, hS, hj⟩ := id hw
  obtain ⟨rfl, rfl, rfl⟩ := of_decide_eq_true hm
  rcases st with _ | ⟨y1, st⟩
  · cases hs
  rcases st with _ | ⟨y2, st⟩
  · cases y1 <;> cases hs
  cases y1
  case int y =>
    cases y2
    case int x =>
      replace hs : (if y = 0 then none else nx lo (.int (x - x / y * y) :: st) h) = some (Sum.inl (j, lo', st', h')) := hs
      by_cases hy : y = 0
      · rw [if_pos hy] at hs; cases hs
      · rw [if_neg hy] at hs
        cases (show some (Sum.inl (none, lo, (Value.int (x - x / y * y)) :: st, h)) = some (Sum.inl (j, lo', st', h')) from hs)
        exact lv_irem hx hb hd hy (kk H locs ls hw hl)
    all_goals (cases hs)
  all_goals (cases y2 <;> cases hs)
set_option maxHeartbeats 2000000 in
set_option maxRecDepth 100000 in
theorem q_ladd {p : Program} {l : Launch} {e : Env} {R : Room} {s : State} {m : MethodId} {args : Array Value} {below : List Frame} {meth : Method} {c : Code} {A : Nat → Prop} {H0 : Heap} {cells slots : Nat} {Qf : State → Prop} {D : va_G} {G : GA} {k : Nat} {X : SX} (C : CX k X G D p s m args c R A H0 cells slots) {pc ln op a b : Nat} {v : Value} {ts : List (Int32 × Nat)} {lo lo' : Lo} {st st' : List Value} {h h' : AH} {j : Option Nat} (hs : stp X (pc, ln, op, a, b, v, ts) lo st h = some (.inl (j, lo', st', h')))  (hd : decode (byt k) pc = .ok (.ladd, ln)) (hm : mOp k pc ln op a b v ts (.ladd) = true) (kk : KKt p l e R s m args below meth c A H0 cells slots Qf D G k h' lo' st' (nxt (pc, ln, op, a, b, v, ts) j)) : KKt p l e R s m args below meth c A H0 cells slots Qf D G k h lo st pc := by
  intro H locs ls hw hl
  obtain ⟨hx, hb, hml, hown, hts, hnw, hK, hR, hA, hX⟩ := C
  obtain ⟨hP, hD, hS, hj⟩ := id hw
  obtain ⟨rfl, rfl, rfl⟩ := of_decide_eq_true hm
  rcases st with _ | ⟨y1, st⟩
  · cases hs
  rcases st with _ | ⟨y2, st⟩
  · cases y1 <;> cases hs
  cases y1
  case long y =>
    cases y2
    case long x =>
      cases (show some (Sum.inl (none, lo, (Value.long (x + y)) :: st, h)) = some (Sum.inl (j, lo', st', h')) from hs)
      exact lv_ladd hx hb hd (kk H locs ls hw hl)
    all_goals (cases hs)
  all_goals (cases y2 <;> cases hs)
set_option maxHeartbeats 2000000 in
set_option maxRecDepth 100000 in
theorem q_lsub {p : Program} {l : Launch} {e : Env} {R : Room} {s : State} {m : MethodId} {args : Array Value} {below : List Frame} {meth : Method} {c : Code} {A : Nat → Prop} {H0 : Heap} {cells slots : Nat} {Qf : State → Prop} {D : va_G} {G : GA} {k : Nat} {X : SX} (C : CX k X G D p s m args c R A H0 cells slots) {pc ln op a b : Nat} {v : Value} {ts : List (Int32 × Nat)} {lo lo' : Lo} {st st' : List Value} {h h' : AH} {j : Option Nat} (hs : stp X (pc, ln, op, a, b, v, ts) lo st h = some (.inl (j, lo', st', h')))  (hd : decode (byt k) pc = .ok (.lsub, ln)) (hm : mOp k pc ln op a b v ts (.lsub) = true) (kk : KKt p l e R s m args below meth c A H0 cells slots Qf D G k h' lo' st' (nxt (pc, ln, op, a, b, v, ts) j)) : KKt p l e R s m args below meth c A H0 cells slots Qf D G k h lo st pc := by
  intro H locs ls hw hl
  obtain ⟨hx, hb, hml, hown, hts, hnw, hK, hR, hA, hX⟩ := C
  obtain ⟨hP, hD, hS, hj⟩ := id hw
  obtain ⟨rfl, rfl, rfl⟩ := of_decide_eq_true hm
  rcases st with _ | ⟨y1, st⟩
  · cases hs
  rcases st with _ | ⟨y2, st⟩
  · cases y1 <;> cases hs
  cases y1
  case long y =>
    cases y2
    case long x =>
      cases (show some (Sum.inl (none, lo, (Value.long (x - y)) :: st, h)) = some (Sum.inl (j, lo', st', h')) from hs)
      exact lv_lsub hx hb hd (kk H locs ls hw hl)
    all_goals (cases hs)
  all_goals (cases y2 <;> cases hs)
set_option maxHeartbeats 2000000 in
set_option maxRecDepth 100000 in
theorem q_lmul {p : Program} {l : Launch} {e : Env} {R : Room} {s : State} {m : MethodId} {args : Array Value} {below : List Frame} {meth : Method} {c : Code} {A : Nat → Prop} {H0 : Heap} {cells slots : Nat} {Qf : State → Prop} {D : va_G} {G : GA} {k : Nat} {X : SX} (C : CX k X G D p s m args c R A H0 cells slots) {pc ln op a b : Nat} {v : Value} {ts : List (Int32 × Nat)} {lo lo' : Lo} {st st' : List Value} {h h' : AH} {j : Option Nat} (hs : stp X (pc, ln, op, a, b, v, ts) lo st h = some (.inl (j, lo', st', h')))  (hd : decode (byt k) pc = .ok (.lmul, ln)) (hm : mOp k pc ln op a b v ts (.lmul) = true) (kk : KKt p l e R s m args below meth c A H0 cells slots Qf D G k h' lo' st' (nxt (pc, ln, op, a, b, v, ts) j)) : KKt p l e R s m args below meth c A H0 cells slots Qf D G k h lo st pc := by
  intro H locs ls hw hl
  obtain ⟨hx, hb, hml, hown, hts, hnw, hK, hR, hA, hX⟩ := C
  obtain ⟨hP, hD, hS, hj⟩ := id hw
  obtain ⟨rfl, rfl, rfl⟩ := of_decide_eq_true hm
  rcases st with _ | ⟨y1, st⟩
  · cases hs
  rcases st with _ | ⟨y2, st⟩
  · cases y1 <;> cases hs
  cases y1
  case long y =>
    cases y2
    case long x =>
      cases (show some (Sum.inl (none, lo, (Value.long (x * y)) :: st, h)) = some (Sum.inl (j, lo', st', h')) from hs)
      exact lv_lmul hx hb hd (kk H locs ls hw hl)
    all_goals (cases hs)
  all_goals (cases y2 <;> cases hs)
set_option maxHeartbeats 2000000 in
set_option maxRecDepth 100000 in
theorem q_land {p : Program} {l : Launch} {e : Env} {R : Room} {s : State} {m : MethodId} {args : Array Value} {below : List Frame} {meth : Method} {c : Code} {A : Nat → Prop} {H0 : Heap} {cells slots : Nat} {Qf : State → Prop} {D : va_G} {G : GA} {k : Nat} {X : SX} (C : CX k X G D p s m args c R A H0 cells slots) {pc ln op a b : Nat} {v : Value} {ts : List (Int32 × Nat)} {lo lo' : Lo} {st st' : List Value} {h h' : AH} {j : Option Nat} (hs : stp X (pc, ln, op, a, b, v, ts) lo st h = some (.inl (j, lo', st', h')))  (hd : decode (byt k) pc = .ok (.land, ln)) (hm : mOp k pc ln op a b v ts (.land) = true) (kk : KKt p l e R s m args below meth c A H0 cells slots Qf D G k h' lo' st' (nxt (pc, ln, op, a, b, v, ts) j)) : KKt p l e R s m args below meth c A H0 cells slots Qf D G k h lo st pc := by
  intro H locs ls hw hl
  obtain ⟨hx, hb, hml, hown, hts, hnw, hK, hR, hA, hX⟩ := C
  obtain ⟨hP, hD, hS, hj⟩ := id hw
  obtain ⟨rfl, rfl, rfl⟩ := of_decide_eq_true hm
  rcases st with _ | ⟨y1, st⟩
  · cases hs
  rcases st with _ | ⟨y2, st⟩
  · cases y1 <;> cases hs
  cases y1
  case long y =>
    cases y2
    case long x =>
      cases (show some (Sum.inl (none, lo, (Value.long (x &&& y)) :: st, h)) = some (Sum.inl (j, lo', st', h')) from hs)
      exact lv_land hx hb hd (kk H locs ls hw hl)
    all_goals (cases hs)
  all_goals (cases y2 <;> cases hs)
set_option maxHeartbeats 2000000 in
set_option maxRecDepth 100000 in
theorem q_lor {p : Program} {l : Launch} {e : Env} {R : Room} {s : State} {m : MethodId} {args : Array Value} {below : List Frame} {meth : Method} {c : Code} {A : Nat → Prop} {H0 : Heap} {cells slots : Nat} {Qf : State → Prop} {D : va_G} {G : GA} {k : Nat} {X : SX} (C : CX k X G D p s m args c R A H0 cells slots) {pc ln op a b : Nat} {v : Value} {ts : List (Int32 × Nat)} {lo lo' : Lo} {st st' : List Value} {h h' : AH} {j : Option Nat} (hs : stp X (pc, ln, op, a, b, v, ts) lo st h = some (.inl (j, lo', st', h')))  (hd : decode (byt k) pc = .ok (.lor, ln)) (hm : mOp k pc ln op a b v ts (.lor) = true) (kk : KKt p l e R s m args below meth c A H0 cells slots Qf D G k h' lo' st' (nxt (pc, ln, op, a, b, v, ts) j)) : KKt p l e R s m args below meth c A H0 cells slots Qf D G k h lo st pc := by
  intro H locs ls hw hl
  obtain ⟨hx, hb, hml, hown, hts, hnw, hK, hR, hA, hX⟩ := C
  obtain ⟨hP, hD, hS, hj⟩ := id hw
  obtain ⟨rfl, rfl, rfl⟩ := of_decide_eq_true hm
  rcases st with _ | ⟨y1, st⟩
  · cases hs
  rcases st with _ | ⟨y2, st⟩
  · cases y1 <;> cases hs
  cases y1
  case long y =>
    cases y2
    case long x =>
      cases (show some (Sum.inl (none, lo, (Value.long (x ||| y)) :: st, h)) = some (Sum.inl (j, lo', st', h')) from hs)
      exact lv_lor hx hb hd (kk H locs ls hw hl)
    all_goals (cases hs)
  all_goals (cases y2 <;> cases hs)
set_option maxHeartbeats 2000000 in
set_option maxRecDepth 100000 in
theorem q_lxor {p : Program} {l : Launch} {e : Env} {R : Room} {s : State} {m : MethodId} {args : Array Value} {below : List Frame} {meth : Method} {c : Code} {A : Nat → Prop} {H0 : Heap} {cells slots : Nat} {Qf : State → Prop} {D : va_G} {G : GA} {k : Nat} {X : SX} (C : CX k X G D p s m args c R A H0 cells slots) {pc ln op a b : Nat} {v : Value} {ts : List (Int32 × Nat)} {lo lo' : Lo} {st st' : List Value} {h h' : AH} {j : Option Nat} (hs : stp X (pc, ln, op, a, b, v, ts) lo st h = some (.inl (j, lo', st', h')))  (hd : decode (byt k) pc = .ok (.lxor, ln)) (hm : mOp k pc ln op a b v ts (.lxor) = true) (kk : KKt p l e R s m args below meth c A H0 cells slots Qf D G k h' lo' st' (nxt (pc, ln, op, a, b, v, ts) j)) : KKt p l e R s m args below meth c A H0 cells slots Qf D G k h lo st pc := by
  intro H locs ls hw hl
  obtain ⟨hx, hb, hml, hown, hts, hnw, hK, hR, hA, hX⟩ := C
  obtain ⟨hP, hD, hS, hj⟩ := id hw
  obtain ⟨rfl, rfl, rfl⟩ := of_decide_eq_true hm
  rcases st with _ | ⟨y1, st⟩
  · cases hs
  rcases st with _ | ⟨y2, st⟩
  · cases y1 <;> cases hs
  cases y1
  case long y =>
    cases y2
    case long x =>
      cases (show some (Sum.inl (none, lo, (Value.long (x ^^^ y)) :: st, h)) = some (Sum.inl (j, lo', st', h')) from hs)
      exact lv_lxor hx hb hd (kk H locs ls hw hl)
    all_goals (cases hs)
  all_goals (cases y2 <;> cases hs)
set_option maxHeartbeats 2000000 in
set_option maxRecDepth 100000 in
theorem q_ldiv {p : Program} {l : Launch} {e : Env} {R : Room} {s : State} {m : MethodId} {args : Array Value} {below : List Frame} {meth : Method} {c : Code} {A : Nat → Prop} {H0 : Heap} {cells slots : Nat} {Qf : State → Prop} {D : va_G} {G : GA} {k : Nat} {X : SX} (C : CX k X G D p s m args c R A H0 cells slots) {pc ln op a b : Nat} {v : Value} {ts : List (Int32 × Nat)} {lo lo' : Lo} {st st' : List Value} {h h' : AH} {j : Option Nat} (hs : stp X (pc, ln, op, a, b, v, ts) lo st h = some (.inl (j, lo', st', h')))  (hd : decode (byt k) pc = .ok (.ldiv, ln)) (hm : mOp k pc ln op a b v ts (.ldiv) = true) (kk : KKt p l e R s m args below meth c A H0 cells slots Qf D G k h' lo' st' (nxt (pc, ln, op, a, b, v, ts) j)) : KKt p l e R s m args below meth c A H0 cells slots Qf D G k h lo st pc := by
  intro H locs ls hw hl
  obtain ⟨hx, hb, hml, hown, hts, hnw, hK, hR, hA, hX⟩ := C
  obtain ⟨hP, hD, hS, hj⟩ := id hw
  obtain ⟨rfl, rfl, rfl⟩ := of_decide_eq_true hm
  rcases st with _ | ⟨y1, st⟩
  · cases hs
  rcases st with _ | ⟨y2, st⟩
  · cases y1 <;> cases hs
  cases y1
  case long y =>
    cases y2
    case long x =>
      replace hs : (if y = 0 then none else nx lo (.long (x / y) :: st) h) = some (Sum.inl (j, lo', st', h')) := hs
      by_cases hy : y = 0
      · rw [if_pos hy] at hs; cases hs
      · rw [if_neg hy] at hs
        cases (show some (Sum.inl (none, lo, (Value.long (x / y)) :: st, h)) = some (Sum.inl (j, lo', st', h')) from hs)
        exact lv_ldiv hx hb hd hy (kk H locs ls hw hl)
    all_goals (cases hs)
  all_goals (cases y2 <;> cases hs)
set_option maxHeartbeats 2000000 in
set_option maxRecDepth 100000 in
theorem q_lrem {p : Program} {l : Launch} {e : Env} {R : Room} {s : State} {m : MethodId} {args : Array Value} {below : List Frame} {meth : Method} {c : Code} {A : Nat → Prop} {H0 : Heap} {cells slots : Nat} {Qf : State → Prop} {D : va_G} {G : GA} {k : Nat} {X : SX} (C : CX k X G D p s m args c R A H0 cells slots) {pc ln op a b : Nat} {v : Value} {ts : List (Int32 × Nat)} {lo lo' : Lo} {st st' : List Value} {h h' : AH} {j : Option Nat} (hs : stp X (pc, ln, op, a, b, v, ts) lo st h = some (.inl (j, lo', st', h')))  (hd : decode (byt k) pc = .ok (.lrem, ln)) (hm : mOp k pc ln op a b v ts (.lrem) = true) (kk : KKt p l e R s m args below meth c A H0 cells slots Qf D G k h' lo' st' (nxt (pc, ln, op, a, b, v, ts) j)) : KKt p l e R s m args below meth c A H0 cells slots Qf D G k h lo st pc := by
  intro H locs ls hw hl
  obtain ⟨hx, hb, hml, hown, hts, hnw, hK, hR, hA, hX⟩ := C
  obtain ⟨hP, hD, hS, hj⟩ := id hw
  obtain ⟨rfl, rfl, rfl⟩ := of_decide_eq_true hm
  rcases st with _ | ⟨y1, st⟩
  · cases hs
  rcases st with _ | ⟨y2, st⟩
  · cases y1 <;> cases hs
  cases y1
  case long y =>
    cases y2
    case long x =>
      replace hs : (if y = 0 then none else nx lo (.long (x - x / y * y) :: st) h) = some (Sum.inl (j, lo', st', h')) := hs
      by_cases hy : y = 0
      · rw [if_pos hy] at hs; cases hs
      · rw [if_neg hy] at hs
        cases (show some (Sum.inl (none, lo, (Value.long (x - x / y * y)) :: st, h)) = some (Sum.inl (j, lo', st', h')) from hs)
        exact lv_lrem hx hb hd hy (kk H locs ls hw hl)
    all_goals (cases hs)
  all_goals (cases y2 <;> cases hs)
set_option maxHeartbeats 2000000 in
set_option maxRecDepth 100000 in
theorem q_lshl {p : Program} {l : Launch} {e : Env} {R : Room} {s : State} {m : MethodId} {args : Array Value} {below : List Frame} {meth : Method} {c : Code} {A : Nat → Prop} {H0 : Heap} {cells slots : Nat} {Qf : State → Prop} {D : va_G} {G : GA} {k : Nat} {X : SX} (C : CX k X G D p s m args c R A H0 cells slots) {pc ln op a b : Nat} {v : Value} {ts : List (Int32 × Nat)} {lo lo' : Lo} {st st' : List Value} {h h' : AH} {j : Option Nat} (hs : stp X (pc, ln, op, a, b, v, ts) lo st h = some (.inl (j, lo', st', h')))  (hd : decode (byt k) pc = .ok (.lshl, ln)) (hm : mOp k pc ln op a b v ts (.lshl) = true) (kk : KKt p l e R s m args below meth c A H0 cells slots Qf D G k h' lo' st' (nxt (pc, ln, op, a, b, v, ts) j)) : KKt p l e R s m args below meth c A H0 cells slots Qf D G k h lo st pc := by
  intro H locs ls hw hl
  obtain ⟨hx, hb, hml, hown, hts, hnw, hK, hR, hA, hX⟩ := C
  obtain ⟨hP, hD, hS, hj⟩ := id hw
  obtain ⟨rfl, rfl, rfl⟩ := of_decide_eq_true hm
  rcases st with _ | ⟨y1, st⟩
  · cases hs
  rcases st with _ | ⟨y2, st⟩
  · cases y1 <;> cases hs
  cases y1
  case int y =>
    cases y2
    case long x =>
      cases (show some (Sum.inl (none, lo, (Value.long (x <<< (y.toInt64 &&& 63))) :: st, h)) = some (Sum.inl (j, lo', st', h')) from hs)
      exact lv_lshl hx hb hd rfl (kk H locs ls hw hl)
    all_goals (cases hs)
  all_goals (cases y2 <;> cases hs)
set_option maxHeartbeats 2000000 in
set_option maxRecDepth 100000 in
theorem q_lshr {p : Program} {l : Launch} {e : Env} {R : Room} {s : State} {m : MethodId} {args : Array Value} {below : List Frame} {meth : Method} {c : Code} {A : Nat → Prop} {H0 : Heap} {cells slots : Nat} {Qf : State → Prop} {D : va_G} {G : GA} {k : Nat} {X : SX} (C : CX k X G D p s m args c R A H0 cells slots) {pc ln op a b : Nat} {v : Value} {ts : List (Int32 × Nat)} {lo lo' : Lo} {st st' : List Value} {h h' : AH} {j : Option Nat} (hs : stp X (pc, ln, op, a, b, v, ts) lo st h = some (.inl (j, lo', st', h')))  (hd : decode (byt k) pc = .ok (.lshr, ln)) (hm : mOp k pc ln op a b v ts (.lshr) = true) (kk : KKt p l e R s m args below meth c A H0 cells slots Qf D G k h' lo' st' (nxt (pc, ln, op, a, b, v, ts) j)) : KKt p l e R s m args below meth c A H0 cells slots Qf D G k h lo st pc := by
  intro H locs ls hw hl
  obtain ⟨hx, hb, hml, hown, hts, hnw, hK, hR, hA, hX⟩ := C
  obtain ⟨hP, hD, hS, hj⟩ := id hw
  obtain ⟨rfl, rfl, rfl⟩ := of_decide_eq_true hm
  rcases st with _ | ⟨y1, st⟩
  · cases hs
  rcases st with _ | ⟨y2, st⟩
  · cases y1 <;> cases hs
  cases y1
  case int y =>
    cases y2
    case long x =>
      cases (show some (Sum.inl (none, lo, (Value.long (x >>> (y.toInt64 &&& 63))) :: st, h)) = some (Sum.inl (j, lo', st', h')) from hs)
      exact lv_lshr hx hb hd rfl (kk H locs ls hw hl)
    all_goals (cases hs)
  all_goals (cases y2 <;> cases hs)
set_option maxHeartbeats 2000000 in
set_option maxRecDepth 100000 in
theorem q_lushr {p : Program} {l : Launch} {e : Env} {R : Room} {s : State} {m : MethodId} {args : Array Value} {below : List Frame} {meth : Method} {c : Code} {A : Nat → Prop} {H0 : Heap} {cells slots : Nat} {Qf : State → Prop} {D : va_G} {G : GA} {k : Nat} {X : SX} (C : CX k X G D p s m args c R A H0 cells slots) {pc ln op a b : Nat} {v : Value} {ts : List (Int32 × Nat)} {lo lo' : Lo} {st st' : List Value} {h h' : AH} {j : Option Nat} (hs : stp X (pc, ln, op, a, b, v, ts) lo st h = some (.inl (j, lo', st', h')))  (hd : decode (byt k) pc = .ok (.lushr, ln)) (hm : mOp k pc ln op a b v ts (.lushr) = true) (kk : KKt p l e R s m args below meth c A H0 cells slots Qf D G k h' lo' st' (nxt (pc, ln, op, a, b, v, ts) j)) : KKt p l e R s m args below meth c A H0 cells slots Qf D G k h lo st pc := by
  intro H locs ls hw hl
  obtain ⟨hx, hb, hml, hown, hts, hnw, hK, hR, hA, hX⟩ := C
  obtain ⟨hP, hD, hS, hj⟩ := id hw
  obtain ⟨rfl, rfl, rfl⟩ := of_decide_eq_true hm
  rcases st with _ | ⟨y1, st⟩
  · cases hs
  rcases st with _ | ⟨y2, st⟩
  · cases y1 <;> cases hs
  cases y1
  case int y =>
    cases y2
    case long x =>
      cases (show some (Sum.inl (none, lo, (Value.long ((x.toUInt64 >>> (y.toInt64.toUInt64 &&& Int64.toUInt64 63)).toInt64)) :: st, h)) = some (Sum.inl (j, lo', st', h')) from hs)
      exact lv_lushr hx hb hd rfl (kk H locs ls hw hl)
    all_goals (cases hs)
  all_goals (cases y2 <;> cases hs)
set_option maxHeartbeats 2000000 in
set_option maxRecDepth 100000 in
theorem q_lcmp {p : Program} {l : Launch} {e : Env} {R : Room} {s : State} {m : MethodId} {args : Array Value} {below : List Frame} {meth : Method} {c : Code} {A : Nat → Prop} {H0 : Heap} {cells slots : Nat} {Qf : State → Prop} {D : va_G} {G : GA} {k : Nat} {X : SX} (C : CX k X G D p s m args c R A H0 cells slots) {pc ln op a b : Nat} {v : Value} {ts : List (Int32 × Nat)} {lo lo' : Lo} {st st' : List Value} {h h' : AH} {j : Option Nat} (hs : stp X (pc, ln, op, a, b, v, ts) lo st h = some (.inl (j, lo', st', h')))  (hd : decode (byt k) pc = .ok (.lcmp, ln)) (hm : mOp k pc ln op a b v ts (.lcmp) = true) (kk : KKt p l e R s m args below meth c A H0 cells slots Qf D G k h' lo' st' (nxt (pc, ln, op, a, b, v, ts) j)) : KKt p l e R s m args below meth c A H0 cells slots Qf D G k h lo st pc := by
  intro H locs ls hw hl
  obtain ⟨hx, hb, hml, hown, hts, hnw, hK, hR, hA, hX⟩ := C
  obtain ⟨hP, hD, hS, hj⟩ := id hw
  obtain ⟨rfl, rfl⟩ := of_decide_eq_true hm
  rcases st with _ | ⟨y1, st⟩
  · cases hs
  rcases st with _ | ⟨y2, st⟩
  · cases y1 <;> cases hs
  cases y1
  case long y =>
    cases y2
    case long x =>
      cases (show some (Sum.inl (none, lo, (Value.int (lg_cmp x y)) :: st, h)) = some (Sum.inl (j, lo', st', h')) from hs)
      exact W.lcmp hx hb hd (kk H locs ls hw hl)
    all_goals (cases hs)
  all_goals (cases y2 <;> cases hs)
set_option maxHeartbeats 2000000 in
set_option maxRecDepth 100000 in
theorem q_ineg {p : Program} {l : Launch} {e : Env} {R : Room} {s : State} {m : MethodId} {args : Array Value} {below : List Frame} {meth : Method} {c : Code} {A : Nat → Prop} {H0 : Heap} {cells slots : Nat} {Qf : State → Prop} {D : va_G} {G : GA} {k : Nat} {X : SX} (C : CX k X G D p s m args c R A H0 cells slots) {pc ln op a b : Nat} {v : Value} {ts : List (Int32 × Nat)} {lo lo' : Lo} {st st' : List Value} {h h' : AH} {j : Option Nat} (hs : stp X (pc, ln, op, a, b, v, ts) lo st h = some (.inl (j, lo', st', h')))  (hd : decode (byt k) pc = .ok (.ineg, ln)) (hm : mOp k pc ln op a b v ts (.ineg) = true) (kk : KKt p l e R s m args below meth c A H0 cells slots Qf D G k h' lo' st' (nxt (pc, ln, op, a, b, v, ts) j)) : KKt p l e R s m args below meth c A H0 cells slots Qf D G k h lo st pc := by
  intro H locs ls hw hl
  obtain ⟨hx, hb, hml, hown, hts, hnw, hK, hR, hA, hX⟩ := C
  obtain ⟨hP, hD, hS, hj⟩ := id hw
  obtain ⟨rfl, rfl, rfl⟩ := of_decide_eq_true hm
  rcases st with _ | ⟨y1, st⟩
  · cases hs
  cases y1
  case int x =>
    cases (show some (Sum.inl (none, lo, (Value.int (-x)) :: st, h)) = some (Sum.inl (j, lo', st', h')) from hs)
    exact lv_ineg hx hb hd (kk H locs ls hw hl)
  all_goals (cases hs)
set_option maxHeartbeats 2000000 in
set_option maxRecDepth 100000 in
theorem q_lneg {p : Program} {l : Launch} {e : Env} {R : Room} {s : State} {m : MethodId} {args : Array Value} {below : List Frame} {meth : Method} {c : Code} {A : Nat → Prop} {H0 : Heap} {cells slots : Nat} {Qf : State → Prop} {D : va_G} {G : GA} {k : Nat} {X : SX} (C : CX k X G D p s m args c R A H0 cells slots) {pc ln op a b : Nat} {v : Value} {ts : List (Int32 × Nat)} {lo lo' : Lo} {st st' : List Value} {h h' : AH} {j : Option Nat} (hs : stp X (pc, ln, op, a, b, v, ts) lo st h = some (.inl (j, lo', st', h')))  (hd : decode (byt k) pc = .ok (.lneg, ln)) (hm : mOp k pc ln op a b v ts (.lneg) = true) (kk : KKt p l e R s m args below meth c A H0 cells slots Qf D G k h' lo' st' (nxt (pc, ln, op, a, b, v, ts) j)) : KKt p l e R s m args below meth c A H0 cells slots Qf D G k h lo st pc := by
  intro H locs ls hw hl
  obtain ⟨hx, hb, hml, hown, hts, hnw, hK, hR, hA, hX⟩ := C
  obtain ⟨hP, hD, hS, hj⟩ := id hw
  obtain ⟨rfl, rfl, rfl⟩ := of_decide_eq_true hm
  rcases st with _ | ⟨y1, st⟩
  · cases hs
  cases y1
  case long x =>
    cases (show some (Sum.inl (none, lo, (Value.long (-x)) :: st, h)) = some (Sum.inl (j, lo', st', h')) from hs)
    exact lv_lneg hx hb hd (kk H locs ls hw hl)
  all_goals (cases hs)
set_option maxHeartbeats 2000000 in
set_option maxRecDepth 100000 in
theorem q_i2l {p : Program} {l : Launch} {e : Env} {R : Room} {s : State} {m : MethodId} {args : Array Value} {below : List Frame} {meth : Method} {c : Code} {A : Nat → Prop} {H0 : Heap} {cells slots : Nat} {Qf : State → Prop} {D : va_G} {G : GA} {k : Nat} {X : SX} (C : CX k X G D p s m args c R A H0 cells slots) {pc ln op a b : Nat} {v : Value} {ts : List (Int32 × Nat)} {lo lo' : Lo} {st st' : List Value} {h h' : AH} {j : Option Nat} (hs : stp X (pc, ln, op, a, b, v, ts) lo st h = some (.inl (j, lo', st', h')))  (hd : decode (byt k) pc = .ok (.i2l, ln)) (hm : mOp k pc ln op a b v ts (.i2l) = true) (kk : KKt p l e R s m args below meth c A H0 cells slots Qf D G k h' lo' st' (nxt (pc, ln, op, a, b, v, ts) j)) : KKt p l e R s m args below meth c A H0 cells slots Qf D G k h lo st pc := by
  intro H locs ls hw hl
  obtain ⟨hx, hb, hml, hown, hts, hnw, hK, hR, hA, hX⟩ := C
  obtain ⟨hP, hD, hS, hj⟩ := id hw
  obtain ⟨rfl, rfl, rfl⟩ := of_decide_eq_true hm
  rcases st with _ | ⟨y1, st⟩
  · cases hs
  cases y1
  case int x =>
    cases (show some (Sum.inl (none, lo, (Value.long (x.toInt64)) :: st, h)) = some (Sum.inl (j, lo', st', h')) from hs)
    exact lv_i2l hx hb hd rfl (kk H locs ls hw hl)
  all_goals (cases hs)
set_option maxHeartbeats 2000000 in
set_option maxRecDepth 100000 in
theorem q_l2i {p : Program} {l : Launch} {e : Env} {R : Room} {s : State} {m : MethodId} {args : Array Value} {below : List Frame} {meth : Method} {c : Code} {A : Nat → Prop} {H0 : Heap} {cells slots : Nat} {Qf : State → Prop} {D : va_G} {G : GA} {k : Nat} {X : SX} (C : CX k X G D p s m args c R A H0 cells slots) {pc ln op a b : Nat} {v : Value} {ts : List (Int32 × Nat)} {lo lo' : Lo} {st st' : List Value} {h h' : AH} {j : Option Nat} (hs : stp X (pc, ln, op, a, b, v, ts) lo st h = some (.inl (j, lo', st', h')))  (hd : decode (byt k) pc = .ok (.l2i, ln)) (hm : mOp k pc ln op a b v ts (.l2i) = true) (kk : KKt p l e R s m args below meth c A H0 cells slots Qf D G k h' lo' st' (nxt (pc, ln, op, a, b, v, ts) j)) : KKt p l e R s m args below meth c A H0 cells slots Qf D G k h lo st pc := by
  intro H locs ls hw hl
  obtain ⟨hx, hb, hml, hown, hts, hnw, hK, hR, hA, hX⟩ := C
  obtain ⟨hP, hD, hS, hj⟩ := id hw
  obtain ⟨rfl, rfl, rfl⟩ := of_decide_eq_true hm
  rcases st with _ | ⟨y1, st⟩
  · cases hs
  cases y1
  case long x =>
    cases (show some (Sum.inl (none, lo, (Value.int (x.toInt32)) :: st, h)) = some (Sum.inl (j, lo', st', h')) from hs)
    exact lv_l2i hx hb hd rfl (kk H locs ls hw hl)
  all_goals (cases hs)
set_option maxHeartbeats 2000000 in
set_option maxRecDepth 100000 in
theorem q_i2b {p : Program} {l : Launch} {e : Env} {R : Room} {s : State} {m : MethodId} {args : Array Value} {below : List Frame} {meth : Method} {c : Code} {A : Nat → Prop} {H0 : Heap} {cells slots : Nat} {Qf : State → Prop} {D : va_G} {G : GA} {k : Nat} {X : SX} (C : CX k X G D p s m args c R A H0 cells slots) {pc ln op a b : Nat} {v : Value} {ts : List (Int32 × Nat)} {lo lo' : Lo} {st st' : List Value} {h h' : AH} {j : Option Nat} (hs : stp X (pc, ln, op, a, b, v, ts) lo st h = some (.inl (j, lo', st', h')))  (hd : decode (byt k) pc = .ok (.i2b, ln)) (hm : mOp k pc ln op a b v ts (.i2b) = true) (kk : KKt p l e R s m args below meth c A H0 cells slots Qf D G k h' lo' st' (nxt (pc, ln, op, a, b, v, ts) j)) : KKt p l e R s m args below meth c A H0 cells slots Qf D G k h lo st pc := by
  intro H locs ls hw hl
  obtain ⟨hx, hb, hml, hown, hts, hnw, hK, hR, hA, hX⟩ := C
  obtain ⟨hP, hD, hS, hj⟩ := id hw
  obtain ⟨rfl, rfl, rfl⟩ := of_decide_eq_true hm
  rcases st with _ | ⟨y1, st⟩
  · cases hs
  cases y1
  case int x =>
    cases (show some (Sum.inl (none, lo, (Value.int (x.toInt8.toInt32)) :: st, h)) = some (Sum.inl (j, lo', st', h')) from hs)
    exact lv_i2b hx hb hd rfl (kk H locs ls hw hl)
  all_goals (cases hs)
set_option maxHeartbeats 2000000 in
set_option maxRecDepth 100000 in
theorem q_i2s {p : Program} {l : Launch} {e : Env} {R : Room} {s : State} {m : MethodId} {args : Array Value} {below : List Frame} {meth : Method} {c : Code} {A : Nat → Prop} {H0 : Heap} {cells slots : Nat} {Qf : State → Prop} {D : va_G} {G : GA} {k : Nat} {X : SX} (C : CX k X G D p s m args c R A H0 cells slots) {pc ln op a b : Nat} {v : Value} {ts : List (Int32 × Nat)} {lo lo' : Lo} {st st' : List Value} {h h' : AH} {j : Option Nat} (hs : stp X (pc, ln, op, a, b, v, ts) lo st h = some (.inl (j, lo', st', h')))  (hd : decode (byt k) pc = .ok (.i2s, ln)) (hm : mOp k pc ln op a b v ts (.i2s) = true) (kk : KKt p l e R s m args below meth c A H0 cells slots Qf D G k h' lo' st' (nxt (pc, ln, op, a, b, v, ts) j)) : KKt p l e R s m args below meth c A H0 cells slots Qf D G k h lo st pc := by
  intro H locs ls hw hl
  obtain ⟨hx, hb, hml, hown, hts, hnw, hK, hR, hA, hX⟩ := C
  obtain ⟨hP, hD, hS, hj⟩ := id hw
  obtain ⟨rfl, rfl, rfl⟩ := of_decide_eq_true hm
  rcases st with _ | ⟨y1, st⟩
  · cases hs
  cases y1
  case int x =>
    cases (show some (Sum.inl (none, lo, (Value.int (x.toInt16.toInt32)) :: st, h)) = some (Sum.inl (j, lo', st', h')) from hs)
    exact lv_i2s hx hb hd rfl (kk H locs ls hw hl)
  all_goals (cases hs)
set_option maxHeartbeats 2000000 in
set_option maxRecDepth 100000 in
theorem q_ifCond {p : Program} {l : Launch} {e : Env} {R : Room} {s : State} {m : MethodId} {args : Array Value} {below : List Frame} {meth : Method} {c : Code} {A : Nat → Prop} {H0 : Heap} {cells slots : Nat} {Qf : State → Prop} {D : va_G} {G : GA} {k : Nat} {X : SX} (C : CX k X G D p s m args c R A H0 cells slots) {pc ln op a b : Nat} {v : Value} {ts : List (Int32 × Nat)} {lo lo' : Lo} {st st' : List Value} {h h' : AH} {j : Option Nat} (hs : stp X (pc, ln, op, a, b, v, ts) lo st h = some (.inl (j, lo', st', h'))) {cond : Jvm.ClassFile.Cond} {off : Int} (hd : decode (byt k) pc = .ok (.ifCond cond off, ln)) (hm : mOp k pc ln op a b v ts (.ifCond cond off) = true) (kk : KKt p l e R s m args below meth c A H0 cells slots Qf D G k h' lo' st' (nxt (pc, ln, op, a, b, v, ts) j)) : KKt p l e R s m args below meth c A H0 cells slots Qf D G k h lo st pc := by
  intro H locs ls hw hl
  obtain ⟨hx, hb, hml, hown, hts, hnw, hK, hR, hA, hX⟩ := C
  obtain ⟨hP, hD, hS, hj⟩ := id hw
  cases cond
  case eq =>
    obtain ⟨rfl, rfl, rfl, ht⟩ := of_decide_eq_true hm
    rcases st with _ | ⟨y1, st⟩
    · cases hs
    cases y1
    case int x =>
      replace hs : br (x = 0) a lo st h = _ := hs
      cases (show some (Sum.inl ((if x = 0 then some a else none), lo, st, h)) = some (Sum.inl (j, lo', st', h')) from hs)
      have kk := kk H locs ls hw hl
      by_cases hq : x = 0
      · rw [if_pos hq] at kk
        exact lv_if_eq hx hb hd ht (fun _ => kk) (fun z => absurd hq (by first | exact z | (intro w; exact w z)))
      · rw [if_neg hq] at kk
        exact lv_if_eq hx hb hd ht (fun z => absurd z (by first | exact hq | (intro w; exact hq w))) (fun _ => kk)
    all_goals (cases hs)
  case ne =>
    obtain ⟨rfl, rfl, rfl, ht⟩ := of_decide_eq_true hm
    rcases st with _ | ⟨y1, st⟩
    · cases hs
    cases y1
    case int x =>
      replace hs : br (x ≠ 0) a lo st h = _ := hs
      cases (show some (Sum.inl ((if x ≠ 0 then some a else none), lo, st, h)) = some (Sum.inl (j, lo', st', h')) from hs)
      have kk := kk H locs ls hw hl
      by_cases hq : x ≠ 0
      · rw [if_pos hq] at kk
        exact lv_if_ne hx hb hd ht (fun _ => kk) (fun z => absurd hq (by first | exact z | (intro w; exact w z)))
      · rw [if_neg hq] at kk
        exact lv_if_ne hx hb hd ht (fun z => absurd z (by first | exact hq | (intro w; exact hq w))) (fun _ => kk)
    all_goals (cases hs)
  case lt =>
    obtain ⟨rfl, rfl, rfl, ht⟩ := of_decide_eq_true hm
    rcases st with _ | ⟨y1, st⟩
    · cases hs
    cases y1
    case int x =>
      replace hs : br (x < 0) a lo st h = _ := hs
      cases (show some (Sum.inl ((if x < 0 then some a else none), lo, st, h)) = some (Sum.inl (j, lo', st', h')) from hs)
      have kk := kk H locs ls hw hl
      by_cases hq : x < 0
      · rw [if_pos hq] at kk
        exact lv_if_lt hx hb hd ht (fun _ => kk) (fun z => absurd hq (by first | exact z | (intro w; exact w z)))
      · rw [if_neg hq] at kk
        exact lv_if_lt hx hb hd ht (fun z => absurd z (by first | exact hq | (intro w; exact hq w))) (fun _ => kk)
    all_goals (cases hs)
  case ge =>
    obtain ⟨rfl, rfl, rfl, ht⟩ := of_decide_eq_true hm
    rcases st with _ | ⟨y1, st⟩
    · cases hs
    cases y1
    case int x =>
      replace hs : br (0 ≤ x) a lo st h = _ := hs
      cases (show some (Sum.inl ((if 0 ≤ x then some a else none), lo, st, h)) = some (Sum.inl (j, lo', st', h')) from hs)
      have kk := kk H locs ls hw hl
      by_cases hq : 0 ≤ x
      · rw [if_pos hq] at kk
        exact lv_if_ge hx hb hd ht (fun _ => kk) (fun z => absurd hq (by first | exact z | (intro w; exact w z)))
      · rw [if_neg hq] at kk
        exact lv_if_ge hx hb hd ht (fun z => absurd z (by first | exact hq | (intro w; exact hq w))) (fun _ => kk)
    all_goals (cases hs)
  case gt =>
    obtain ⟨rfl, rfl, rfl, ht⟩ := of_decide_eq_true hm
    rcases st with _ | ⟨y1, st⟩
    · cases hs
    cases y1
    case int x =>
      replace hs : br (0 < x) a lo st h = _ := hs
      cases (show some (Sum.inl ((if 0 < x then some a else none), lo, st, h)) = some (Sum.inl (j, lo', st', h')) from hs)
      have kk := kk H locs ls hw hl
      by_cases hq : 0 < x
      · rw [if_pos hq] at kk
        exact lv_if_gt hx hb hd ht (fun _ => kk) (fun z => absurd hq (by first | exact z | (intro w; exact w z)))
      · rw [if_neg hq] at kk
        exact lv_if_gt hx hb hd ht (fun z => absurd z (by first | exact hq | (intro w; exact hq w))) (fun _ => kk)
    all_goals (cases hs)
  case le =>
    obtain ⟨rfl, rfl, rfl, ht⟩ := of_decide_eq_true hm
    rcases st with _ | ⟨y1, st⟩
    · cases hs
    cases y1
    case int x =>
      replace hs : br (x ≤ 0) a lo st h = _ := hs
      cases (show some (Sum.inl ((if x ≤ 0 then some a else none), lo, st, h)) = some (Sum.inl (j, lo', st', h')) from hs)
      have kk := kk H locs ls hw hl
      by_cases hq : x ≤ 0
      · rw [if_pos hq] at kk
        exact lv_if_le hx hb hd ht (fun _ => kk) (fun z => absurd hq (by first | exact z | (intro w; exact w z)))
      · rw [if_neg hq] at kk
        exact lv_if_le hx hb hd ht (fun z => absurd z (by first | exact hq | (intro w; exact hq w))) (fun _ => kk)
    all_goals (cases hs)
set_option maxHeartbeats 2000000 in
set_option maxRecDepth 100000 in
theorem q_if_icmp {p : Program} {l : Launch} {e : Env} {R : Room} {s : State} {m : MethodId} {args : Array Value} {below : List Frame} {meth : Method} {c : Code} {A : Nat → Prop} {H0 : Heap} {cells slots : Nat} {Qf : State → Prop} {D : va_G} {G : GA} {k : Nat} {X : SX} (C : CX k X G D p s m args c R A H0 cells slots) {pc ln op a b : Nat} {v : Value} {ts : List (Int32 × Nat)} {lo lo' : Lo} {st st' : List Value} {h h' : AH} {j : Option Nat} (hs : stp X (pc, ln, op, a, b, v, ts) lo st h = some (.inl (j, lo', st', h'))) {cond : Jvm.ClassFile.Cond} {off : Int} (hd : decode (byt k) pc = .ok (.if_icmp cond off, ln)) (hm : mOp k pc ln op a b v ts (.if_icmp cond off) = true) (kk : KKt p l e R s m args below meth c A H0 cells slots Qf D G k h' lo' st' (nxt (pc, ln, op, a, b, v, ts) j)) : KKt p l e R s m args below meth c A H0 cells slots Qf D G k h lo st pc := by
  intro H locs ls hw hl
  obtain ⟨hx, hb, hml, hown, hts, hnw, hK, hR, hA, hX⟩ := C
  obtain ⟨hP, hD, hS, hj⟩ := id hw
  cases cond
  case eq =>
    obtain ⟨rfl, rfl, rfl, ht⟩ := of_decide_eq_true hm
    rcases st with _ | ⟨y1, st⟩
    · cases hs
    rcases st with _ | ⟨y2, st⟩
    · cases y1 <;> cases hs
    cases y1
    case int y =>
      cases y2
      case int x =>
        replace hs : br (x = y) a lo st h = _ := hs
        cases (show some (Sum.inl ((if x = y then some a else none), lo, st, h)) = some (Sum.inl (j, lo', st', h')) from hs)
        have kk := kk H locs ls hw hl
        by_cases hq : x = y
        · rw [if_pos hq] at kk
          exact lv_icmp_eq hx hb hd ht (fun _ => kk) (fun z => absurd hq (by first | exact z | (intro w; exact w z)))
        · rw [if_neg hq] at kk
          exact lv_icmp_eq hx hb hd ht (fun z => absurd z (by first | exact hq | (intro w; exact hq w))) (fun _ => kk)
      all_goals (cases hs)
    all_goals (cases hs)
  case ne =>
    obtain ⟨rfl, rfl, rfl, ht⟩ := of_decide_eq_true hm
    rcases st with _ | ⟨y1, st⟩
    · cases hs
    rcases st with _ | ⟨y2, st⟩
    · cases y1 <;> cases hs
    cases y1
    case int y =>
      cases y2
      case int x =>
        replace hs : br (x ≠ y) a lo st h = _ := hs
        cases (show some (Sum.inl ((if x ≠ y then some a else none), lo, st, h)) = some (Sum.inl (j, lo', st', h')) from hs)
        have kk := kk H locs ls hw hl
        by_cases hq : x ≠ y
        · rw [if_pos hq] at kk
          exact lv_icmp_ne hx hb hd ht (fun _ => kk) (fun z => absurd hq (by first | exact z | (intro w; exact w z)))
        · rw [if_neg hq] at kk
          exact lv_icmp_ne hx hb hd ht (fun z => absurd z (by first | exact hq | (intro w; exact hq w))) (fun _ => kk)
      all_goals (cases hs)
    all_goals (cases hs)
  case lt =>
    obtain ⟨rfl, rfl, rfl, ht⟩ := of_decide_eq_true hm
    rcases st with _ | ⟨y1, st⟩
    · cases hs
    rcases st with _ | ⟨y2, st⟩
    · cases y1 <;> cases hs
    cases y1
    case int y =>
      cases y2
      case int x =>
        replace hs : br (x < y) a lo st h = _ := hs
        cases (show some (Sum.inl ((if x < y then some a else none), lo, st, h)) = some (Sum.inl (j, lo', st', h')) from hs)
        have kk := kk H locs ls hw hl
        by_cases hq : x < y
        · rw [if_pos hq] at kk
          exact lv_icmp_lt hx hb hd ht (fun _ => kk) (fun z => absurd hq (by first | exact z | (intro w; exact w z)))
        · rw [if_neg hq] at kk
          exact lv_icmp_lt hx hb hd ht (fun z => absurd z (by first | exact hq | (intro w; exact hq w))) (fun _ => kk)
      all_goals (cases hs)
    all_goals (cases hs)
  case ge =>
    obtain ⟨rfl, rfl, rfl, ht⟩ := of_decide_eq_true hm
    rcases st with _ | ⟨y1, st⟩
    · cases hs
    rcases st with _ | ⟨y2, st⟩
    · cases y1 <;> cases hs
    cases y1
    case int y =>
      cases y2
      case int x =>
        replace hs : br (y ≤ x) a lo st h = _ := hs
        cases (show some (Sum.inl ((if y ≤ x then some a else none), lo, st, h)) = some (Sum.inl (j, lo', st', h')) from hs)
        have kk := kk H locs ls hw hl
        by_cases hq : y ≤ x
        · rw [if_pos hq] at kk
          exact lv_icmp_ge hx hb hd ht (fun _ => kk) (fun z => absurd hq (by first | exact z | (intro w; exact w z)))
        · rw [if_neg hq] at kk
          exact lv_icmp_ge hx hb hd ht (fun z => absurd z (by first | exact hq | (intro w; exact hq w))) (fun _ => kk)
      all_goals (cases hs)
    all_goals (cases hs)
  case gt =>
    obtain ⟨rfl, rfl, rfl, ht⟩ := of_decide_eq_true hm
    rcases st with _ | ⟨y1, st⟩
    · cases hs
    rcases st with _ | ⟨y2, st⟩
    · cases y1 <;> cases hs
    cases y1
    case int y =>
      cases y2
      case int x =>
        replace hs : br (y < x) a lo st h = _ := hs
        cases (show some (Sum.inl ((if y < x then some a else none), lo, st, h)) = some (Sum.inl (j, lo', st', h')) from hs)
        have kk := kk H locs ls hw hl
        by_cases hq : y < x
        · rw [if_pos hq] at kk
          exact lv_icmp_gt hx hb hd ht (fun _ => kk) (fun z => absurd hq (by first | exact z | (intro w; exact w z)))
        · rw [if_neg hq] at kk
          exact lv_icmp_gt hx hb hd ht (fun z => absurd z (by first | exact hq | (intro w; exact hq w))) (fun _ => kk)
      all_goals (cases hs)
    all_goals (cases hs)
  case le =>
    obtain ⟨rfl, rfl, rfl, ht⟩ := of_decide_eq_true hm
    rcases st with _ | ⟨y1, st⟩
    · cases hs
    rcases st with _ | ⟨y2, st⟩
    · cases y1 <;> cases hs
    cases y1
    case int y =>
      cases y2
      case int x =>
        replace hs : br (x ≤ y) a lo st h = _ := hs
        cases (show some (Sum.inl ((if x ≤ y then some a else none), lo, st, h)) = some (Sum.inl (j, lo', st', h')) from hs)
        have kk := kk H locs ls hw hl
        by_cases hq : x ≤ y
        · rw [if_pos hq] at kk
          exact lv_icmp_le hx hb hd ht (fun _ => kk) (fun z => absurd hq (by first | exact z | (intro w; exact w z)))
        · rw [if_neg hq] at kk
          exact lv_icmp_le hx hb hd ht (fun z => absurd z (by first | exact hq | (intro w; exact hq w))) (fun _ => kk)
      all_goals (cases hs)
    all_goals (cases hs)
set_option maxHeartbeats 2000000 in
set_option maxRecDepth 100000 in
theorem q_goto {p : Program} {l : Launch} {e : Env} {R : Room} {s : State} {m : MethodId} {args : Array Value} {below : List Frame} {meth : Method} {c : Code} {A : Nat → Prop} {H0 : Heap} {cells slots : Nat} {Qf : State → Prop} {D : va_G} {G : GA} {k : Nat} {X : SX} (C : CX k X G D p s m args c R A H0 cells slots) {pc ln op a b : Nat} {v : Value} {ts : List (Int32 × Nat)} {lo lo' : Lo} {st st' : List Value} {h h' : AH} {j : Option Nat} (hs : stp X (pc, ln, op, a, b, v, ts) lo st h = some (.inl (j, lo', st', h'))) {off : Int} (hd : decode (byt k) pc = .ok (.goto off, ln)) (hm : mOp k pc ln op a b v ts (.goto off) = true) (kk : KKt p l e R s m args below meth c A H0 cells slots Qf D G k h' lo' st' (nxt (pc, ln, op, a, b, v, ts) j)) : KKt p l e R s m args below meth c A H0 cells slots Qf D G k h lo st pc := by
  intro H locs ls hw hl
  obtain ⟨hx, hb, hml, hown, hts, hnw, hK, hR, hA, hX⟩ := C
  obtain ⟨hP, hD, hS, hj⟩ := id hw
  obtain ⟨rfl, rfl, ht⟩ := of_decide_eq_true hm
  cases (show some (Sum.inl (some a, lo, st, h)) = some (Sum.inl (j, lo', st', h')) from hs)
  exact lv_goto hx hb hd ht (kk H locs ls hw hl)
set_option maxHeartbeats 2000000 in
set_option maxRecDepth 100000 in
theorem q_dup {p : Program} {l : Launch} {e : Env} {R : Room} {s : State} {m : MethodId} {args : Array Value} {below : List Frame} {meth : Method} {c : Code} {A : Nat → Prop} {H0 : Heap} {cells slots : Nat} {Qf : State → Prop} {D : va_G} {G : GA} {k : Nat} {X : SX} (C : CX k X G D p s m args c R A H0 cells slots) {pc ln op a b : Nat} {v : Value} {ts : List (Int32 × Nat)} {lo lo' : Lo} {st st' : List Value} {h h' : AH} {j : Option Nat} (hs : stp X (pc, ln, op, a, b, v, ts) lo st h = some (.inl (j, lo', st', h')))  (hd : decode (byt k) pc = .ok (.dup, ln)) (hm : mOp k pc ln op a b v ts (.dup) = true) (kk : KKt p l e R s m args below meth c A H0 cells slots Qf D G k h' lo' st' (nxt (pc, ln, op, a, b, v, ts) j)) : KKt p l e R s m args below meth c A H0 cells slots Qf D G k h lo st pc := by
  intro H locs ls hw hl
  obtain ⟨hx, hb, hml, hown, hts, hnw, hK, hR, hA, hX⟩ := C
  obtain ⟨hP, hD, hS, hj⟩ := id hw
  obtain ⟨rfl, rfl⟩ := of_decide_eq_true hm
  rcases st with _ | ⟨y1, st⟩
  · cases hs
  cases y1
  case int x =>
    cases (show some (Sum.inl (none, lo, .int x :: .int x :: st, h)) = some (Sum.inl (j, lo', st', h')) from hs)
    exact lv_dup hx hb hd rfl (kk H locs ls hw hl)
  case ref x =>
    cases (show some (Sum.inl (none, lo, .ref x :: .ref x :: st, h)) = some (Sum.inl (j, lo', st', h')) from hs)
    exact lv_dup hx hb hd rfl (kk H locs ls hw hl)
  all_goals (cases hs)
set_option maxHeartbeats 2000000 in
set_option maxRecDepth 100000 in
theorem q_pop {p : Program} {l : Launch} {e : Env} {R : Room} {s : State} {m : MethodId} {args : Array Value} {below : List Frame} {meth : Method} {c : Code} {A : Nat → Prop} {H0 : Heap} {cells slots : Nat} {Qf : State → Prop} {D : va_G} {G : GA} {k : Nat} {X : SX} (C : CX k X G D p s m args c R A H0 cells slots) {pc ln op a b : Nat} {v : Value} {ts : List (Int32 × Nat)} {lo lo' : Lo} {st st' : List Value} {h h' : AH} {j : Option Nat} (hs : stp X (pc, ln, op, a, b, v, ts) lo st h = some (.inl (j, lo', st', h')))  (hd : decode (byt k) pc = .ok (.pop, ln)) (hm : mOp k pc ln op a b v ts (.pop) = true) (kk : KKt p l e R s m args below meth c A H0 cells slots Qf D G k h' lo' st' (nxt (pc, ln, op, a, b, v, ts) j)) : KKt p l e R s m args below meth c A H0 cells slots Qf D G k h lo st pc := by
  intro H locs ls hw hl
  obtain ⟨hx, hb, hml, hown, hts, hnw, hK, hR, hA, hX⟩ := C
  obtain ⟨hP, hD, hS, hj⟩ := id hw
  obtain ⟨rfl, rfl⟩ := of_decide_eq_true hm
  rcases st with _ | ⟨y1, st⟩
  · cases hs
  cases y1
  case int x =>
    cases (show some (Sum.inl (none, lo, st, h)) = some (Sum.inl (j, lo', st', h')) from hs)
    exact lv_pop hx hb hd rfl (kk H locs ls hw hl)
  all_goals (cases hs)
set_option maxHeartbeats 2000000 in
set_option maxRecDepth 100000 in
theorem q_dup2 {p : Program} {l : Launch} {e : Env} {R : Room} {s : State} {m : MethodId} {args : Array Value} {below : List Frame} {meth : Method} {c : Code} {A : Nat → Prop} {H0 : Heap} {cells slots : Nat} {Qf : State → Prop} {D : va_G} {G : GA} {k : Nat} {X : SX} (C : CX k X G D p s m args c R A H0 cells slots) {pc ln op a b : Nat} {v : Value} {ts : List (Int32 × Nat)} {lo lo' : Lo} {st st' : List Value} {h h' : AH} {j : Option Nat} (hs : stp X (pc, ln, op, a, b, v, ts) lo st h = some (.inl (j, lo', st', h')))  (hd : decode (byt k) pc = .ok (.dup2, ln)) (hm : mOp k pc ln op a b v ts (.dup2) = true) (kk : KKt p l e R s m args below meth c A H0 cells slots Qf D G k h' lo' st' (nxt (pc, ln, op, a, b, v, ts) j)) : KKt p l e R s m args below meth c A H0 cells slots Qf D G k h lo st pc := by
  intro H locs ls hw hl
  obtain ⟨hx, hb, hml, hown, hts, hnw, hK, hR, hA, hX⟩ := C
  obtain ⟨hP, hD, hS, hj⟩ := id hw
  obtain ⟨rfl, rfl⟩ := of_decide_eq_true hm
  rcases st with _ | ⟨y1, st⟩
  · cases hs
  rcases st with _ | ⟨y2, st⟩
  · cases y1 <;> cases hs
  cases y1
  case int y =>
    cases y2
    case ref x =>
      cases (show some (Sum.inl (none, lo, .int y :: .ref x :: .int y :: .ref x :: st, h)) = some (Sum.inl (j, lo', st', h')) from hs)
      exact lv_dup2_11 hx hb hd rfl rfl (kk H locs ls hw hl)
    all_goals (cases hs)
  all_goals (cases y2 <;> cases hs)
set_option maxHeartbeats 2000000 in
set_option maxRecDepth 100000 in
theorem q_getfield {p : Program} {l : Launch} {e : Env} {R : Room} {s : State} {m : MethodId} {args : Array Value} {below : List Frame} {meth : Method} {c : Code} {A : Nat → Prop} {H0 : Heap} {cells slots : Nat} {Qf : State → Prop} {D : va_G} {G : GA} {k : Nat} {X : SX} (C : CX k X G D p s m args c R A H0 cells slots) {pc ln op a b : Nat} {v : Value} {ts : List (Int32 × Nat)} {lo lo' : Lo} {st st' : List Value} {h h' : AH} {j : Option Nat} (hs : stp X (pc, ln, op, a, b, v, ts) lo st h = some (.inl (j, lo', st', h'))) {i : Nat} (hd : decode (byt k) pc = .ok (.getfield i, ln)) (hm : mOp k pc ln op a b v ts (.getfield i) = true) (kk : KKt p l e R s m args below meth c A H0 cells slots Qf D G k h' lo' st' (nxt (pc, ln, op, a, b, v, ts) j)) : KKt p l e R s m args below meth c A H0 cells slots Qf D G k h lo st pc := by
  intro H locs ls hw hl
  obtain ⟨hx, hb, hml, hown, hts, hnw, hK, hR, hA, hX⟩ := C
  obtain ⟨hP, hD, hS, hj⟩ := id hw
  obtain ⟨rfl, hf, rfl⟩ := of_decide_eq_true hm
  rcases st with _ | ⟨y1, st⟩
  · cases hs
  cases y1
  case ref q =>
    replace hs : (match gf h q a b with | some v => nx lo (v :: st) h | none => none) = some (Sum.inl (j, lo', st', h')) := hs
    cases hg : gf h q a b with
    | none => rw [hg] at hs; cases hs
    | some w =>
      rw [hg] at hs
      cases (show some (Sum.inl (none, lo, w :: st, h)) = some (Sum.inl (j, lo', st', h')) from hs)
      obtain ⟨fs, hq, hfb⟩ := gf_inv hg
      have hq61 : q < 61 := lt61 hj hq (fun z => by cases z; simp at hfb)
      obtain ⟨Cn, T, N, hv, hbN, hlk, hin⟩ := fld_of hf
      have he : (wsA G h)[q]? = some (G.1 q, .inr (a, fs.map (cv G.1))) := by rw [wsA_at hq61, hq]; rfl
      exact va_get (D := D) hx hb hts hin hown hK hP q he hv b hbN (hts _ hlk) (fun _ z => z) (v := cv G.1 w) (by rw [List.getElem?_map, hfb]; rfl) hd (kk H locs ls hw hl)
  all_goals (cases hs)
set_option maxHeartbeats 2000000 in
set_option maxRecDepth 100000 in
theorem q_putfield {p : Program} {l : Launch} {e : Env} {R : Room} {s : State} {m : MethodId} {args : Array Value} {below : List Frame} {meth : Method} {c : Code} {A : Nat → Prop} {H0 : Heap} {cells slots : Nat} {Qf : State → Prop} {D : va_G} {G : GA} {k : Nat} {X : SX} (C : CX k X G D p s m args c R A H0 cells slots) {pc ln op a b : Nat} {v : Value} {ts : List (Int32 × Nat)} {lo lo' : Lo} {st st' : List Value} {h h' : AH} {j : Option Nat} (hs : stp X (pc, ln, op, a, b, v, ts) lo st h = some (.inl (j, lo', st', h'))) {i : Nat} (hd : decode (byt k) pc = .ok (.putfield i, ln)) (hm : mOp k pc ln op a b v ts (.putfield i) = true) (kk : KKt p l e R s m args below meth c A H0 cells slots Qf D G k h' lo' st' (nxt (pc, ln, op, a, b, v, ts) j)) : KKt p l e R s m args below meth c A H0 cells slots Qf D G k h lo st pc := by
  intro H locs ls hw hl
  obtain ⟨hx, hb, hml, hown, hts, hnw, hK, hR, hA, hX⟩ := C
  obtain ⟨hP, hD, hS, hj⟩ := id hw
  obtain ⟨rfl, hf, hpk, rfl⟩ := of_decide_eq_true hm
  obtain ⟨Cn, T, N, hv, hbN, hlk, hin⟩ := fld_of hf
  obtain ⟨ty0, hty, hnm⟩ := vw_ty hv
  unfold putK at hpk
  rw [hv] at hpk
  dsimp only at hpk
  rw [Bool.and_eq_true] at hpk
  obtain ⟨hfin, hpk⟩ := hpk
  have hfin : (T b).2.2.2 = false := by simpa using hfin
  rcases st with _ | ⟨y1, st⟩
  · cases hs
  rcases st with _ | ⟨y2, st⟩
  · cases y1 <;> cases hs
  cases y2
  case ref q =>
    cases y1
    case int x =>
      cases v
      case int f =>
        replace hs : (if f = 0 ∨ x &&& 1 = x then match pf h q a b (.int x) with | some h' => nx lo st h' | none => none else none) = some (Sum.inl (j, lo', st', h')) := hs
        by_cases hc : f = 0 ∨ x &&& 1 = x
        · rw [if_pos hc] at hs
          cases hg : pf h q a b (.int x) with
          | none => rw [hg] at hs; cases hs
          | some h2 =>
            rw [hg] at hs
            cases (show some (Sum.inl (none, lo, st, h2)) = some (Sum.inl (j, lo', st', h')) from hs)
            obtain ⟨fs, hq, hfb, rfl⟩ := pf_inv hg
            have hq61 : q < 61 := lt61 hj hq (fun z => by cases z; simp at hfb)
            have he : (wsA G h)[q]? = some (G.1 q, .inr (a, fs.map (cv G.1))) := by rw [wsA_at hq61, hq]; rfl
            have hsm : ((G.1 q, .inr (a, (fs.map (cv G.1)).set b (.int x))) : Nat × va_E) = (G.1 q, cnc G (aO a (fs.set b (.int x)))) := by
              show _ = (G.1 q, Sum.inr (a, (fs.set b (.int x)).map (cv G.1)))
              rw [List.map_set]; rfl
            cases htp : parseFieldDescriptor (T b).2.2.1 with
            | none => rw [htp] at hpk; cases hpk
            | some ty =>
              rw [htp] at hpk
              cases ty
              case int =>
                exact va_put (D := D) hx hb hts hin ty0 hty hnm hown hK hP hD hS q he hv b hbN (hts _ hlk) (fun _ z => z) hfin htp rfl rfl (by rw [List.length_map]; exact hfb) hd (fun H1 locs1 h1 h2 h3 => kk H1 locs1 ls (WD_put hj hq61 (hsm ▸ h1) (hsm ▸ h2) h3) hl)
              case boolean =>
                have hf1 : f = 1 := by simpa using hpk
                have hxx : x &&& 1 = x := hc.resolve_left (by rw [hf1]; decide)
                exact va_put (D := D) hx hb hts hin ty0 hty hnm hown hK hP hD hS q he hv b hbN (hts _ hlk) (fun _ z => z) hfin htp (show Value.int (x &&& 1) = .int x by rw [hxx]) (b1_fit hxx) (by rw [List.length_map]; exact hfb) hd (fun H1 locs1 h1 h2 h3 => kk H1 locs1 ls (WD_put hj hq61 (hsm ▸ h1) (hsm ▸ h2) h3) hl)
              all_goals (exact absurd hpk (by simp))
        · rw [if_neg hc] at hs; cases hs
      all_goals (cases hs)
    case long x =>
      cases v
      case long f =>
        replace hs : (match pf h q a b (.long x) with | some h' => nx lo st h' | none => none) = some (Sum.inl (j, lo', st', h')) := hs
        cases hg : pf h q a b (.long x) with
        | none => rw [hg] at hs; cases hs
        | some h2 =>
          rw [hg] at hs
          cases (show some (Sum.inl (none, lo, st, h2)) = some (Sum.inl (j, lo', st', h')) from hs)
          obtain ⟨fs, hq, hfb, rfl⟩ := pf_inv hg
          have hq61 : q < 61 := lt61 hj hq (fun z => by cases z; simp at hfb)
          have he : (wsA G h)[q]? = some (G.1 q, .inr (a, fs.map (cv G.1))) := by rw [wsA_at hq61, hq]; rfl
          have hsm : ((G.1 q, .inr (a, (fs.map (cv G.1)).set b (.long x))) : Nat × va_E) = (G.1 q, cnc G (aO a (fs.set b (.long x)))) := by
            show _ = (G.1 q, Sum.inr (a, (fs.set b (.long x)).map (cv G.1)))
            rw [List.map_set]; rfl
          cases htp : parseFieldDescriptor (T b).2.2.1 with
          | none => rw [htp] at hpk; cases hpk
          | some ty =>
            rw [htp] at hpk
            cases ty
            case long =>
              exact va_put (D := D) hx hb hts hin ty0 hty hnm hown hK hP hD hS q he hv b hbN (hts _ hlk) (fun _ z => z) hfin htp rfl rfl (by rw [List.length_map]; exact hfb) hd (fun H1 locs1 h1 h2 h3 => kk H1 locs1 ls (WD_put hj hq61 (hsm ▸ h1) (hsm ▸ h2) h3) hl)
            all_goals (exact absurd hpk (by simp))
      all_goals (cases hs)
    all_goals (cases hs)
  all_goals (cases y1 <;> cases hs)
set_option maxHeartbeats 2000000 in
set_option maxRecDepth 100000 in
theorem q_iaload {p : Program} {l : Launch} {e : Env} {R : Room} {s : State} {m : MethodId} {args : Array Value} {below : List Frame} {meth : Method} {c : Code} {A : Nat → Prop} {H0 : Heap} {cells slots : Nat} {Qf : State → Prop} {D : va_G} {G : GA} {k : Nat} {X : SX} (C : CX k X G D p s m args c R A H0 cells slots) {pc ln op a b : Nat} {v : Value} {ts : List (Int32 × Nat)} {lo lo' : Lo} {st st' : List Value} {h h' : AH} {j : Option Nat} (hs : stp X (pc, ln, op, a, b, v, ts) lo st h = some (.inl (j, lo', st', h')))  (hd : decode (byt k) pc = .ok (.iaload, ln)) (hm : mOp k pc ln op a b v ts (.iaload) = true) (kk : KKt p l e R s m args below meth c A H0 cells slots Qf D G k h' lo' st' (nxt (pc, ln, op, a, b, v, ts) j)) : KKt p l e R s m args below meth c A H0 cells slots Qf D G k h lo st pc := by
  intro H locs ls hw hl
  obtain ⟨hx, hb, hml, hown, hts, hnw, hK, hR, hA, hX⟩ := C
  obtain ⟨hP, hD, hS, hj⟩ := id hw
  obtain ⟨rfl, rfl⟩ := of_decide_eq_true hm
  rcases st with _ | ⟨y1, st⟩
  · cases hs
  rcases st with _ | ⟨y2, st⟩
  · cases y1 <;> cases hs
  cases y1
  case int i =>
    cases y2
    case ref q =>
      replace hs : (match rI X h q i with | some x => nx lo (.int x :: st) h | none => none) = some (Sum.inl (j, lo', st', h')) := hs
      unfold rI at hs
      cases hq : h q with
      | inl nf =>
        obtain ⟨n, f⟩ := nf
        rw [hq] at hs
        dsimp only at hs
        by_cases hi : i < 0 ∨ n ≤ i.toNatClampNeg
        · rw [if_pos hi] at hs; cases hs
        · rw [if_neg hi] at hs
          cases (show some (Sum.inl (none, lo, .int (f i.toNatClampNeg) :: st, h)) = some (Sum.inl (j, lo', st', h')) from hs)
          have hq61 : q < 61 := lt61 hj hq (fun z => by cases z)
          exact va_iald hx hb hK hP q 0 (by rw [wsA_at hq61, hq]; rfl) rfl hi hd (kk H locs ls hw hl)
      | inr C1 =>
        rw [hq] at hs
        rcases X with _ | ⟨L, xs⟩
        · cases hs
        · dsimp only at hs
          by_cases hq2 : q = 61
          · rw [if_pos hq2] at hs
            by_cases hi : i < 0 ∨ L ≤ i.toNatClampNeg
            · rw [if_pos hi] at hs; cases hs
            · rw [if_neg hi] at hs
              cases (show some (Sum.inl (none, lo, .int (xs i.toNatClampNeg) :: st, h)) = some (Sum.inl (j, lo', st', h')) from hs)
              obtain ⟨x1, x2, x3⟩ := hX L xs rfl
              subst hq2
              exact va_sld hx hb x1 x2 x3 hS hi hd (kk H locs ls hw hl)
          · rw [if_neg hq2] at hs; cases hs
    all_goals (cases hs)
  all_goals (cases y2 <;> cases hs)
set_option maxHeartbeats 2000000 in
set_option maxRecDepth 100000 in
theorem q_laload {p : Program} {l : Launch} {e : Env} {R : Room} {s : State} {m : MethodId} {args : Array Value} {below : List Frame} {meth : Method} {c : Code} {A : Nat → Prop} {H0 : Heap} {cells slots : Nat} {Qf : State → Prop} {D : va_G} {G : GA} {k : Nat} {X : SX} (C : CX k X G D p s m args c R A H0 cells slots) {pc ln op a b : Nat} {v : Value} {ts : List (Int32 × Nat)} {lo lo' : Lo} {st st' : List Value} {h h' : AH} {j : Option Nat} (hs : stp X (pc, ln, op, a, b, v, ts) lo st h = some (.inl (j, lo', st', h')))  (hd : decode (byt k) pc = .ok (.laload, ln)) (hm : mOp k pc ln op a b v ts (.laload) = true) (kk : KKt p l e R s m args below meth c A H0 cells slots Qf D G k h' lo' st' (nxt (pc, ln, op, a, b, v, ts) j)) : KKt p l e R s m args below meth c A H0 cells slots Qf D G k h lo st pc := by
  intro H locs ls hw hl
  obtain ⟨hx, hb, hml, hown, hts, hnw, hK, hR, hA, hX⟩ := C
  obtain ⟨hP, hD, hS, hj⟩ := id hw
  obtain ⟨rfl, rfl⟩ := of_decide_eq_true hm
  rcases st with _ | ⟨y1, st⟩
  · cases hs
  rcases st with _ | ⟨y2, st⟩
  · cases y1 <;> cases hs
  cases y1
  case int i =>
    cases y2
    case ref q =>
      replace hs : (match rJ h q i with | some x => nx lo (.long x :: st) h | none => none) = some (Sum.inl (j, lo', st', h')) := hs
      unfold rJ at hs
      rcases hq : h q with ⟨n, f⟩ | ⟨n, f⟩ | ⟨n, f⟩ | ⟨n, f⟩ | ⟨n, f⟩
      all_goals (rw [hq] at hs)
      all_goals try (cases hs; done)
      dsimp only at hs
      by_cases hi : i < 0 ∨ n ≤ i.toNatClampNeg
      · rw [if_pos hi] at hs; cases hs
      · rw [if_neg hi] at hs
        have hq61 : q < 61 := lt61 hj hq (fun z => by cases z)
        cases (show some (Sum.inl (none, lo, .long (f i.toNatClampNeg) :: st, h)) = some (Sum.inl (j, lo', st', h')) from hs)
        exact va_lald hx hb hK hP q 1 (by rw [wsA_at hq61, hq]; rfl) rfl hi hd (kk H locs ls hw hl)
    all_goals (cases hs)
  all_goals (cases y2 <;> cases hs)
set_option maxHeartbeats 2000000 in
set_option maxRecDepth 100000 in
theorem q_baload {p : Program} {l : Launch} {e : Env} {R : Room} {s : State} {m : MethodId} {args : Array Value} {below : List Frame} {meth : Method} {c : Code} {A : Nat → Prop} {H0 : Heap} {cells slots : Nat} {Qf : State → Prop} {D : va_G} {G : GA} {k : Nat} {X : SX} (C : CX k X G D p s m args c R A H0 cells slots) {pc ln op a b : Nat} {v : Value} {ts : List (Int32 × Nat)} {lo lo' : Lo} {st st' : List Value} {h h' : AH} {j : Option Nat} (hs : stp X (pc, ln, op, a, b, v, ts) lo st h = some (.inl (j, lo', st', h')))  (hd : decode (byt k) pc = .ok (.baload, ln)) (hm : mOp k pc ln op a b v ts (.baload) = true) (kk : KKt p l e R s m args below meth c A H0 cells slots Qf D G k h' lo' st' (nxt (pc, ln, op, a, b, v, ts) j)) : KKt p l e R s m args below meth c A H0 cells slots Qf D G k h lo st pc := by
  intro H locs ls hw hl
  obtain ⟨hx, hb, hml, hown, hts, hnw, hK, hR, hA, hX⟩ := C
  obtain ⟨hP, hD, hS, hj⟩ := id hw
  obtain ⟨rfl, rfl⟩ := of_decide_eq_true hm
  rcases st with _ | ⟨y1, st⟩
  · cases hs
  rcases st with _ | ⟨y2, st⟩
  · cases y1 <;> cases hs
  cases y1
  case int i =>
    cases y2
    case ref q =>
      replace hs : (match rB h q i with | some x => nx lo (.int x :: st) h | none => none) = some (Sum.inl (j, lo', st', h')) := hs
      unfold rB at hs
      rcases hq : h q with ⟨n, f⟩ | ⟨n, f⟩ | ⟨n, f⟩ | ⟨n, f⟩ | ⟨n, f⟩
      all_goals (rw [hq] at hs)
      all_goals try (cases hs; done)
      dsimp only at hs
      by_cases hi : i < 0 ∨ n ≤ i.toNatClampNeg
      · rw [if_pos hi] at hs; cases hs
      · rw [if_neg hi] at hs
        have hq61 : q < 61 := lt61 hj hq (fun z => by cases z)
        cases (show some (Sum.inl (none, lo, .int (f i.toNatClampNeg) :: st, h)) = some (Sum.inl (j, lo', st', h')) from hs)
        exact va_bald hx hb hK hP q 2 (by rw [wsA_at hq61, hq]; rfl) rfl hi hd (kk H locs ls hw hl)
    all_goals (cases hs)
  all_goals (cases y2 <;> cases hs)
set_option maxHeartbeats 2000000 in
set_option maxRecDepth 100000 in
theorem q_aaload {p : Program} {l : Launch} {e : Env} {R : Room} {s : State} {m : MethodId} {args : Array Value} {below : List Frame} {meth : Method} {c : Code} {A : Nat → Prop} {H0 : Heap} {cells slots : Nat} {Qf : State → Prop} {D : va_G} {G : GA} {k : Nat} {X : SX} (C : CX k X G D p s m args c R A H0 cells slots) {pc ln op a b : Nat} {v : Value} {ts : List (Int32 × Nat)} {lo lo' : Lo} {st st' : List Value} {h h' : AH} {j : Option Nat} (hs : stp X (pc, ln, op, a, b, v, ts) lo st h = some (.inl (j, lo', st', h')))  (hd : decode (byt k) pc = .ok (.aaload, ln)) (hm : mOp k pc ln op a b v ts (.aaload) = true) (kk : KKt p l e R s m args below meth c A H0 cells slots Qf D G k h' lo' st' (nxt (pc, ln, op, a, b, v, ts) j)) : KKt p l e R s m args below meth c A H0 cells slots Qf D G k h lo st pc := by
  intro H locs ls hw hl
  obtain ⟨hx, hb, hml, hown, hts, hnw, hK, hR, hA, hX⟩ := C
  obtain ⟨hP, hD, hS, hj⟩ := id hw
  obtain ⟨rfl, rfl⟩ := of_decide_eq_true hm
  rcases st with _ | ⟨y1, st⟩
  · cases hs
  rcases st with _ | ⟨y2, st⟩
  · cases y1 <;> cases hs
  cases y1
  case int i =>
    cases y2
    case ref q =>
      replace hs : (match rR h q i with | some x => nx lo (.ref x :: st) h | none => none) = some (Sum.inl (j, lo', st', h')) := hs
      unfold rR at hs
      rcases hq : h q with ⟨n, f⟩ | ⟨n, f⟩ | ⟨n, f⟩ | ⟨n, f⟩ | ⟨n, f⟩
      all_goals (rw [hq] at hs)
      all_goals try (cases hs; done)
      dsimp only at hs
      by_cases hi : i < 0 ∨ n ≤ i.toNatClampNeg
      · rw [if_pos hi] at hs; cases hs
      · rw [if_neg hi] at hs
        have hq61 : q < 61 := lt61 hj hq (fun z => by cases z)
        cases hfi : f i.toNatClampNeg with
        | none => rw [hfi] at hs; cases hs
        | some y =>
          rw [hfi] at hs
          cases (show some (Sum.inl (none, lo, .ref y :: st, h)) = some (Sum.inl (j, lo', st', h')) from hs)
          refine va_aldq (C := RX1) hx hb hK hP q 3 (f := fun j => (f j).map G.1) (by rw [wsA_at hq61, hq]; rfl) rfl hi hd ?_
          have kk := kk H locs ls hw hl
          rw [show va_rf ((fun j => (f j).map G.1) i.toNatClampNeg) = Value.ref (G.1 y) by show va_rf ((f i.toNatClampNeg).map G.1) = _; rw [hfi]; rfl]
          exact kk
    all_goals (cases hs)
  all_goals (cases y2 <;> cases hs)
set_option maxHeartbeats 2000000 in
set_option maxRecDepth 100000 in
theorem q_iastore {p : Program} {l : Launch} {e : Env} {R : Room} {s : State} {m : MethodId} {args : Array Value} {below : List Frame} {meth : Method} {c : Code} {A : Nat → Prop} {H0 : Heap} {cells slots : Nat} {Qf : State → Prop} {D : va_G} {G : GA} {k : Nat} {X : SX} (C : CX k X G D p s m args c R A H0 cells slots) {pc ln op a b : Nat} {v : Value} {ts : List (Int32 × Nat)} {lo lo' : Lo} {st st' : List Value} {h h' : AH} {j : Option Nat} (hs : stp X (pc, ln, op, a, b, v, ts) lo st h = some (.inl (j, lo', st', h')))  (hd : decode (byt k) pc = .ok (.iastore, ln)) (hm : mOp k pc ln op a b v ts (.iastore) = true) (kk : KKt p l e R s m args below meth c A H0 cells slots Qf D G k h' lo' st' (nxt (pc, ln, op, a, b, v, ts) j)) : KKt p l e R s m args below meth c A H0 cells slots Qf D G k h lo st pc := by
  intro H locs ls hw hl
  obtain ⟨hx, hb, hml, hown, hts, hnw, hK, hR, hA, hX⟩ := C
  obtain ⟨hP, hD, hS, hj⟩ := id hw
  obtain ⟨rfl, rfl⟩ := of_decide_eq_true hm
  rcases st with _ | ⟨y1, st⟩
  · cases hs
  rcases st with _ | ⟨y2, st⟩
  · cases y1 <;> cases hs
  rcases st with _ | ⟨y3, st⟩
  · cases y1 <;> cases y2 <;> cases hs
  cases y1
  case int x =>
    cases y2
    case int i =>
      cases y3
      case ref q =>
        replace hs : (match wI h q i x with | some h' => nx lo st h' | none => none) = some (Sum.inl (j, lo', st', h')) := hs
        unfold wI at hs
        rcases hq : h q with ⟨n, f⟩ | ⟨n, f⟩ | ⟨n, f⟩ | ⟨n, f⟩ | ⟨n, f⟩
        all_goals (rw [hq] at hs)
        all_goals try (cases hs; done)
        dsimp only at hs
        by_cases hi : i < 0 ∨ n ≤ i.toNatClampNeg
        · rw [if_pos hi] at hs; cases hs
        · rw [if_neg hi] at hs
          have hq61 : q < 61 := lt61 hj hq (fun z => by cases z)
          cases (show some (Sum.inl (none, lo, st, uH h q (aI n (upd f i.toNatClampNeg x)))) = some (Sum.inl (j, lo', st', h')) from hs)
          exact va_iast hx hb hK hP hD hS q 0 (by rw [wsA_at hq61, hq]; rfl) rfl hi hd (fun H1 locs1 h1 h2 h3 => kk H1 locs1 ls (WD_put hj hq61 h1 h2 h3) hl)
      all_goals (cases hs)
    all_goals (cases y3 <;> cases hs)
  all_goals (cases y2 <;> cases y3 <;> cases hs)
set_option maxHeartbeats 2000000 in
set_option maxRecDepth 100000 in
theorem q_lastore {p : Program} {l : Launch} {e : Env} {R : Room} {s : State} {m : MethodId} {args : Array Value} {below : List Frame} {meth : Method} {c : Code} {A : Nat → Prop} {H0 : Heap} {cells slots : Nat} {Qf : State → Prop} {D : va_G} {G : GA} {k : Nat} {X : SX} (C : CX k X G D p s m args c R A H0 cells slots) {pc ln op a b : Nat} {v : Value} {ts : List (Int32 × Nat)} {lo lo' : Lo} {st st' : List Value} {h h' : AH} {j : Option Nat} (hs : stp X (pc, ln, op, a, b, v, ts) lo st h = some (.inl (j, lo', st', h')))  (hd : decode (byt k) pc = .ok (.lastore, ln)) (hm : mOp k pc ln op a b v ts (.lastore) = true) (kk : KKt p l e R s m args below meth c A H0 cells slots Qf D G k h' lo' st' (nxt (pc, ln, op, a, b, v, ts) j)) : KKt p l e R s m args below meth c A H0 cells slots Qf D G k h lo st pc := by
  intro H locs ls hw hl
  obtain ⟨hx, hb, hml, hown, hts, hnw, hK, hR, hA, hX⟩ := C
  obtain ⟨hP, hD, hS, hj⟩ := id hw
  obtain ⟨rfl, rfl⟩ := of_decide_eq_true hm
  rcases st with _ | ⟨y1, st⟩
  · cases hs
  rcases st with _ | ⟨y2, st⟩
  · cases y1 <;> cases hs
  rcases st with _ | ⟨y3, st⟩
  · cases y1 <;> cases y2 <;> cases hs
  cases y1
  case long x =>
    cases y2
    case int i =>
      cases y3
      case ref q =>
        replace hs : (match wJ h q i x with | some h' => nx lo st h' | none => none) = some (Sum.inl (j, lo', st', h')) := hs
        unfold wJ at hs
        rcases hq : h q with ⟨n, f⟩ | ⟨n, f⟩ | ⟨n, f⟩ | ⟨n, f⟩ | ⟨n, f⟩
        all_goals (rw [hq] at hs)
        all_goals try (cases hs; done)
        dsimp only at hs
        by_cases hi : i < 0 ∨ n ≤ i.toNatClampNeg
        · rw [if_pos hi] at hs; cases hs
        · rw [if_neg hi] at hs
          have hq61 : q < 61 := lt61 hj hq (fun z => by cases z)
          cases (show some (Sum.inl (none, lo, st, uH h q (aJ n (vp_updL f i.toNatClampNeg x)))) = some (Sum.inl (j, lo', st', h')) from hs)
          exact va_last hx hb hK hP hD hS q 1 (by rw [wsA_at hq61, hq]; rfl) rfl hi hd (fun H1 locs1 h1 h2 h3 => kk H1 locs1 ls (WD_put hj hq61 h1 h2 h3) hl)
      all_goals (cases hs)
    all_goals (cases y3 <;> cases hs)
  all_goals (cases y2 <;> cases y3 <;> cases hs)
set_option maxHeartbeats 2000000 in
set_option maxRecDepth 100000 in
theorem q_bastore {p : Program} {l : Launch} {e : Env} {R : Room} {s : State} {m : MethodId} {args : Array Value} {below : List Frame} {meth : Method} {c : Code} {A : Nat → Prop} {H0 : Heap} {cells slots : Nat} {Qf : State → Prop} {D : va_G} {G : GA} {k : Nat} {X : SX} (C : CX k X G D p s m args c R A H0 cells slots) {pc ln op a b : Nat} {v : Value} {ts : List (Int32 × Nat)} {lo lo' : Lo} {st st' : List Value} {h h' : AH} {j : Option Nat} (hs : stp X (pc, ln, op, a, b, v, ts) lo st h = some (.inl (j, lo', st', h')))  (hd : decode (byt k) pc = .ok (.bastore, ln)) (hm : mOp k pc ln op a b v ts (.bastore) = true) (kk : KKt p l e R s m args below meth c A H0 cells slots Qf D G k h' lo' st' (nxt (pc, ln, op, a, b, v, ts) j)) : KKt p l e R s m args below meth c A H0 cells slots Qf D G k h lo st pc := by
  intro H locs ls hw hl
  obtain ⟨hx, hb, hml, hown, hts, hnw, hK, hR, hA, hX⟩ := C
  obtain ⟨hP, hD, hS, hj⟩ := id hw
  obtain ⟨rfl, rfl⟩ := of_decide_eq_true hm
  rcases st with _ | ⟨y1, st⟩
  · cases hs
  rcases st with _ | ⟨y2, st⟩
  · cases y1 <;> cases hs
  rcases st with _ | ⟨y3, st⟩
  · cases y1 <;> cases y2 <;> cases hs
  cases y1
  case int x =>
    cases y2
    case int i =>
      cases y3
      case ref q =>
        replace hs : (match wB h q i x with | some h' => nx lo st h' | none => none) = some (Sum.inl (j, lo', st', h')) := hs
        unfold wB at hs
        rcases hq : h q with ⟨n, f⟩ | ⟨n, f⟩ | ⟨n, f⟩ | ⟨n, f⟩ | ⟨n, f⟩
        all_goals (rw [hq] at hs)
        all_goals try (cases hs; done)
        dsimp only at hs
        by_cases hi : i < 0 ∨ n ≤ i.toNatClampNeg
        · rw [if_pos hi] at hs; cases hs
        · rw [if_neg hi] at hs
          have hq61 : q < 61 := lt61 hj hq (fun z => by cases z)
          cases (show some (Sum.inl (none, lo, st, uH h q (aB n (upd f i.toNatClampNeg (vp_nar .byte x))))) = some (Sum.inl (j, lo', st', h')) from hs)
          exact va_bast hx hb hK hP hD hS q 2 (by rw [wsA_at hq61, hq]; rfl) rfl hi hd (fun H1 locs1 h1 h2 h3 => kk H1 locs1 ls (WD_put hj hq61 h1 h2 h3) hl)
      all_goals (cases hs)
    all_goals (cases y3 <;> cases hs)
  all_goals (cases y2 <;> cases y3 <;> cases hs)
set_option maxHeartbeats 2000000 in
set_option maxRecDepth 100000 in
theorem q_arraylength {p : Program} {l : Launch} {e : Env} {R : Room} {s : State} {m : MethodId} {args : Array Value} {below : List Frame} {meth : Method} {c : Code} {A : Nat → Prop} {H0 : Heap} {cells slots : Nat} {Qf : State → Prop} {D : va_G} {G : GA} {k : Nat} {X : SX} (C : CX k X G D p s m args c R A H0 cells slots) {pc ln op a b : Nat} {v : Value} {ts : List (Int32 × Nat)} {lo lo' : Lo} {st st' : List Value} {h h' : AH} {j : Option Nat} (hs : stp X (pc, ln, op, a, b, v, ts) lo st h = some (.inl (j, lo', st', h')))  (hd : decode (byt k) pc = .ok (.arraylength, ln)) (hm : mOp k pc ln op a b v ts (.arraylength) = true) (kk : KKt p l e R s m args below meth c A H0 cells slots Qf D G k h' lo' st' (nxt (pc, ln, op, a, b, v, ts) j)) : KKt p l e R s m args below meth c A H0 cells slots Qf D G k h lo st pc := by
  intro H locs ls hw hl
  obtain ⟨hx, hb, hml, hown, hts, hnw, hK, hR, hA, hX⟩ := C
  obtain ⟨hP, hD, hS, hj⟩ := id hw
  obtain ⟨rfl, rfl⟩ := of_decide_eq_true hm
  rcases st with _ | ⟨y1, st⟩
  · cases hs
  cases y1
  case ref q =>
    replace hs : (match lnA X h q with | some n => nx lo (.int (Int32.ofNat n) :: st) h | none => none) = some (Sum.inl (j, lo', st', h')) := hs
    unfold lnA at hs
    cases hq : h q with
    | inl nf =>
      obtain ⟨n, f⟩ := nf
      rw [hq] at hs
      cases (show some (Sum.inl (none, lo, .int (Int32.ofNat n) :: st, h)) = some (Sum.inl (j, lo', st', h')) from hs)
      have hq61 : q < 61 := lt61 hj hq (fun z => by cases z)
      exact va_alen (x := (n, .inl f)) hx hb hK hP q 0 (by rw [wsA_at hq61, hq]; rfl) (ty := .int) rfl rfl hd (kk H locs ls hw hl)
    | inr C1 =>
      rw [hq] at hs
      rcases X with _ | ⟨L, xs⟩
      · cases hs
      · dsimp only at hs
        by_cases hq2 : q = 61
        · rw [if_pos hq2] at hs
          cases (show some (Sum.inl (none, lo, .int (Int32.ofNat L) :: st, h)) = some (Sum.inl (j, lo', st', h')) from hs)
          obtain ⟨x1, x2, x3⟩ := hX L xs rfl
          subst hq2
          exact va_slen hx hb x1 x2 x3 hS hd (kk H locs ls hw hl)
        · rw [if_neg hq2] at hs; cases hs
  all_goals (cases hs)
set_option maxHeartbeats 2000000 in
set_option maxRecDepth 100000 in
theorem q_invokevirtual {p : Program} {l : Launch} {e : Env} {R : Room} {s : State} {m : MethodId} {args : Array Value} {below : List Frame} {meth : Method} {c : Code} {A : Nat → Prop} {H0 : Heap} {cells slots : Nat} {Qf : State → Prop} {D : va_G} {G : GA} {k : Nat} {X : SX} (C : CX k X G D p s m args c R A H0 cells slots) {pc ln op a b : Nat} {v : Value} {ts : List (Int32 × Nat)} {lo lo' : Lo} {st st' : List Value} {h h' : AH} {j : Option Nat} (hs : stp X (pc, ln, op, a, b, v, ts) lo st h = some (.inl (j, lo', st', h'))) {i : Nat} (hd : decode (byt k) pc = .ok (.invokevirtual i, ln)) (hm : mOp k pc ln op a b v ts (.invokevirtual i) = true) (kk : KKt p l e R s m args below meth c A H0 cells slots Qf D G k h' lo' st' (nxt (pc, ln, op, a, b, v, ts) j)) : KKt p l e R s m args below meth c A H0 cells slots Qf D G k h lo st pc := by
  intro H locs ls hw hl
  obtain ⟨hx, hb, hml, hown, hts, hnw, hK, hR, hA, hX⟩ := C
  obtain ⟨hP, hD, hS, hj⟩ := id hw
  obtain ⟨rfl, -, -, rfl, rfl⟩ := of_decide_eq_true hm
  replace hs : s37 a b (own a) st h = _ := hs
  unfold s37 at hs
  split at hs
  · split at hs
    · split at hs
      · split at hs <;> cases hs
      · cases hs
    · cases hs
  · cases hs
set_option maxHeartbeats 2000000 in
set_option maxRecDepth 100000 in
theorem q_invokestatic {p : Program} {l : Launch} {e : Env} {R : Room} {s : State} {m : MethodId} {args : Array Value} {below : List Frame} {meth : Method} {c : Code} {A : Nat → Prop} {H0 : Heap} {cells slots : Nat} {Qf : State → Prop} {D : va_G} {G : GA} {k : Nat} {X : SX} (C : CX k X G D p s m args c R A H0 cells slots) {pc ln op a b : Nat} {v : Value} {ts : List (Int32 × Nat)} {lo lo' : Lo} {st st' : List Value} {h h' : AH} {j : Option Nat} (hs : stp X (pc, ln, op, a, b, v, ts) lo st h = some (.inl (j, lo', st', h'))) {i : Nat} (hd : decode (byt k) pc = .ok (.invokestatic i, ln)) (hm : mOp k pc ln op a b v ts (.invokestatic i) = true) (kk : KKt p l e R s m args below meth c A H0 cells slots Qf D G k h' lo' st' (nxt (pc, ln, op, a, b, v, ts) j)) : KKt p l e R s m args below meth c A H0 cells slots Qf D G k h lo st pc := by
  intro H locs ls hw hl
  obtain ⟨hx, hb, hml, hown, hts, hnw, hK, hR, hA, hX⟩ := C
  obtain ⟨hP, hD, hS, hj⟩ := id hw
  simp only [mOp, Bool.or_eq_true] at hm
  rcases hm with hm | hm | hm | hm | hm
  · obtain ⟨rfl, -, -, rfl⟩ := of_decide_eq_true hm
    replace hs : s28 a b lo st h = _ := hs
    unfold s28 at hs
    split at hs <;> cases hs
  · obtain ⟨rfl, hc, h1, h2, rfl⟩ := of_decide_eq_true hm
    obtain ⟨m1, m2, m3, m4⟩ := metOK _ hc
    replace hs : s29 lo st h = _ := hs
    unfold s29 at hs
    split at hs
    · rename_i n dp q sp q0
      cases hg : cpA h q0 q sp dp n with
      | none => rw [hg] at hs; cases hs
      | some h2 =>
        rw [hg] at hs
        cases (show some (Sum.inl (none, lo, [], h2)) = some (Sum.inl (j, lo', st', h')) from hs)
        unfold cpA at hg
        have hfr : 1 ≤ R.frames := Nat.le_trans h1 hR.1
        have hlc : (([] : List Value).map fun v => v.category).sum + (nativeFrameWords "java/lang/System" "arraycopy" 5 + 11) ≤ R.locals := Nat.le_trans (by decide) (Nat.le_trans h2 hR.2.1)
        rcases hq0 : h q0 with ⟨n0, f⟩ | ⟨n0, f⟩ | C0 <;> rcases hq : h q with ⟨n1, g⟩ | ⟨n1, g⟩ | C1
        all_goals (rw [hq0, hq] at hg)
        all_goals try (cases hg; done)
        · dsimp only at hg
          by_cases hi : sp < 0 ∨ dp < 0 ∨ n < 0 ∨ ¬ sp.toNatClampNeg + n.toNatClampNeg ≤ n0 ∨ ¬ dp.toNatClampNeg + n.toNatClampNeg ≤ n1
          · rw [if_pos hi] at hg; cases hg
          · rw [if_neg hi] at hg
            cases hg
            have hq61 : q < 61 := lt61 hj hq (fun z => by cases z)
            have hq061 : q0 < 61 := lt61 hj hq0 (fun z => by cases z)
            have i4 : sp.toNatClampNeg + n.toNatClampNeg ≤ n0 := Classical.byContradiction fun z => hi (Or.inr (Or.inr (Or.inr (Or.inl z))))
            have i5 : dp.toNatClampNeg + n.toNatClampNeg ≤ n1 := Classical.byContradiction fun z => hi (Or.inr (Or.inr (Or.inr (Or.inr z))))
            exact va_copyi (ty := .int) hx hb (hml.trans hl.1.symm) hown (hts _ (gw_of m1 rfl)) (hts _ (gw_of m2 rfl)) (hts _ (gw_of m3 rfl)) (hts _ (gw_of m4 rfl)) hK hP hD hS q0 q 0 0 (by rw [wsA_at hq061, hq0]; rfl) (by rw [wsA_at hq61, hq]; rfl) rfl rfl rfl (fun z => hi (Or.inl z)) (fun z => hi (Or.inr (Or.inl z))) (fun z => hi (Or.inr (Or.inr (Or.inl z)))) i4 i5 (fun _ _ => rfl) hfr hlc hd (fun H1 locs1 h1 h2 h3 => kk H1 locs1 ls (WD_put hj hq61 h1 h2 h3) hl)
        · dsimp only at hg
          by_cases hi : sp < 0 ∨ dp < 0 ∨ n < 0 ∨ ¬ sp.toNatClampNeg + n.toNatClampNeg ≤ n0 ∨ ¬ dp.toNatClampNeg + n.toNatClampNeg ≤ n1
          · rw [if_pos hi] at hg; cases hg
          · rw [if_neg hi] at hg
            cases hg
            have hq61 : q < 61 := lt61 hj hq (fun z => by cases z)
            have hq061 : q0 < 61 := lt61 hj hq0 (fun z => by cases z)
            have i4 : sp.toNatClampNeg + n.toNatClampNeg ≤ n0 := Classical.byContradiction fun z => hi (Or.inr (Or.inr (Or.inr (Or.inl z))))
            have i5 : dp.toNatClampNeg + n.toNatClampNeg ≤ n1 := Classical.byContradiction fun z => hi (Or.inr (Or.inr (Or.inr (Or.inr z))))
            exact va_copyl (ty := .long) hx hb (hml.trans hl.1.symm) hown (hts _ (gw_of m1 rfl)) (hts _ (gw_of m2 rfl)) (hts _ (gw_of m3 rfl)) (hts _ (gw_of m4 rfl)) hK hP hD hS q0 q 1 1 (by rw [wsA_at hq061, hq0]; rfl) (by rw [wsA_at hq61, hq]; rfl) rfl rfl rfl (fun z => hi (Or.inl z)) (fun z => hi (Or.inr (Or.inl z))) (fun z => hi (Or.inr (Or.inr (Or.inl z)))) i4 i5 (fun _ _ => rfl) hfr hlc hd (fun H1 locs1 h1 h2 h3 => kk H1 locs1 ls (WD_put hj hq61 h1 h2 h3) hl)
    · cases hs
  · obtain ⟨rfl, hc, h1, h2, rfl⟩ := of_decide_eq_true hm
    obtain ⟨m1, m2, m3, m4⟩ := metOK _ hc
    replace hs : s34 lo st h = _ := hs
    unfold s34 at hs
    split at hs
    · rename_i y x st2
      by_cases h4 : st2.length ≤ 4
      · rw [if_pos h4] at hs
        cases (show some (Sum.inl (none, lo, .int (if y < x then y else x) :: st2, h)) = some (Sum.inl (j, lo', st', h')) from hs)
        exact va_mmin hx hb (hml.trans hl.1.symm) hown (hts _ (gw_of m1 rfl)) (hts _ (gw_of m2 rfl)) (hts _ (gw_of m3 rfl)) (hts _ (gw_of m4 rfl)) (Nat.le_trans h1 hR.1) (by have := cats_le G.1 st2 h4; have := hR.2.1; omega) hR.2.2.1 hR.2.2.2 hd (kk H locs ls hw hl)
      · rw [if_neg h4] at hs; cases hs
    · cases hs
  · obtain ⟨rfl, hc, h1, h2, rfl⟩ := of_decide_eq_true hm
    obtain ⟨m1, m2, m3, m4⟩ := metOK _ hc
    replace hs : s35 lo st h = _ := hs
    unfold s35 at hs
    split at hs
    · rename_i y x st2
      by_cases h4 : st2.length ≤ 4
      · rw [if_pos h4] at hs
        cases (show some (Sum.inl (none, lo, .int (if x < y then y else x) :: st2, h)) = some (Sum.inl (j, lo', st', h')) from hs)
        exact va_mmax hx hb (hml.trans hl.1.symm) hown (hts _ (gw_of m1 rfl)) (hts _ (gw_of m2 rfl)) (hts _ (gw_of m3 rfl)) (hts _ (gw_of m4 rfl)) (Nat.le_trans h1 hR.1) (by have := cats_le G.1 st2 h4; have := hR.2.1; omega) hR.2.2.1 hR.2.2.2 hd (kk H locs ls hw hl)
      · rw [if_neg h4] at hs; cases hs
    · cases hs
  · obtain ⟨rfl, hc, h1, h2, rfl⟩ := of_decide_eq_true hm
    obtain ⟨m1, m2, m3, m4⟩ := metOK _ hc
    replace hs : s36 lo st h = _ := hs
    unfold s36 at hs
    split at hs
    · rename_i x st2
      by_cases h4 : st2.length ≤ 4
      · rw [if_pos h4] at hs
        cases (show some (Sum.inl (none, lo, .long (if 0 < x then x else -x) :: st2, h)) = some (Sum.inl (j, lo', st', h')) from hs)
        exact va_mabs_long hx hb (hml.trans hl.1.symm) hown (hts _ (gw_of m1 rfl)) (hts _ (gw_of m2 rfl)) (hts _ (gw_of m3 rfl)) (hts _ (gw_of m4 rfl)) (Nat.le_trans h1 hR.1) (by have := cats_le G.1 st2 h4; have := hR.2.1; omega) hR.2.2.1 hR.2.2.2 hd (kk H locs ls hw hl)
      · rw [if_neg h4] at hs; cases hs
    · cases hs
set_option maxHeartbeats 2000000 in
set_option maxRecDepth 100000 in
theorem q_ireturn {p : Program} {l : Launch} {e : Env} {R : Room} {s : State} {m : MethodId} {args : Array Value} {below : List Frame} {meth : Method} {c : Code} {A : Nat → Prop} {H0 : Heap} {cells slots : Nat} {Qf : State → Prop} {D : va_G} {G : GA} {k : Nat} {X : SX} (C : CX k X G D p s m args c R A H0 cells slots) {pc ln op a b : Nat} {v : Value} {ts : List (Int32 × Nat)} {lo lo' : Lo} {st st' : List Value} {h h' : AH} {j : Option Nat} (hs : stp X (pc, ln, op, a, b, v, ts) lo st h = some (.inl (j, lo', st', h')))  (hd : decode (byt k) pc = .ok (.ireturn, ln)) (hm : mOp k pc ln op a b v ts (.ireturn) = true) (kk : KKt p l e R s m args below meth c A H0 cells slots Qf D G k h' lo' st' (nxt (pc, ln, op, a, b, v, ts) j)) : KKt p l e R s m args below meth c A H0 cells slots Qf D G k h lo st pc := by
  intro H locs ls hw hl
  obtain ⟨hx, hb, hml, hown, hts, hnw, hK, hR, hA, hX⟩ := C
  obtain ⟨hP, hD, hS, hj⟩ := id hw
  obtain ⟨rfl, -, rfl⟩ := of_decide_eq_true hm
  replace hs : s30 b st = _ := hs
  unfold s30 at hs
  split at hs
  · split at hs <;> cases hs
  · cases hs
set_option maxHeartbeats 2000000 in
set_option maxRecDepth 100000 in
theorem q_lreturn {p : Program} {l : Launch} {e : Env} {R : Room} {s : State} {m : MethodId} {args : Array Value} {below : List Frame} {meth : Method} {c : Code} {A : Nat → Prop} {H0 : Heap} {cells slots : Nat} {Qf : State → Prop} {D : va_G} {G : GA} {k : Nat} {X : SX} (C : CX k X G D p s m args c R A H0 cells slots) {pc ln op a b : Nat} {v : Value} {ts : List (Int32 × Nat)} {lo lo' : Lo} {st st' : List Value} {h h' : AH} {j : Option Nat} (hs : stp X (pc, ln, op, a, b, v, ts) lo st h = some (.inl (j, lo', st', h')))  (hd : decode (byt k) pc = .ok (.lreturn, ln)) (hm : mOp k pc ln op a b v ts (.lreturn) = true) (kk : KKt p l e R s m args below meth c A H0 cells slots Qf D G k h' lo' st' (nxt (pc, ln, op, a, b, v, ts) j)) : KKt p l e R s m args below meth c A H0 cells slots Qf D G k h lo st pc := by
  intro H locs ls hw hl
  obtain ⟨hx, hb, hml, hown, hts, hnw, hK, hR, hA, hX⟩ := C
  obtain ⟨hP, hD, hS, hj⟩ := id hw
  obtain ⟨rfl, -, rfl⟩ := of_decide_eq_true hm
  replace hs : s31 st = _ := hs
  unfold s31 at hs
  split at hs <;> cases hs
set_option maxHeartbeats 2000000 in
set_option maxRecDepth 100000 in
theorem q_return_ {p : Program} {l : Launch} {e : Env} {R : Room} {s : State} {m : MethodId} {args : Array Value} {below : List Frame} {meth : Method} {c : Code} {A : Nat → Prop} {H0 : Heap} {cells slots : Nat} {Qf : State → Prop} {D : va_G} {G : GA} {k : Nat} {X : SX} (C : CX k X G D p s m args c R A H0 cells slots) {pc ln op a b : Nat} {v : Value} {ts : List (Int32 × Nat)} {lo lo' : Lo} {st st' : List Value} {h h' : AH} {j : Option Nat} (hs : stp X (pc, ln, op, a, b, v, ts) lo st h = some (.inl (j, lo', st', h')))  (hd : decode (byt k) pc = .ok (.return_, ln)) (hm : mOp k pc ln op a b v ts (.return_) = true) (kk : KKt p l e R s m args below meth c A H0 cells slots Qf D G k h' lo' st' (nxt (pc, ln, op, a, b, v, ts) j)) : KKt p l e R s m args below meth c A H0 cells slots Qf D G k h lo st pc := by
  intro H locs ls hw hl
  obtain ⟨hx, hb, hml, hown, hts, hnw, hK, hR, hA, hX⟩ := C
  obtain ⟨hP, hD, hS, hj⟩ := id hw
  obtain ⟨rfl, -, rfl⟩ := of_decide_eq_true hm
  replace hs : s32 st = _ := hs
  unfold s32 at hs
  split at hs <;> cases hs
set_option maxHeartbeats 2000000 in
set_option maxRecDepth 100000 in
theorem q_tableswitch {p : Program} {l : Launch} {e : Env} {R : Room} {s : State} {m : MethodId} {args : Array Value} {below : List Frame} {meth : Method} {c : Code} {A : Nat → Prop} {H0 : Heap} {cells slots : Nat} {Qf : State → Prop} {D : va_G} {G : GA} {k : Nat} {X : SX} (C : CX k X G D p s m args c R A H0 cells slots) {pc ln op a b : Nat} {v : Value} {ts : List (Int32 × Nat)} {lo lo' : Lo} {st st' : List Value} {h h' : AH} {j : Option Nat} (hs : stp X (pc, ln, op, a, b, v, ts) lo st h = some (.inl (j, lo', st', h'))) {d : Int} {lo1 : Int} {hi1 : Int} {offs : Array Int} (hd : decode (byt k) pc = .ok (.tableswitch d lo1 hi1 offs, ln)) (hm : mOp k pc ln op a b v ts (.tableswitch d lo1 hi1 offs) = true) (kk : KKt p l e R s m args below meth c A H0 cells slots Qf D G k h' lo' st' (nxt (pc, ln, op, a, b, v, ts) j)) : KKt p l e R s m args below meth c A H0 cells slots Qf D G k h lo st pc := by
  intro H locs ls hw hl
  obtain ⟨hx, hb, hml, hown, hts, hnw, hK, hR, hA, hX⟩ := C
  obtain ⟨hP, hD, hS, hj⟩ := id hw
  obtain ⟨rfl, ha, rfl, hhi, hlo, hhi2, hnn⟩ := of_decide_eq_true hm
  rcases st with _ | ⟨y1, st⟩
  · cases hs
  cases y1
  case int x =>
    cases (show some (Sum.inl (some (swT x a (tsw pc lo1 offs.toList)), lo, st, h)) = some (Sum.inl (j, lo', st', h')) from hs)
    have hlen : (offs.toList.length : Int) = offs.size := by rw [Array.length_toList]
    obtain ⟨i1, i2⟩ := tsw_in pc a x offs.toList lo1 hlo (by omega)
    have kk := kk H locs ls hw hl
    by_cases hr : x.toInt < lo1 ∨ hi1 < x.toInt
    · have e1 := i2 (by omega)
      rw [e1] at kk
      exact lv_tableOut hx hb hd hr ha kk
    · have h1 : ¬ x.toInt < lo1 := fun z => hr (Or.inl z)
      have h2 : ¬ hi1 < x.toInt := fun z => hr (Or.inr z)
      have hix : (x.toInt - lo1).toNat < offs.toList.length := by omega
      have e1 := i1 (x.toInt - lo1).toNat hix (by omega)
      rw [e1] at kk
      have hn0 := hnn _ (List.getElem_mem hix)
      refine lv_tableIn (off := offs.toList[(x.toInt - lo1).toNat]) hx hb hd h1 h2 ?_ ?_ kk
      · rw [← Array.getElem?_toList]
        exact List.getElem?_eq_getElem hix
      · exact (Int.toNat_of_nonneg hn0).symm
  all_goals (cases hs)
set_option maxHeartbeats 2000000 in
set_option maxRecDepth 100000 in
theorem q_lookupswitch {p : Program} {l : Launch} {e : Env} {R : Room} {s : State} {m : MethodId} {args : Array Value} {below : List Frame} {meth : Method} {c : Code} {A : Nat → Prop} {H0 : Heap} {cells slots : Nat} {Qf : State → Prop} {D : va_G} {G : GA} {k : Nat} {X : SX} (C : CX k X G D p s m args c R A H0 cells slots) {pc ln op a b : Nat} {v : Value} {ts : List (Int32 × Nat)} {lo lo' : Lo} {st st' : List Value} {h h' : AH} {j : Option Nat} (hs : stp X (pc, ln, op, a, b, v, ts) lo st h = some (.inl (j, lo', st', h'))) {d : Int} {ps : Array (Int × Int)} (hd : decode (byt k) pc = .ok (.lookupswitch d ps, ln)) (hm : mOp k pc ln op a b v ts (.lookupswitch d ps) = true) (kk : KKt p l e R s m args below meth c A H0 cells slots Qf D G k h' lo' st' (nxt (pc, ln, op, a, b, v, ts) j)) : KKt p l e R s m args below meth c A H0 cells slots Qf D G k h lo st pc := by
  intro H locs ls hw hl
  obtain ⟨hx, hb, hml, hown, hts, hnw, hK, hR, hA, hX⟩ := C
  obtain ⟨hP, hD, hS, hj⟩ := id hw
  obtain ⟨rfl, ha, rfl, hsrt, hnn⟩ := of_decide_eq_true hm
  rcases st with _ | ⟨y1, st⟩
  · cases hs
  cases y1
  case int x =>
    cases (show some (Sum.inl (some (swT x a (ps.toList.map (fun q => (Int32.ofInt q.1, ((pc : Int) + q.2).toNat)))), lo, st, h)) = some (Sum.inl (j, lo', st', h')) from hs)
    exact lv_lookup hx hb hd hsrt rfl (lsw_in pc a d x ha ps.toList hnn) (kk H locs ls hw hl)
  all_goals (cases hs)
end
section
set_option maxHeartbeats 8000000 in
set_option maxRecDepth 100000 in
theorem stepS {p : Program} {l : Launch} {e : Env} {R : Room} {s : State} {m : MethodId} {args : Array Value} {below : List Frame} {meth : Method} {c : Code} {A : Nat → Prop} {H0 : Heap} {cells slots : Nat} {Qf : State → Prop} {D : va_G} {G : GA} {k : Nat} {X : SX} (C : CX k X G D p s m args c R A H0 cells slots) {ce : CE} {lo lo' : Lo} {st st' : List Value} {h h' : AH} {j : Option Nat} (hs : stp X ce lo st h = some (.inl (j, lo', st', h'))) (hok : okE k ce = true) {H : Heap} {locs : List Loc} {ls : Array Slot} (hw : WD D G A H0 H locs h) (hl : lv_has ls (mxL k) (prs G.1 lo))
    (kk : KKt p l e R s m args below meth c A H0 cells slots Qf D G k h' lo' st' (nxt ce j)) : W p l e R s m args below meth c H locs cells slots Qf (F0 m ce.1 ls (st.map (cv G.1))) := by
  obtain ⟨pc, ln, op, a, b, v, ts⟩ := ce
  unfold okE at hok
  dsimp only at hok
  cases hd : decode (byt k) pc with
  | error _ => rw [hd] at hok; cases hok
  | ok il =>
  obtain ⟨ins, ln'⟩ := il
  rw [hd] at hok
  dsimp only at hok
  rw [Bool.and_eq_true] at hok
  obtain ⟨hln, hm⟩ := hok
  have hln := beq_iff_eq.mp hln
  subst hln
  dsimp only
  cases ins
  case iconst n => exact q_iconst C hs hd hm kk H locs ls hw hl
  case bipush n => exact q_bipush C hs hd hm kk H locs ls hw hl
  case sipush n => exact q_sipush C hs hd hm kk H locs ls hw hl
  case lconst n => exact q_lconst C hs hd hm kk H locs ls hw hl
  case ldc2_w i => exact q_ldc2_w C hs hd hm kk H locs ls hw hl
  case ldc_w i => exact q_ldc_w C hs hd hm kk H locs ls hw hl
  case iload_n n => exact q_iload_n C hs hd hm kk H locs ls hw hl
  case iload i => exact q_iload C hs hd hm kk H locs ls hw hl
  case lload_n n => exact q_lload_n C hs hd hm kk H locs ls hw hl
  case lload i => exact q_lload C hs hd hm kk H locs ls hw hl
  case aload_n n => exact q_aload_n C hs hd hm kk H locs ls hw hl
  case aload i => exact q_aload C hs hd hm kk H locs ls hw hl
  case istore_n n => exact q_istore_n C hs hd hm kk H locs ls hw hl
  case istore i => exact q_istore C hs hd hm kk H locs ls hw hl
  case astore_n n => exact q_astore_n C hs hd hm kk H locs ls hw hl
  case astore i => exact q_astore C hs hd hm kk H locs ls hw hl
  case lstore_n n => exact q_lstore_n C hs hd hm kk H locs ls hw hl
  case lstore i => exact q_lstore C hs hd hm kk H locs ls hw hl
  case iinc i n => exact q_iinc C hs hd hm kk H locs ls hw hl
  case iadd => exact q_iadd C hs hd hm kk H locs ls hw hl
  case isub => exact q_isub C hs hd hm kk H locs ls hw hl
  case imul => exact q_imul C hs hd hm kk H locs ls hw hl
  case iand => exact q_iand C hs hd hm kk H locs ls hw hl
  case ior => exact q_ior C hs hd hm kk H locs ls hw hl
  case ixor => exact q_ixor C hs hd hm kk H locs ls hw hl
  case ishl => exact q_ishl C hs hd hm kk H locs ls hw hl
  case ishr => exact q_ishr C hs hd hm kk H locs ls hw hl
  case iushr => exact q_iushr C hs hd hm kk H locs ls hw hl
  case idiv => exact q_idiv C hs hd hm kk H locs ls hw hl
  case irem => exact q_irem C hs hd hm kk H locs ls hw hl
  case ladd => exact q_ladd C hs hd hm kk H locs ls hw hl
  case lsub => exact q_lsub C hs hd hm kk H locs ls hw hl
  case lmul => exact q_lmul C hs hd hm kk H locs ls hw hl
  case land => exact q_land C hs hd hm kk H locs ls hw hl
  case lor => exact q_lor C hs hd hm kk H locs ls hw hl
  case lxor => exact q_lxor C hs hd hm kk H locs ls hw hl
  case ldiv => exact q_ldiv C hs hd hm kk H locs ls hw hl
  case lrem => exact q_lrem C hs hd hm kk H locs ls hw hl
  case lshl => exact q_lshl C hs hd hm kk H locs ls hw hl
  case lshr => exact q_lshr C hs hd hm kk H locs ls hw hl
  case lushr => exact q_lushr C hs hd hm kk H locs ls hw hl
  case lcmp => exact q_lcmp C hs hd hm kk H locs ls hw hl
  case ineg => exact q_ineg C hs hd hm kk H locs ls hw hl
  case lneg => exact q_lneg C hs hd hm kk H locs ls hw hl
  case i2l => exact q_i2l C hs hd hm kk H locs ls hw hl
  case l2i => exact q_l2i C hs hd hm kk H locs ls hw hl
  case i2b => exact q_i2b C hs hd hm kk H locs ls hw hl
  case i2s => exact q_i2s C hs hd hm kk H locs ls hw hl
  case ifCond cond off => exact q_ifCond C hs hd hm kk H locs ls hw hl
  case if_icmp cond off => exact q_if_icmp C hs hd hm kk H locs ls hw hl
  case goto off => exact q_goto C hs hd hm kk H locs ls hw hl
  case dup => exact q_dup C hs hd hm kk H locs ls hw hl
  case pop => exact q_pop C hs hd hm kk H locs ls hw hl
  case dup2 => exact q_dup2 C hs hd hm kk H locs ls hw hl
  case getfield i => exact q_getfield C hs hd hm kk H locs ls hw hl
  case putfield i => exact q_putfield C hs hd hm kk H locs ls hw hl
  case iaload => exact q_iaload C hs hd hm kk H locs ls hw hl
  case laload => exact q_laload C hs hd hm kk H locs ls hw hl
  case baload => exact q_baload C hs hd hm kk H locs ls hw hl
  case aaload => exact q_aaload C hs hd hm kk H locs ls hw hl
  case iastore => exact q_iastore C hs hd hm kk H locs ls hw hl
  case lastore => exact q_lastore C hs hd hm kk H locs ls hw hl
  case bastore => exact q_bastore C hs hd hm kk H locs ls hw hl
  case arraylength => exact q_arraylength C hs hd hm kk H locs ls hw hl
  case invokevirtual i => exact q_invokevirtual C hs hd hm kk H locs ls hw hl
  case invokestatic i => exact q_invokestatic C hs hd hm kk H locs ls hw hl
  case ireturn => exact q_ireturn C hs hd hm kk H locs ls hw hl
  case lreturn => exact q_lreturn C hs hd hm kk H locs ls hw hl
  case return_ => exact q_return_ C hs hd hm kk H locs ls hw hl
  case tableswitch d lo1 hi1 offs => exact q_tableswitch C hs hd hm kk H locs ls hw hl
  case lookupswitch d ps => exact q_lookupswitch C hs hd hm kk H locs ls hw hl
  all_goals (exact absurd hm (fun z => Bool.noConfusion z))
/-- how a method's own return stands at its end -/
def retAt (k pc : Nat) (v : Option Value) : Prop := (∃ x, v = some (.int x) ∧ decode (byt k) pc = .ok (.ireturn, 1) ∧ (rett k = some .int ∨ (rett k = some .boolean ∧ x &&& 1 = x))) ∨ (∃ x, v = some (.long x) ∧ decode (byt k) pc = .ok (.lreturn, 1) ∧ rett k = some .long) ∨ (v = none ∧ decode (byt k) pc = .ok (.return_, 1) ∧ rett k = none)
theorem ret_inv {k : Nat} {X : SX} {ce : CE} {lo : Lo} {st : List Value} {h : AH} {v : Option Value} (hok : okE k ce = true) (hs : stp X ce lo st h = some (.inr (.inl v))) : retAt k ce.1 v ∧ st = v.toList := by
  obtain ⟨pc, ln, op, a, b, w, ts⟩ := ce
  unfold okE at hok
  dsimp only at hok
  cases hd : decode (byt k) pc with
  | error _ => rw [hd] at hok; cases hok
  | ok il =>
  obtain ⟨ins, ln'⟩ := il
  rw [hd] at hok
  dsimp only at hok
  rw [Bool.and_eq_true] at hok
  obtain ⟨hln, hm⟩ := hok
  have hln := beq_iff_eq.mp hln
  subst hln
  have h3 : op = 30 ∨ op = 31 ∨ op = 32 := by
    unfold stp at hs
    split at hs
    all_goals first | (rename_i hh; cases hh) | skip
    all_goals first | exact Or.inl rfl | exact Or.inr (Or.inl rfl) | exact Or.inr (Or.inr rfl) | skip
    all_goals exfalso
    · cases hs
    · unfold s1 at hs; split at hs <;> cases hs
    · unfold s2 at hs; split at hs <;> cases hs
    · unfold s3 at hs; split at hs <;> cases hs
    · unfold s4 at hs; split at hs <;> cases hs
    · unfold s5 at hs; split at hs <;> cases hs
    · unfold s6 at hs; split at hs <;> first | cases hs | (split at hs <;> cases hs)
    · unfold s7 at hs; split at hs <;> cases hs
    · unfold s8 at hs; split at hs <;> first | cases hs | (split at hs <;> cases hs)
    · unfold s9 at hs; split at hs <;> cases hs
    · unfold s10 at hs; split at hs <;> cases hs
    · unfold s11 at hs; split at hs <;> cases hs
    · unfold s12 br at hs; split at hs <;> cases hs
    · unfold s13 br at hs; split at hs <;> cases hs
    · cases hs
    · unfold s15 at hs; split at hs <;> cases hs
    · unfold s16 at hs; split at hs <;> cases hs
    · unfold s17 at hs; split at hs <;> cases hs
    · unfold s18 at hs; split at hs <;> first | cases hs | (split at hs <;> cases hs)
    · unfold s19 at hs; split at hs <;> first | cases hs | (split at hs <;> first | cases hs | (split at hs <;> cases hs))
    · unfold s20 at hs; split at hs <;> first | cases hs | (split at hs <;> cases hs)
    · unfold s21 at hs; split at hs <;> first | cases hs | (split at hs <;> cases hs)
    · unfold s22 at hs; split at hs <;> first | cases hs | (split at hs <;> cases hs)
    · unfold s23 at hs; split at hs <;> first | cases hs | (split at hs <;> cases hs)
    · unfold s24 at hs; split at hs <;> first | cases hs | (split at hs <;> cases hs)
    · unfold s25 at hs; split at hs <;> first | cases hs | (split at hs <;> cases hs)
    · unfold s26 at hs; split at hs <;> first | cases hs | (split at hs <;> cases hs)
    · unfold s27 at hs; split at hs <;> first | cases hs | (split at hs <;> cases hs)
    · unfold s28 at hs; split at hs <;> cases hs
    · unfold s29 at hs; split at hs <;> first | cases hs | (split at hs <;> cases hs)
    · unfold s33 at hs; split at hs <;> cases hs
    · unfold s34 at hs; split at hs <;> first | cases hs | (split at hs <;> cases hs)
    · unfold s35 at hs; split at hs <;> first | cases hs | (split at hs <;> cases hs)
    · unfold s36 at hs; split at hs <;> first | cases hs | (split at hs <;> cases hs)
    · unfold s37 at hs
      split at hs
      · split at hs
        · split at hs
          · split at hs <;> cases hs
          · cases hs
        · cases hs
      · cases hs
    · cases hs
  have hins : ins = .ireturn ∨ ins = .lreturn ∨ ins = .return_ := by
    cases ins
    case ireturn => exact Or.inl rfl
    case lreturn => exact Or.inr (Or.inl rfl)
    case return_ => exact Or.inr (Or.inr rfl)
    case ifCond cond off => cases cond <;> (have := (of_decide_eq_true hm).1; omega)
    case if_icmp cond off => cases cond <;> (have := (of_decide_eq_true hm).1; omega)
    case invokestatic i =>
      simp only [mOp, Bool.or_eq_true] at hm
      rcases hm with hm | hm | hm | hm | hm <;> (have := (of_decide_eq_true hm).1; omega)
    all_goals first | (have := (of_decide_eq_true hm).1; omega) | exact absurd hm (fun z => Bool.noConfusion z)
  rcases hins with rfl | rfl | rfl
  · obtain ⟨rfl, hb, rfl⟩ := of_decide_eq_true hm
    replace hs : s30 b st = some (.inr (.inl v)) := hs
    unfold s30 at hs
    split at hs
    · rename_i x
      split at hs
      · rename_i hc
        cases hs
        refine ⟨Or.inl ⟨x, rfl, hd, ?_⟩, rfl⟩
        rcases hb with ⟨h1, h2⟩ | ⟨h1, h2⟩
        · exact Or.inl h2
        · exact Or.inr ⟨h2, hc.resolve_left (by omega)⟩
      · cases hs
    · cases hs
  · obtain ⟨rfl, hr, rfl⟩ := of_decide_eq_true hm
    replace hs : s31 st = some (.inr (.inl v)) := hs
    unfold s31 at hs
    split at hs
    · rename_i x
      cases hs
      exact ⟨Or.inr (Or.inl ⟨x, rfl, hd, hr⟩), rfl⟩
    · cases hs
  · obtain ⟨rfl, hr, rfl⟩ := of_decide_eq_true hm
    replace hs : s32 st = some (.inr (.inl v)) := hs
    unfold s32 at hs
    split at hs
    · cases hs
      exact ⟨Or.inr (Or.inr ⟨rfl, hd, hr⟩), rfl⟩
    · cases hs
def PcA (D : va_G) (G : GA) (as : List Value) (h : AH) (sz : Nat) : Array Value → State → Prop := va_Pc (as.map (cv G.1)) (fun U => U.heap.size = sz ∧ va_P D vwCl (wsA G h) U.heap ∧ va_K D vwCl (tyA G) U ∧ va_D (fun _ => True) (wsA G h) ∧ (∀ w ∈ NW, va_Nw w U) ∧ HJ h)
def QcA (D : va_G) (G : GA) (v : Option Value) (h' : AH) (A : Nat → Prop) : Array Value → State → Outcome → State → Prop := fun _ st oc t => (oc = .returned v ∧ va_P D vwCl (wsA G h') t.heap ∧ va_D A (wsA G h') ∧ HJ h') ∧ va_F A st t
def rmA (k : Nat) : Room := { frames := frm k, cells := 0, slots := 0, locals := lco k }
def wsK (k : Nat) : List Cond := .code (nam k) (byt k) (mxL k) (rett k) :: GW
def MetA (l : Launch) (D : va_G) (G : GA) (k : Nat) (as : List Value) (h : AH) (v : Option Value) (h' : AH) : Prop := ∀ sz : Nat, Met l (nam k) (wsK k) (rmA k) (PcA D G as h sz) (QcA D G v h' (va_A (wsA G h) sz)) 0 0 (va_A (wsA G h) sz)
theorem lva_cv (ad : Nat → Nat) : ∀ (vs : List Value) (i : Nat), lv_args i (vs.map (cv ad)) = (lv_args i vs).map (fun q => (q.1, cv ad q.2)) := by
  intro vs
  induction vs with
  | nil => intro i; rfl
  | cons v vs ih =>
    intro i
    simp only [List.map_cons, lv_args, cv_cat]
    rw [ih]
theorem lgs_cv (ad : Nat → Nat) : ∀ (vs : List Value), (lg_sl (vs.map (cv ad))).length = (lg_sl vs).length := by
  intro vs
  unfold lg_sl
  induction vs with
  | nil => rfl
  | cons v vs ih =>
    simp only [List.map_cons, List.flatMap_cons, List.length_append, cv_cat, ih]
    split <;> rfl
theorem lookup_mem {l : List (Nat × Value)} {i : Nat} {v : Value} (h : l.lookup i = some v) : (i, v) ∈ l := by
  induction l with
  | nil => cases h
  | cons q l ih =>
    obtain ⟨a, w⟩ := q
    rw [List.lookup_cons] at h
    by_cases hi : i = a
    · subst hi
      simp at h
      subst h
      exact List.mem_cons_self
    · have : (i == a) = false := beq_eq_false_iff_ne.mpr hi
      rw [this] at h
      exact List.mem_cons_of_mem _ (ih h)
theorem prs_ent {ad : Nat → Nat} {k i : Nat} {as : List Value} {w : Value} (h : (i, w) ∈ prs ad (ent k as)) : (i, w) ∈ lv_args 0 (as.map (cv ad)) := by
  obtain ⟨v, hv, rfl⟩ := mem_prs.mp h
  unfold ent at hv
  rw [List.getElem?_map] at hv
  cases hr : (List.range (mxL k))[i]? with
  | none => rw [hr] at hv; cases hv
  | some j =>
    rw [hr] at hv
    have hj : j = i := by
      have h1 := List.getElem?_eq_some_iff.mp hr
      obtain ⟨h1, h2⟩ := h1
      rw [List.getElem_range] at h2
      exact h2.symm
    subst hj
    have hv2 : (lv_args 0 as).lookup j = some v := by simpa using hv
    rw [lva_cv]
    exact List.mem_map.mpr ⟨(j, v), lookup_mem hv2, rfl⟩
theorem word_gw {args : Array Value} {s : State} (hts : ∀ w ∈ GW, w.before args s = true) (k : Nat) (hk : k < 144) : GoodIn GW (wsK k) := by
  intro w hw
  rcases List.mem_cons.mp hw with rfl | hw
  · exact ⟨gw_of (codOK k hk).1 rfl, good_of_word rfl⟩
  · exact ⟨hw, good_of_word (gw_good hw)⟩
theorem nw_warm {s U : State} (hW : s.WarmedH U.vm) (h : ∀ w ∈ NW, va_Nw w s) : ∀ w ∈ NW, va_Nw w U := by
  intro w hw
  have h1 := h w hw
  simp only [NW, List.mem_cons, List.not_mem_nil, or_false] at hw
  rcases hw with rfl | rfl | rfl <;> exact va_Nw.warmM hW h1
theorem nw_calling {U : State} {g : JFrame} {mk : MethodId} {a : Array Value} (h : ∀ w ∈ NW, va_Nw w U) : ∀ w ∈ NW, va_Nw w (U.calling g mk a) := by
  intro w hw
  have h1 := h w hw
  simp only [NW, List.mem_cons, List.not_mem_nil, or_false] at hw
  rcases hw with rfl | rfl | rfl <;> exact va_Nw.same rfl (u := U) (U := U.calling g mk a) rfl h1
end
section
/-! a run of the own machine is a walk; a method's run is its contract -/
theorem vaD_any {G : GA} {A : Nat → Prop} {h h' : AH} (hD : va_D A (wsA G h)) : va_D A (wsA G h') := by
  have key : ∀ (k : Nat) (q : Nat × va_E), (wsA G h')[k]? = some q → ∃ q', (wsA G h)[k]? = some q' ∧ q'.1 = q.1 := by
    intro k q hq
    have hk : k < 61 := by
      have := (List.getElem?_eq_some_iff.mp hq).1
      rw [wsA_len] at this
      exact this
    rw [wsA_at hk] at hq
    cases hq
    exact ⟨_, wsA_at hk, rfl⟩
  refine ⟨fun i j p q hp hq hpq => ?_, fun k q hq => ?_⟩
  · obtain ⟨p', hp', e1⟩ := key i p hp
    obtain ⟨q', hq', e2⟩ := key j q hq
    exact hD.1 i j p' q' hp' hq' (by rw [e1, e2]; exact hpq)
  · obtain ⟨q', hq', e1⟩ := key k q hq
    rw [← e1]
    exact hD.2 k q' hq'
def RTt (p : Program) (l : Launch) (e : Env) (R : Room) (s : State) (m : MethodId) (args : Array Value) (below : List Frame) (meth : Method) (c : Code) (A : Nat → Prop) (H0 : Heap) (cells slots : Nat) (Qf : State → Prop) (D : va_G) (G : GA) (k : Nat) (v : Option Value) (h : AH) : Prop := ∀ (H : Heap) (locs : List Loc) (ls : Array Slot) (pc : Nat), WD D G A H0 H locs h → retAt k pc v → W p l e R s m args below meth c H locs cells slots Qf (F0 m pc ls v.toList)
def Snd (l : Launch) (D : va_G) (G : GA) (k : Nat) (X : SX) (pc : Nat) (lo : Lo) (st : List Value) (h : AH) (v : Option Value) (h' : AH) : Prop := ∀ {p : Program} {e : Env} {R : Room} {s : State} {m : MethodId} {args : Array Value} {below : List Frame} {meth : Method} {c : Code} {A : Nat → Prop} {H0 : Heap} {cells slots : Nat} {Qf : State → Prop}, CX k X G D p s m args c R A H0 cells slots → RTt p l e R s m args below meth c A H0 cells slots Qf D G k v h' → KKt p l e R s m args below meth c A H0 cells slots Qf D G k h lo st pc
set_option maxHeartbeats 4000000 in
set_option maxRecDepth 100000 in
theorem metOf {l : Launch} {D : va_G} {G : GA} {k : Nat} {as : List Value} {h h' : AH} {v : Option Value} (hk : k < 144) (hg : (lg_sl as).length ≤ mxL k) (hrun : Snd l D G k none 0 (ent k as) [] h v h') : MetA l D G k as h v h' := by
  intro sz
  refine Met.ofW (cc := byt k) (maxL := mxL k) (ret := rett k) (codOK k hk).2.1 rfl ?_
  intro p e s m args below meth c s₁ B hml hv
  obtain ⟨rfl, hsz, hP, hK, hD0, hN, hJ⟩ := hv
  have hx := B.exec
  have hb := B.bytes
  have hr := B.returns
  have hts := atoms_spec (ws := wsK k) B.pre
  have hown : s.vm.findClass (nam k).cls = some m.cls := findClass_of_methodNamed B.named
  have hlocks := B.notSynchronized
  subst hsz
  have hD := hD0.self (sz := s.heap.size)
  generalize hAe : va_A (wsA G h) s.heap.size = A at hD ⊢
  have hA : ∀ q : Nat, s.heap.size ≤ q → A q := fun q h => by rw [← hAe]; exact Or.inr h
  have hS : va_S A s.heap s.heap [] := va_S.rf
  have hl := lv_entry (as.map (cv G.1)) (n := mxL k) (by rw [lgs_cv]; exact hg)
  rw [lg_entry_eq]
  generalize (lg_sl (as.map (cv G.1)) ++ List.replicate (mxL k - (lg_sl (as.map (cv G.1))).length) Slot.unset).toArray = ls at hl ⊢
  have hl2 : lv_has ls (mxL k) (prs G.1 (ent k as)) := ⟨hl.1, hl.2.1, fun q hq => hl.2.2 q (prs_ent hq)⟩
  rw [(codOK k hk).2.2.2] at hown
  refine hrun (cells := 0) (slots := 0) ⟨hx, hb, hml, hown, fun w hw => hts w (List.mem_cons_of_mem _ hw), hN, hK, ⟨Nat.le_refl _, Nat.le_refl _, Nat.zero_le _, Nat.zero_le _⟩, hA, fun L xs z => by cases z⟩ ?_ s.heap [] ls ⟨hP, hD, hS, hJ⟩ hl2
  intro H locs ls2 pc hw hret
  obtain ⟨hP9, hD9, hS9, hJ9⟩ := hw
  rcases hret with ⟨x, hv, hd, hr2⟩ | ⟨x, hv, hd, hr2⟩ | ⟨hv, hd, hr2⟩
  · subst hv
    rcases hr2 with hr2 | ⟨hr2, hx1⟩
    · exact W.iret (v := x) hx hb (hr.trans hr2) (fun t ht hW => ⟨⟨rfl, by rw [ht]; exact hP9, hD9, hJ9⟩, hS9.F ht⟩) hS9.2.2 hd
    · exact W.zret (v := x) (ty := .boolean) hx hb (hr.trans hr2) (show Value.int (x &&& 1) = .int x by rw [hx1]) (fun t ht hW => ⟨⟨rfl, by rw [ht]; exact hP9, hD9, hJ9⟩, hS9.F ht⟩) hS9.2.2 hd
  · subst hv
    exact W.lret (v := x) hx hb (hr.trans hr2) (fun t ht hW => ⟨⟨rfl, by rw [ht]; exact hP9, hD9, hJ9⟩, hS9.F ht⟩) hS9.2.2 hd
  · subst hv
    exact W.vret hx hb (hr.trans hr2) (fun t ht hW => ⟨⟨rfl, by rw [ht]; exact hP9, hD9, hJ9⟩, hS9.F ht⟩) hS9.2.2 hd
theorem callA {p : Program} {l : Launch} {e : Env} {R : Room} {s : State} {m : MethodId} {args : Array Value} {below : List Frame} {meth : Method} {c : Code} {H : Heap} {locs : List Loc} {cells slots : Nat} {Q : State → Prop} {pc : Nat} {ls : Array Slot} {rest st0 : List Value} {a : Array Value} {A0 A1 : Nat → Prop} {H0 : Heap} {free : Addr → Prop} {D : va_G} {G : GA} {v : Option Value} {h' : AH}
    (hr : va_Run p l e R s m args below meth c H locs cells slots 0 0 (F0 m pc ls st0) rest (QcA D G v h' A1 a) free) (hS : va_S A0 H0 H locs) (hA : ∀ q, q < H.size → A1 q → A0 q) (hf : ∀ q, free q → A0 q)
    (kk : ∀ (H1 : Heap) (locs1 : List Loc), va_P D vwCl (wsA G h') H1 → HJ h' → va_S A0 H0 H1 locs1 → W p l e R s m args below meth c H1 locs1 cells slots Q (F0 m (pc + 3) ls (v.toList ++ rest))) : W p l e R s m args below meth c H locs cells slots Q (F0 m pc ls st0) := by
  intro T hT X
  obtain ⟨v', st₀, t, T', L, h0, X', hL, e1, e2, ⟨⟨hv, hp, hd, hj⟩, hz, hk⟩, st⟩ := hr T hT X
  cases hv
  rw [h0] at hz hk
  obtain ⟨t2, a1, b1⟩ := kk T'.heap (locs ++ L) (by rw [e1]; exact hp) hj
    ⟨Nat.le_trans hS.1 (by rw [e1]; exact hz), fun q h1 h2 => by rw [e1, hk q (Nat.lt_of_lt_of_le h1 hS.1) (fun z => h2 (hA q (Nat.lt_of_lt_of_le h1 hS.1) z))]; exact hS.2.1 q h1 h2, fun q hq => by
      rcases List.mem_append.mp hq with h | h
      · exact hS.2.2 q h
      · exact hf _ (hL q h)⟩ T' rfl X'
  exact ⟨t2, st t2 a1, b1⟩
theorem freeA {G : GA} {A : Nat → Prop} {h : AH} {H0 H : Heap} {locs : List Loc} (hD : va_D A (wsA G h)) (hS : va_S A H0 H locs) (hA : ∀ q, H0.size ≤ q → A q) : ∀ q, va_A (wsA G h) H.size q → A q := by
  intro q hq
  rcases hq with ⟨k, e, hk⟩ | hq
  · exact hD.2 k _ hk
  · exact hA q (Nat.le_trans hS.1 hq)
theorem blindA {D : va_G} {G : GA} {as : List Value} {h : AH} {sz : Nat} : FrameBlind (PcA D G as h sz) := by
  intro a U g mk q
  obtain ⟨q0, q1, qP, qK, qD, qN, qJ⟩ := q
  exact ⟨q0, q1, qP, va_K.moved (u := U) (U := U.calling g mk a) (Vm.Alike.refl U.vm) qK, qD, nw_calling qN, qJ⟩
theorem call_inv {k : Nat} {X : SX} {ce : CE} {lo : Lo} {st st' as : List Value} {h : AH} {k' : Nat} (hok : okE k ce = true) (hs : stp X ce lo st h = some (.inr (.inr (k', as, st')))) :
    ce.2.1 = 3 ∧ st = as.reverse ++ st' ∧ st'.length ≤ 4 ∧ k' < 144 ∧ ∃ i, (decode (byt k) ce.1 = .ok (.invokevirtual i, 3) ∧ (own k, i, k', 0) ∈ metT ∧ cOp k k' as.length 0 = true ∧ (∃ q as1 fs, as = .ref q :: as1 ∧ h q = aO (own k') fs ∧ ¬ own k' = 99)) ∨ (decode (byt k) ce.1 = .ok (.invokestatic i, 3) ∧ ((own k, i, k', 1) ∈ metT ∨ (own k, i, k', 2) ∈ metT) ∧ cOp k k' as.length 1 = true) := by
  obtain ⟨pc, ln, op, a, b, w, ts⟩ := ce
  unfold okE at hok
  dsimp only at hok ⊢
  cases hd : decode (byt k) pc with
  | error _ => rw [hd] at hok; cases hok
  | ok il =>
  obtain ⟨ins, ln'⟩ := il
  rw [hd] at hok
  dsimp only at hok
  rw [Bool.and_eq_true] at hok
  obtain ⟨hln, hm⟩ := hok
  have hln := beq_iff_eq.mp hln
  subst hln
  have h3 : op = 28 ∨ op = 37 := by
    unfold stp at hs
    split at hs
    all_goals first | (rename_i hh; cases hh) | skip
    all_goals first | exact Or.inl rfl | exact Or.inr rfl | skip
    all_goals exfalso
    · cases hs
    · unfold s1 at hs; split at hs <;> cases hs
    · unfold s2 at hs; split at hs <;> cases hs
    · unfold s3 at hs; split at hs <;> cases hs
    · unfold s4 at hs; split at hs <;> cases hs
    · unfold s5 at hs; split at hs <;> cases hs
    · unfold s6 at hs; split at hs <;> first | cases hs | (split at hs <;> cases hs)
    · unfold s7 at hs; split at hs <;> cases hs
    · unfold s8 at hs; split at hs <;> first | cases hs | (split at hs <;> cases hs)
    · unfold s9 at hs; split at hs <;> cases hs
    · unfold s10 at hs; split at hs <;> cases hs
    · unfold s11 at hs; split at hs <;> cases hs
    · unfold s12 br at hs; split at hs <;> cases hs
    · unfold s13 br at hs; split at hs <;> cases hs
    · cases hs
    · unfold s15 at hs; split at hs <;> cases hs
    · unfold s16 at hs; split at hs <;> cases hs
    · unfold s17 at hs; split at hs <;> cases hs
    · unfold s18 at hs; split at hs <;> first | cases hs | (split at hs <;> cases hs)
    · unfold s19 at hs; split at hs <;> first | cases hs | (split at hs <;> first | cases hs | (split at hs <;> cases hs))
    · unfold s20 at hs; split at hs <;> first | cases hs | (split at hs <;> cases hs)
    · unfold s21 at hs; split at hs <;> first | cases hs | (split at hs <;> cases hs)
    · unfold s22 at hs; split at hs <;> first | cases hs | (split at hs <;> cases hs)
    · unfold s23 at hs; split at hs <;> first | cases hs | (split at hs <;> cases hs)
    · unfold s24 at hs; split at hs <;> first | cases hs | (split at hs <;> cases hs)
    · unfold s25 at hs; split at hs <;> first | cases hs | (split at hs <;> cases hs)
    · unfold s26 at hs; split at hs <;> first | cases hs | (split at hs <;> cases hs)
    · unfold s27 at hs; split at hs <;> first | cases hs | (split at hs <;> cases hs)
    · unfold s29 at hs; split at hs <;> first | cases hs | (split at hs <;> cases hs)
    · unfold s30 at hs; split at hs <;> first | cases hs | (split at hs <;> cases hs)
    · unfold s31 at hs; split at hs <;> cases hs
    · unfold s32 at hs; split at hs <;> cases hs
    · unfold s33 at hs; split at hs <;> cases hs
    · unfold s34 at hs; split at hs <;> first | cases hs | (split at hs <;> cases hs)
    · unfold s35 at hs; split at hs <;> first | cases hs | (split at hs <;> cases hs)
    · unfold s36 at hs; split at hs <;> first | cases hs | (split at hs <;> cases hs)
    · cases hs
  have hins : (∃ i, ins = .invokevirtual i) ∨ (∃ i, ins = .invokestatic i) := by
    cases ins
    case invokevirtual i => exact Or.inl ⟨i, rfl⟩
    case invokestatic i => exact Or.inr ⟨i, rfl⟩
    case ifCond cond off => cases cond <;> (have := (of_decide_eq_true hm).1; omega)
    case if_icmp cond off => cases cond <;> (have := (of_decide_eq_true hm).1; omega)
    all_goals first | (have := (of_decide_eq_true hm).1; omega) | exact absurd hm (fun z => Bool.noConfusion z)
  rcases hins with ⟨i, rfl⟩ | ⟨i, rfl⟩
  · obtain ⟨rfl, hmt, hc, rfl, rfl⟩ := of_decide_eq_true hm
    replace hs : s37 a b (own a) st h = some (.inr (.inr (k', as, st'))) := hs
    unfold s37 at hs
    split at hs
    · rename_i hlen
      split at hs
      · rename_i q as1 heq
        split at hs
        · rename_i cc fs hq
          split at hs
          · rename_i hcc
            cases hs
            have hk := metOK _ hmt
            have h1 : st = (Value.ref q :: as1).reverse ++ st.drop b := by rw [← heq, List.reverse_reverse, List.take_append_drop]
            have h2 : (Value.ref q :: as1).length = b := by rw [← heq, List.length_reverse, List.length_take]; omega
            refine ⟨rfl, h1, by rw [List.length_drop]; omega, hk.2.2.2.2, i, Or.inl ⟨rfl, hmt, by rw [h2]; exact hc, q, as1, fs, rfl, by rw [hq, hcc.1], by rw [← hcc.1]; exact hcc.2⟩⟩
          · cases hs
        · cases hs
      · cases hs
    · cases hs
  · simp only [mOp, Bool.or_eq_true] at hm
    rcases hm with hm | hm | hm | hm | hm
    · obtain ⟨rfl, hmt, hc, rfl⟩ := of_decide_eq_true hm
      replace hs : s28 a b lo st h = some (.inr (.inr (k', as, st'))) := hs
      unfold s28 at hs
      split at hs
      · rename_i hlen
        cases hs
        have h2 : ((st.take b).reverse).length = b := by rw [List.length_reverse, List.length_take]; omega
        have hk : k' < 144 := by
          rcases hmt with hmt | hmt
          · exact (metOK _ hmt).2.2.2
          · exact (metOK _ hmt).2.2.2
        exact ⟨rfl, by rw [List.reverse_reverse, List.take_append_drop], by rw [List.length_drop]; omega, hk, i, Or.inr ⟨rfl, hmt, by rw [h2]; exact hc⟩⟩
      · cases hs
    all_goals (have := (of_decide_eq_true hm).1; omega)
theorem cOp_inv {k a b kd : Nat} (h : cOp k a b kd = true) : (∃ d, parseMethodDescriptor (nam a).desc = some d ∧ d.parameters.length + (if kd = 0 then 1 else 0) = b) ∧ frm a + 1 ≤ frm k ∧ 8 + (mxL a + 11) + lco a ≤ lco k := by
  unfold cOp at h
  rw [Bool.and_eq_true] at h
  obtain ⟨h1, h2⟩ := h
  refine ⟨?_, of_decide_eq_true h2⟩
  split at h1
  · rename_i d hd
    exact ⟨d, hd, of_decide_eq_true h1⟩
  · cases h1
theorem vw_name {o : Nat} {r : vw_C} (h : vwCl[o]? = some r) : r.1 = clN o := by
  match o, h with
  | 0, h => cases h; rfl
  | 1, h => cases h; rfl
  | 2, h => cases h; rfl
  | 3, h => cases h; rfl
  | 4, h => cases h; rfl
  | 5, h => cases h; rfl
  | n + 6, h => simp [vwCl] at h
theorem run_ret : ∀ (n k : Nat) (X : SX) (cd : List CE) (pc : Nat) (lo : Lo) (st : List Value) (h : AH) (r : Option Value × AH), run n X k cd lo st h = some r → okC k pc cd = true → ∃ pc', retAt k pc' r.1 := by
  intro n
  induction n with
  | zero => intro k X cd pc lo st h r hr; simp [run] at hr
  | succ n ih =>
    intro k X cd pc lo st h r hr hok
    cases cd with
    | nil => simp [run] at hr
    | cons ce cd =>
      rw [run] at hr
      have hok' : ((ce.1 == pc) && okE k ce && okC k (pc + ce.2.1) cd) = true := hok
      rw [Bool.and_eq_true, Bool.and_eq_true] at hok'
      obtain ⟨⟨hpc, hoe⟩, hoc⟩ := hok'
      cases hs : stp X ce lo st h with
      | none => rw [hs] at hr; cases hr
      | some o =>
        rw [hs] at hr
        rcases o with ⟨j, lo', st', h'⟩ | v | ⟨k', as, st'⟩
        · cases j with
          | none => exact ih k X cd _ lo' st' h' r hr hoc
          | some t => exact ih k X (J k t) t lo' st' h' r hr (okJ k t)
        · cases hr
          exact ⟨_, (ret_inv hoe hs).1⟩
        · dsimp only at hr
          split at hr
          · cases hr
          · exact ih k X cd _ lo _ _ r hr hoc
set_option maxHeartbeats 4000000 in
set_option maxRecDepth 100000 in
theorem sound (l : Launch) (D : va_G) (G : GA) : ∀ (n k : Nat) (X : SX) (cd : List CE) (pc : Nat) (lo : Lo) (st : List Value) (h : AH) (r : Option Value × AH), run n X k cd lo st h = some r → okC k pc cd = true → Snd l D G k X pc lo st h r.1 r.2 := by
  intro n
  induction n with
  | zero => intro k X cd pc lo st h r hr; simp [run] at hr
  | succ n ih =>
    intro k X cd pc lo st h r hr hok
    cases cd with
    | nil => simp [run] at hr
    | cons ce cd =>
      rw [run] at hr
      have hok' : ((ce.1 == pc) && okE k ce && okC k (pc + ce.2.1) cd) = true := hok
      rw [Bool.and_eq_true, Bool.and_eq_true] at hok'
      obtain ⟨⟨hpc, hoe⟩, hoc⟩ := hok'
      have hpc := beq_iff_eq.mp hpc
      subst hpc
      cases hs : stp X ce lo st h with
      | none => rw [hs] at hr; cases hr
      | some o =>
        rw [hs] at hr
        rcases o with ⟨j, lo', st', h'⟩ | v | ⟨k', as, st'⟩
        · intro p e R s m args below meth c A H0 cells slots Qf C hret H locs ls hw hl
          have hokn : okC k (nxt ce j) (jmp k j cd) = true := by
            cases j with
            | none => exact hoc
            | some t => exact okJ k t
          exact stepS C hs hoe hw hl (ih k X (jmp k j cd) (nxt ce j) lo' st' h' r hr hokn C hret)
        · intro p e R s m args below meth c A H0 cells slots Qf C hret H locs ls hw hl
          cases hr
          obtain ⟨hra, rfl⟩ := ret_inv hoe hs
          have hm : (v.toList.map (cv G.1)) = v.toList := by
            rcases hra with ⟨x, rfl, -⟩ | ⟨x, rfl, -⟩ | ⟨rfl, -⟩ <;> rfl
          rw [hm]
          exact hret H locs ls ce.1 hw hra
        · intro p e R s m args below meth c A H0 cells slots Qf C hret H locs ls hw hl
          dsimp only at hr
          by_cases hg : (lg_sl as).length ≤ mxL k'
          · rw [if_pos hg] at hr
            cases hc : run n none k' (J k' 0) (ent k' as) [] h with
            | none => rw [hc] at hr; cases hr
            | some r1 =>
              rw [hc] at hr
              dsimp only at hr
              obtain ⟨hl3, hst, h4, hk', i, hcall⟩ := call_inv hoe hs
              have hM : MetA l D G k' as h r1.1 r1.2 := metOf hk' hg (ih k' none (J k' 0) 0 (ent k' as) [] h r1 hc (okJ k' 0))
              have hM := hM H.size
              obtain ⟨hx, hb, hml, hown, hts, hnw, hK, hR, hA, hX⟩ := id C
              obtain ⟨hP, hD, hS, hj⟩ := id hw
              have hwk := word_gw hts k' hk'
              have hFc := freeA hD hS hA
              have hpre : ∀ U : State, U.heap = H → s.WarmedH U.vm → PcA D G as h H.size (as.map (cv G.1)).toArray U := fun U hU hW => ⟨rfl, by rw [hU], by rw [hU]; exact hP, va_K.moved hW.alike hK, hD.weaken (fun _ _ _ _ => trivial), nw_warm hW hnw, hj⟩
              have hrc : r1.1.toList.map (cv G.1) = r1.1.toList ∨ True := Or.inr trivial
              have hkk : ∀ (H1 : Heap) (locs1 : List Loc), va_P D vwCl (wsA G r1.2) H1 → HJ r1.2 → va_S A H0 H1 locs1 → W p l e R s m args below meth c H1 locs1 cells slots Qf (F0 m (ce.1 + 3) ls (r1.1.toList.map (cv G.1) ++ st'.map (cv G.1))) := by
                intro H1 locs1 hP1 hj1 hS1
                have hh := ih k X cd (ce.1 + ce.2.1) lo (r1.1.toList ++ st') r1.2 r hr hoc C hret H1 locs1 ls ⟨hP1, vaD_any hD, hS1, hj1⟩ hl
                rw [hl3, List.map_append] at hh
                exact hh
              have hstk : st.map (cv G.1) = (as.map (cv G.1)).reverse ++ st'.map (cv G.1) := by rw [hst, List.map_append, List.map_reverse]
              have hvr : r1.1.toList.map (cv G.1) = r1.1.toList := by
                obtain ⟨pc', hra⟩ := run_ret n k' none (J k' 0) 0 (ent k' as) [] h r1 hc (okJ k' 0)
                rcases hra with ⟨x, hx1, -⟩ | ⟨x, hx1, -⟩ | ⟨hx1, -⟩ <;> (rw [hx1]; rfl)
              rw [hvr] at hkk
              rcases hcall with ⟨hd, hmt, hco, q, as1, fs, rfl, hq, h99⟩ | ⟨hd, hmt, hco⟩
              · obtain ⟨m1, m2, m3, m4, -⟩ := metOK _ hmt
                obtain ⟨⟨d, hpd, hpl⟩, hf1, hf2⟩ := cOp_inv hco
                have hq61 : q < 61 := lt61 hj hq (fun z => h99 (congrArg Prod.fst (Sum.inr.inj (Sum.inr.inj (Sum.inr.inj (Sum.inr.inj z))))))
                have cw : CallW R s args (clN (own k)) (nam k').cls i (nam k') (byt k') (mxL k') (rett k') (wsK k') (rmA k') 0 0 as1.length :=
                  ⟨callB_of as1.length hts hwk rfl rfl rfl (hts _ (gw_of m4 rfl)) (hts _ (gw_of m1 rfl)) ⟨(codOK k' hk').2.2.1.1, (codOK k' hk').2.2.1.2, by rw [hpd]; simp at hpl ⊢; exact hpl⟩ ⟨Nat.le_trans hf1 hR.1, Nat.le_trans hf2 hR.2.1⟩, hts _ (gw_of m2 rfl), hts _ (gw_of m3 rfl)⟩
                have hrecv : ∃ cellB : Cell, H[G.1 q]? = some cellB ∧ cellB.vm.isStatics = false ∧ s.vm.findClass (nam k').cls = some cellB.cls := by
                  have he : (wsA G h)[q]? = some (G.1 q, .inr (own k', fs.map (cv G.1))) := by rw [wsA_at hq61, hq]; rfl
                  obtain ⟨rr, hrr, -⟩ := hP q _ he
                  have hrv := va_recv hK hP hrr he
                  rw [vw_name hrr] at hrv
                  rw [(codOK k' hk').2.2.2]
                  exact hrv
                rw [hstk]
                have hdd : decode (byt k) ce.1 = .ok (.invokevirtual i, 3) := hd
                exact callA (va_runV (As := as1.map (cv G.1)) (rest := st'.map (cv G.1)) (b := G.1 q) ⟨hx, hb, hml, hown, hts⟩ hM cw ⟨blindA, hrecv, hpre⟩ rfl (by rw [List.length_map]) hl.1 (by show _ = _; simp [cv]) (lv_room (cats_le G.1 st' h4)) hdd ⟨hR.2.2.1, hR.2.2.2⟩) hS (fun q _ z => hFc q z) hFc hkk
              · obtain ⟨⟨d, hpd, hpl⟩, hf1, hf2⟩ := cOp_inv hco
                have hdd : decode (byt k) ce.1 = .ok (.invokestatic i, 3) := hd
                rw [hstk]
                rcases hmt with hmt | hmt
                · obtain ⟨m1, m2, m3, -⟩ := metOK _ hmt
                  have cw : CallB R s args (clN (own k)) i (nam k') (byt k') (mxL k') (rett k') (wsK k') (rmA k') 0 0 as.length ∧ (Cond.static (nam k')).before args s = true :=
                    ⟨callB_of as.length hts hwk rfl rfl rfl (hts _ (gw_of m3 rfl)) (hts _ (gw_of m1 rfl)) ⟨(codOK k' hk').2.2.1.1, (codOK k' hk').2.2.1.2, by rw [hpd]; simp at hpl ⊢; exact hpl⟩ ⟨Nat.le_trans hf1 hR.1, Nat.le_trans hf2 hR.2.1⟩, hts _ (gw_of m2 rfl)⟩
                  exact callA (va_runS (As := as.map (cv G.1)) (rest := st'.map (cv G.1)) ⟨hx, hb, hml, hown, hts⟩ hM cw ⟨blindA, hpre⟩ rfl (by rw [List.length_map]) hl.1 rfl (lv_room (cats_le G.1 st' h4)) hdd ⟨hR.2.2.1, hR.2.2.2⟩) hS (fun q _ z => hFc q z) hFc hkk
                · obtain ⟨m1, m2, m3, -⟩ := metOK _ hmt
                  have cw : va_CN R s args (clN (own k)) i (nam k') "MeanTown" (byt k') (mxL k') (rett k') (wsK k') (rmA k') 0 0 as.length ∧ (Cond.static (nam k')).before args s = true ∧ True :=
                    ⟨va_cnB as.length hts hwk rfl rfl rfl (hnw _ m1) (hts _ (gw_of m3 rfl)) ⟨(codOK k' hk').2.2.1.1, (codOK k' hk').2.2.1.2, by rw [hpd]; simp at hpl ⊢; exact hpl⟩ ⟨Nat.le_trans hf1 hR.1, Nat.le_trans hf2 hR.2.1⟩, hts _ (gw_of m2 rfl), trivial⟩
                  exact callA (va_runSN (As := as.map (cv G.1)) (rest := st'.map (cv G.1)) ⟨hx, hb, hml, hown, hts⟩ hM cw ⟨blindA, hpre⟩ rfl (by rw [List.length_map]) hl.1 rfl (lv_room (cats_le G.1 st' h4)) hdd ⟨hR.2.2.1, hR.2.2.2⟩) hS (fun q _ z => hFc q z) hFc hkk
          · rw [if_neg hg] at hr; cases hr
end
section
/-! plain facts on numbers and arrays, to paste: each family by itself; over the kit's rows on nI and upd -/
/-! ===== order of ints, in all its forms, and through longs ===== -/
theorem fa_lt (a b : Int32) : a < b ↔ a.toInt < b.toInt := Int32.lt_iff_toInt_lt
theorem fa_le (a b : Int32) : a ≤ b ↔ a.toInt ≤ b.toInt := Int32.le_iff_toInt_le
theorem fa_eq (a b : Int32) : a = b ↔ a.toInt = b.toInt := Int32.toInt_inj.symm
theorem fa_lt64 (a b : Int64) : a < b ↔ a.toInt < b.toInt := Int64.lt_iff_toInt_lt
theorem fa_le64 (a b : Int64) : a ≤ b ↔ a.toInt ≤ b.toInt := Int64.le_iff_toInt_le
theorem fa_eq64 (a b : Int64) : a = b ↔ a.toInt = b.toInt := Int64.toInt_inj.symm
/-- a comparison of two ints taken as longs -/
theorem fa_wide_lt (a b : Int32) : a.toInt64 < b.toInt64 ↔ a < b := by rw [fa_lt64, fa_lt, Int32.toInt_toInt64, Int32.toInt_toInt64]
theorem fa_wide_le (a b : Int32) : a.toInt64 ≤ b.toInt64 ↔ a ≤ b := by rw [fa_le64, fa_le, Int32.toInt_toInt64, Int32.toInt_toInt64]
theorem fa_wide_eq (a b : Int32) : a.toInt64 = b.toInt64 ↔ a = b := by rw [fa_eq64, fa_eq, Int32.toInt_toInt64, Int32.toInt_toInt64]
/-- one strict comparison gives all the others -/
theorem fa_of_lt {a b : Int32} (h : a < b) : a ≤ b ∧ ¬ b ≤ a ∧ ¬ b < a ∧ a ≠ b ∧ b ≠ a := by
  rw [fa_lt] at h
  refine ⟨?_, ?_, ?_, ?_, ?_⟩
  · rw [fa_le]; omega
  · rw [fa_le]; omega
  · rw [fa_lt]; omega
  · intro e; rw [fa_eq] at e; omega
  · intro e; rw [fa_eq] at e; omega
theorem fa_of_nlt {a b : Int32} (h : ¬ a < b) : b ≤ a := by
  rw [fa_lt] at h
  rw [fa_le]
  omega
theorem fa_of_nle {a b : Int32} (h : ¬ a ≤ b) : b < a := by
  rw [fa_le] at h
  rw [fa_lt]
  omega
theorem fa_le_ne {a b : Int32} (h : a ≤ b) (h2 : a ≠ b) : a < b := by
  rw [fa_le] at h
  rw [fa_lt]
  have h3 : a.toInt ≠ b.toInt := fun e => h2 ((fa_eq a b).mpr e)
  omega
theorem fa_three (a b : Int32) : a < b ∨ a = b ∨ b < a := by
  rw [fa_lt, fa_lt, fa_eq]
  omega
theorem fa_trans {a b c : Int32} (h : a < b) (h2 : b ≤ c) : a < c := by
  rw [fa_lt] at *
  rw [fa_le] at h2
  omega
/-! ===== small literals as numbers ===== -/
theorem fa_lit (n : Nat) : (OfNat.ofNat n : Int32) = nI n := rfl
theorem fa_litL (n : Nat) : (OfNat.ofNat n : Int64) = lN n := rfl
/-! ===== bits of a number: 'or', masks, one bit ===== -/
theorem fa_and (a b : Nat) : nI a &&& nI b = nI (a &&& b) := by
  apply Int32.toBitVec_inj.1
  show BitVec.ofNat 32 a &&& BitVec.ofNat 32 b = BitVec.ofNat 32 (a &&& b)
  apply BitVec.eq_of_getLsbD_eq
  intro i hi
  simp [hi]
theorem fa_or (a b : Nat) : nI a ||| nI b = nI (a ||| b) := by
  apply Int32.toBitVec_inj.1
  show BitVec.ofNat 32 a ||| BitVec.ofNat 32 b = BitVec.ofNat 32 (a ||| b)
  apply BitVec.eq_of_getLsbD_eq
  intro i hi
  simp [hi]
/-- a remainder by a power of two, as a mask -/
theorem fa_mask (n k : Nat) : nI n &&& nI (2 ^ k - 1) = nI (n % 2 ^ k) := by rw [fa_and, Nat.and_two_pow_sub_one_eq_mod]
/-- 'or' of a high part and a low one that don't meet is their sum -/
theorem fa_or_sum {a k : Nat} (b : Nat) (h : a < 2 ^ k) : nI (2 ^ k * b) ||| nI a = nI (2 ^ k * b + a) := by rw [fa_or, Nat.two_pow_add_eq_or_of_lt h]
/-- one bit, by 'and' with a power of two -/
theorem fa_bit {n j : Nat} (hj : j < 31) : nI n &&& nI (2 ^ j) = 0 ↔ n.testBit j = false := by
  have h2 : (2 : Nat) ^ j < 2 ^ 31 := Nat.pow_lt_pow_right (by decide) hj
  have hle : n &&& 2 ^ j ≤ 2 ^ j := Nat.and_le_right
  have e : n &&& 2 ^ j = 0 ↔ n.testBit j = false := by
    constructor
    · intro h
      have h1 : (n &&& 2 ^ j).testBit j = false := by rw [h]; simp
      rw [Nat.testBit_and] at h1
      first | simpa using h1 | simpa [Nat.testBit_two_pow_self] using h1 | simpa [Nat.testBit_two_pow] using h1
    · intro h
      apply Nat.eq_of_testBit_eq
      intro i
      rw [Nat.testBit_and]
      by_cases hi : j = i
      · subst hi; simp [h]
      · first | (simp [Nat.testBit_two_pow, hi]; done) | (simp [Nat.testBit_two_pow_of_ne hi]; done)
  rw [fa_and]
  constructor
  · intro h
    apply e.mp
    rcases Nat.eq_zero_or_pos (n &&& 2 ^ j) with z | z
    · exact z
    · exact absurd h (nI_ne0 z (Nat.lt_of_le_of_lt hle h2))
  · intro h
    rw [e.mpr h]; exact nI_0
/-- a remainder by a power of two of a number that isn't negative, as Java divides -/
theorem fa_rem {a k : Nat} (ha : a < 2 ^ 31) (hk : k < 31) : nI a - nI a / nI (2 ^ k) * nI (2 ^ k) = nI (a % 2 ^ k) := pk_rem ha (Nat.two_pow_pos k) (Nat.pow_lt_pow_right (by decide) hk)
/-! ===== cuts to a byte, a short ===== -/
theorem fa_byte_xor (x y : Int32) : (x ^^^ y).toInt8 = x.toInt8 ^^^ y.toInt8 := by
  apply Int8.toBitVec_inj.1
  apply BitVec.eq_of_getLsbD_eq
  intro i hi
  first | (simp [hi]; done) | (simp [hi, BitVec.getLsbD_setWidth, BitVec.getLsbD_signExtend]; done)
theorem fa_short_xor (x y : Int32) : (x ^^^ y).toInt16 = x.toInt16 ^^^ y.toInt16 := by
  apply Int16.toBitVec_inj.1
  apply BitVec.eq_of_getLsbD_eq
  intro i hi
  first | (simp [hi]; done) | (simp [hi, BitVec.getLsbD_setWidth, BitVec.getLsbD_signExtend]; done)
/-- the cut to a byte sees the low byte alone -/
theorem fa_byte_low (x : Int32) : (x &&& 255).toInt8 = x.toInt8 := by
  apply Int8.toBitVec_inj.1
  apply BitVec.eq_of_getLsbD_eq
  intro i hi
  have h2 : (255 : Int32).toBitVec.getLsbD i = true := by
    have : ∀ j : Fin 8, (255 : Int32).toBitVec.getLsbD j.val = true := by decide +kernel
    exact this ⟨i, hi⟩
  have h4 : (x &&& 255).toBitVec.getLsbD i = x.toBitVec.getLsbD i := by
    show (x.toBitVec &&& (255 : Int32).toBitVec).getLsbD i = _
    rw [BitVec.getLsbD_and, h2, Bool.and_true]
  have h3 : i < 32 := by omega
  first
    | (show (((x &&& 255).toBitVec).signExtend 8).getLsbD i = (x.toBitVec.signExtend 8).getLsbD i; rw [BitVec.getLsbD_signExtend, BitVec.getLsbD_signExtend, if_pos h3, if_pos h3, h4])
    | (show (((x &&& 255).toBitVec).setWidth 8).getLsbD i = (x.toBitVec.setWidth 8).getLsbD i; rw [BitVec.getLsbD_setWidth, BitVec.getLsbD_setWidth, h4])
    | (simp [hi, h3, h4]; done)
theorem fa_short_low (x : Int32) : (x &&& 65535).toInt16 = x.toInt16 := by
  apply Int16.toBitVec_inj.1
  apply BitVec.eq_of_getLsbD_eq
  intro i hi
  have h2 : (65535 : Int32).toBitVec.getLsbD i = true := by
    have : ∀ j : Fin 16, (65535 : Int32).toBitVec.getLsbD j.val = true := by decide +kernel
    exact this ⟨i, hi⟩
  have h4 : (x &&& 65535).toBitVec.getLsbD i = x.toBitVec.getLsbD i := by
    show (x.toBitVec &&& (65535 : Int32).toBitVec).getLsbD i = _
    rw [BitVec.getLsbD_and, h2, Bool.and_true]
  have h3 : i < 32 := by omega
  first
    | (show (((x &&& 65535).toBitVec).signExtend 16).getLsbD i = (x.toBitVec.signExtend 16).getLsbD i; rw [BitVec.getLsbD_signExtend, BitVec.getLsbD_signExtend, if_pos h3, if_pos h3, h4])
    | (show (((x &&& 65535).toBitVec).setWidth 16).getLsbD i = (x.toBitVec.setWidth 16).getLsbD i; rw [BitVec.getLsbD_setWidth, BitVec.getLsbD_setWidth, h4])
    | (simp [hi, h3, h4]; done)
/-- a small number is its own byte, its own short -/
theorem fa_byte_small {n : Nat} (h : n < 128) : (nI n).toInt8.toInt32 = nI n := by
  have : ∀ j : Fin 128, (nI j.val).toInt8.toInt32 = nI j.val := by decide +kernel
  exact this ⟨n, h⟩
/-! ===== absolute difference ===== -/
theorem fa_absdiff {a b : Nat} (ha : a < 2 ^ 31) (hb : b < 2 ^ 31) : (if nI a < nI b then nI b - nI a else nI a - nI b) = nI (if a < b then b - a else a - b) := by
  by_cases h : a < b
  · rw [if_pos (nI_lt h hb), if_pos h]
    exact pk_sub (Nat.le_of_lt h)
  · rw [if_neg (nI_nlt (Nat.le_of_not_lt h) ha), if_neg h]
    exact pk_sub (Nat.le_of_not_lt h)
/-! ===== an array behind i stores, a conditional store, a row copied ===== -/
/-- f where k < i, what stood there else -/
def fa_fill {α : Type} (f g : Nat → α) (i : Nat) : Nat → α := fun k => if k < i then f k else g k
theorem fa_fill_0 {α : Type} (f g : Nat → α) : fa_fill f g 0 = g := funext fun k => if_neg (Nat.not_lt_zero k)
theorem fa_fill_in {α : Type} {f g : Nat → α} {i k : Nat} (h : k < i) : fa_fill f g i k = f k := if_pos h
theorem fa_fill_out {α : Type} {f g : Nat → α} {i k : Nat} (h : i ≤ k) : fa_fill f g i k = g k := if_neg (Nat.not_lt.mpr h)
theorem fa_fill_succ (f g : Nat → Int32) (i : Nat) : upd (fa_fill f g i) i (f i) = fa_fill f g (i + 1) := by
  funext k
  by_cases e : k = i
  · subst e
    rw [pk_us]
    exact (if_pos (Nat.lt_succ_self k)).symm
  · rw [pk_un e]
    by_cases h : k < i
    · rw [fa_fill_in h, fa_fill_in (Nat.lt_succ_of_lt h)]
    · rw [fa_fill_out (Nat.le_of_not_lt h), fa_fill_out (by omega)]
/-- a store that changes nothing -/
theorem fa_upd_same {f : Nat → Int32} {i : Nat} {x : Int32} (h : f i = x) : upd f i x = f := by
  funext k
  by_cases e : k = i
  · subst e
    rw [pk_us, h]
  · rw [pk_un e]
/-- a store under a condition, told as one -/
theorem fa_upd_if (c : Prop) [Decidable c] (f : Nat → Int32) (i : Nat) (x : Int32) : (if c then upd f i x else f) = upd f i (if c then x else f i) := by
  by_cases h : c
  · rw [if_pos h, if_pos h]
  · rw [if_neg h, if_neg h, fa_upd_same rfl]
/-- two stores at one place, at two -/
theorem fa_upd_twice (f : Nat → Int32) (i : Nat) (x y : Int32) : upd (upd f i x) i y = upd f i y := by
  funext k
  by_cases e : k = i
  · subst e
    rw [pk_us, pk_us]
  · rw [pk_un e, pk_un e, pk_un e]
theorem fa_upd_swap (f : Nat → Int32) {i j : Nat} (h : i ≠ j) (x y : Int32) : upd (upd f i x) j y = upd (upd f j y) i x := by
  funext k
  by_cases e : k = i
  · subst e
    rw [pk_un h, pk_us, pk_us]
  · by_cases e2 : k = j
    · subst e2
      rw [pk_us, pk_un e, pk_us]
    · rw [pk_un e2, pk_un e, pk_un e, pk_un e2]
/-! ===== the first index with a property; a count ===== -/
/-- the first k < n with p k, n if there is none -/
def fa_first (p : Nat → Bool) : Nat → Nat
  | 0 => 0
  | n + 1 => if fa_first p n < n then fa_first p n else if p n then n else n + 1
theorem fa_first_le (p : Nat → Bool) : ∀ n, fa_first p n ≤ n
  | 0 => Nat.le_refl 0
  | n + 1 => by
    have ih := fa_first_le p n
    unfold fa_first
    split
    · omega
    · split
      · omega
      · omega
theorem fa_first_no (p : Nat → Bool) : ∀ n k, k < fa_first p n → p k = false
  | 0, k, h => absurd h (Nat.not_lt_zero k)
  | n + 1, k, h => by
    have ih := fa_first_no p n
    have hl := fa_first_le p n
    unfold fa_first at h
    split at h
    · exact ih k h
    · rename_i h1
      split at h
      · exact ih k (by omega)
      · rename_i h2
        by_cases e : k = n
        · subst e
          exact Bool.eq_false_iff.mpr h2
        · exact ih k (by omega)
theorem fa_first_yes (p : Nat → Bool) : ∀ n, fa_first p n < n → p (fa_first p n) = true
  | 0, h => absurd h (Nat.not_lt_zero _)
  | n + 1, h => by
    have ih := fa_first_yes p n
    have hl := fa_first_le p n
    unfold fa_first at h ⊢
    split at h
    · rename_i h1
      rw [if_pos h1]
      exact ih h1
    · rename_i h1
      rw [if_neg h1]
      split at h
      · rename_i h2
        rw [if_pos h2]
        exact h2
      · omega
/-- how many k < n have p k -/
def fa_cnt (p : Nat → Bool) : Nat → Nat
  | 0 => 0
  | n + 1 => fa_cnt p n + if p n then 1 else 0
theorem fa_cnt_le (p : Nat → Bool) : ∀ n, fa_cnt p n ≤ n
  | 0 => Nat.le_refl 0
  | n + 1 => by
    have ih := fa_cnt_le p n
    unfold fa_cnt
    split
    · omega
    · omega
theorem fa_cnt_yes {p : Nat → Bool} {n : Nat} (h : p n = true) : fa_cnt p (n + 1) = fa_cnt p n + 1 := by rw [fa_cnt, if_pos h]
theorem fa_cnt_no {p : Nat → Bool} {n : Nat} (h : p n = false) : fa_cnt p (n + 1) = fa_cnt p n := by rw [fa_cnt, if_neg (by rw [h]; decide)]; rfl
theorem fa_cnt_cong {p q : Nat → Bool} : ∀ {n : Nat}, (∀ k, k < n → p k = q k) → fa_cnt p n = fa_cnt q n
  | 0, _ => rfl
  | n + 1, h => by rw [fa_cnt, fa_cnt, fa_cnt_cong (fun k hk => h k (Nat.lt_succ_of_lt hk)), h n (Nat.lt_succ_self n)]
/-! ===== an answer carried into a post; a branch on a boolean answer ===== -/
theorem fa_post {α : Type} {P : α → Prop} {x y : α} (h : x = y) (hp : P y) : P x := h ▸ hp
theorem fa_post2 {α β : Type} {P : α → β → Prop} {x y : α} {u v : β} (h : x = y) (h2 : u = v) (hp : P y v) : P x u := h ▸ h2 ▸ hp
theorem fa_bool {r : Int32} {b : Bool} (h : r = if b then 1 else 0) : (r = 0 ↔ b = false) ∧ (¬ r = 0 ↔ b = true) := by
  subst h
  cases b
  · exact ⟨⟨fun _ => rfl, fun _ => rfl⟩, ⟨fun h => absurd rfl h, fun h => absurd h (by decide)⟩⟩
  · exact ⟨⟨fun h => absurd h (by decide), fun h => absurd h (by decide)⟩, ⟨fun _ => rfl, fun _ => by decide⟩⟩
/-- a boolean's narrowing changes nothing -/
theorem fa_bool_and {r : Int32} (h : r = 0 ∨ r = 1) : r &&& 1 = r := by
  rcases h with rfl | rfl
  · decide
  · decide
theorem fa_bool_prop {c : Prop} [Decidable c] {r : Int32} (h : r = if c then 1 else 0) : (r = 0 ↔ ¬ c) ∧ (¬ r = 0 ↔ c) := by
  subst h
  by_cases hc : c
  · rw [if_pos hc]
    exact ⟨⟨fun h => absurd h (by decide), fun h => absurd hc h⟩, ⟨fun _ => hc, fun _ => by decide⟩⟩
  · rw [if_neg hc]
    exact ⟨⟨fun _ => hc, fun _ => rfl⟩, ⟨fun h => absurd rfl h, fun h => absurd h hc⟩⟩
/-! plain facts to paste, each family by itself; over the kit's nI, lN and upd -/
/-! ===== drawers: more things than places ===== -/
theorem fb_holes : ∀ (m n : Nat) (f : Nat → Nat), (∀ i, i < n → f i < m) → (∀ i j, i < j → j < n → f i ≠ f j) → n ≤ m := by
  intro m
  induction m with
  | zero =>
    intro n f h1 _
    rcases Nat.eq_zero_or_pos n with h | h
    · omega
    · exact absurd (h1 0 h) (Nat.not_lt_zero _)
  | succ m ih =>
    intro n f h1 h2
    by_cases hx : ∃ i, i < n ∧ f i = m
    · obtain ⟨a, ha, hfa⟩ := hx
      have hg := ih (n - 1) (fun i => if i < a then f i else f (i + 1)) (by
        intro i hi
        by_cases q : i < a
        · simp only [if_pos q]
          have b1 := h1 i (by omega)
          have b2 := h2 i a q ha
          omega
        · simp only [if_neg q]
          have b1 := h1 (i + 1) (by omega)
          have b2 := h2 a (i + 1) (by omega) (by omega)
          omega) (by
        intro i j hij hj
        by_cases q : i < a
        · by_cases r : j < a
          · simp only [if_pos q, if_pos r]
            exact h2 i j hij (by omega)
          · simp only [if_pos q, if_neg r]
            exact h2 i (j + 1) (by omega) (by omega)
        · have r : ¬ j < a := by omega
          simp only [if_neg q, if_neg r]
          exact h2 (i + 1) (j + 1) (by omega) (by omega))
      omega
    · have hg := ih n f (fun i hi => by
        have b1 := h1 i hi
        have b2 : f i ≠ m := fun e => hx ⟨i, hi, e⟩
        omega) h2
      omega
/-- two of them in one place -/
theorem fb_twice {m n : Nat} {f : Nat → Nat} (h : ∀ i, i < n → f i < m) (hm : m < n) : ∃ i j, i < j ∧ j < n ∧ f i = f j := by
  refine Classical.byContradiction fun hx => ?_
  have := fb_holes m n f h (fun i j hij hj e => hx ⟨i, j, hij, hj, e⟩)
  omega
/-- as many as places, none twice: each place is taken -/
theorem fb_onto {n : Nat} {f : Nat → Nat} (h : ∀ i, i < n → f i < n) (h2 : ∀ i j, i < j → j < n → f i ≠ f j) {y : Nat} (hy : y < n) : ∃ i, i < n ∧ f i = y := by
  refine Classical.byContradiction fun hx => ?_
  have hne : ∀ i, i < n → f i ≠ y := fun i hi e => hx ⟨i, hi, e⟩
  have := fb_holes (n - 1) n (fun i => if f i < y then f i else f i - 1) (by
    intro i hi
    have b1 := h i hi
    have b2 := hne i hi
    by_cases q : f i < y
    · simp only [if_pos q]; omega
    · simp only [if_neg q]; omega) (by
    intro i j hij hj
    have b1 := hne i (by omega)
    have b2 := hne j hj
    have b3 := h2 i j hij hj
    by_cases q : f i < y
    · by_cases r : f j < y
      · simp only [if_pos q, if_pos r]; exact b3
      · simp only [if_pos q, if_neg r]; omega
    · by_cases r : f j < y
      · simp only [if_neg q, if_pos r]; omega
      · simp only [if_neg q, if_neg r]; omega)
  omega
/-! ===== how many places have a property ===== -/
def fb_ct (p : Nat → Bool) : Nat → Nat
  | 0 => 0
  | n + 1 => fb_ct p n + (if p n then 1 else 0)
theorem fb_ct_succ (p : Nat → Bool) (n : Nat) : fb_ct p (n + 1) = fb_ct p n + (if p n then 1 else 0) := rfl
theorem fb_ct_le (p : Nat → Bool) : ∀ n, fb_ct p n ≤ n
  | 0 => Nat.le_refl _
  | n + 1 => by
    have h := fb_ct_le p n
    rw [fb_ct_succ]
    split <;> omega
theorem fb_ct_step (p : Nat → Bool) (m : Nat) : ∀ n, fb_ct p m ≤ fb_ct p (m + n)
  | 0 => Nat.le_refl _
  | n + 1 => by
    have h := fb_ct_step p m n
    show fb_ct p m ≤ fb_ct p (m + n + 1)
    rw [fb_ct_succ]
    omega
theorem fb_ct_mono (p : Nat → Bool) {m n : Nat} (h : m ≤ n) : fb_ct p m ≤ fb_ct p n := by
  have := fb_ct_step p m (n - m)
  rwa [Nat.add_sub_cancel' h] at this
theorem fb_ct_cong {p q : Nat → Bool} : ∀ {n : Nat}, (∀ k, k < n → p k = q k) → fb_ct p n = fb_ct q n
  | 0, _ => rfl
  | n + 1, h => by
    rw [fb_ct_succ, fb_ct_succ, fb_ct_cong (fun k hk => h k (by omega)), h n (by omega)]
/-- one place changed -/
theorem fb_ct_out (p : Nat → Bool) (b : Bool) {i n : Nat} (h : n ≤ i) : fb_ct (fun k => if k = i then b else p k) n = fb_ct p n :=
  fb_ct_cong fun k hk => if_neg (by omega)
theorem fb_ct_upd (p : Nat → Bool) (b : Bool) {i : Nat} : ∀ {n : Nat}, i < n → fb_ct (fun k => if k = i then b else p k) n + (if p i then 1 else 0) = fb_ct p n + (if b then 1 else 0)
  | 0, h => absurd h (Nat.not_lt_zero i)
  | n + 1, h => by
    rw [fb_ct_succ, fb_ct_succ]
    rcases Nat.lt_or_ge i n with q | q
    · have := fb_ct_upd p b q
      have e : (if n = i then b else p n) = p n := if_neg (by omega)
      rw [e]
      omega
    · have e : i = n := by omega
      subst e
      rw [fb_ct_out p b (Nat.le_refl _)]
      simp only [if_true]
      omega
theorem fb_ct_sub {p q : Nat → Bool} : ∀ {n : Nat}, (∀ k, k < n → p k = true → q k = true) → fb_ct p n ≤ fb_ct q n
  | 0, _ => Nat.le_refl _
  | n + 1, h => by
    have h1 := fb_ct_sub (n := n) (p := p) (q := q) (fun k hk => h k (by omega))
    have h2 := h n (by omega)
    rw [fb_ct_succ, fb_ct_succ]
    cases hp : p n <;> cases hq : q n <;> simp_all <;> omega
theorem fb_ct_or {p q : Nat → Bool} : ∀ {n : Nat}, (∀ k, k < n → ¬ (p k = true ∧ q k = true)) → fb_ct (fun k => p k || q k) n = fb_ct p n + fb_ct q n
  | 0, _ => rfl
  | n + 1, h => by
    have h1 := fb_ct_or (n := n) (p := p) (q := q) (fun k hk => h k (by omega))
    have h2 := h n (by omega)
    rw [fb_ct_succ, fb_ct_succ, fb_ct_succ, h1]
    cases hp : p n <;> cases hq : q n <;> simp_all <;> omega
theorem fb_ct_not (p : Nat → Bool) : ∀ n, fb_ct p n + fb_ct (fun k => !p k) n = n
  | 0 => rfl
  | n + 1 => by
    have h := fb_ct_not p n
    rw [fb_ct_succ, fb_ct_succ]
    cases p n <;> simp <;> omega
theorem fb_ct_split (p : Nat → Bool) (m : Nat) : ∀ n, fb_ct p (m + n) = fb_ct p m + fb_ct (fun k => p (m + k)) n
  | 0 => rfl
  | n + 1 => by
    have h := fb_ct_split p m n
    show fb_ct p (m + n + 1) = _
    rw [fb_ct_succ, fb_ct_succ, h, Nat.add_assoc]
theorem fb_ct_zero {p : Nat → Bool} : ∀ {n : Nat}, fb_ct p n = 0 ↔ ∀ k, k < n → p k = false
  | 0 => ⟨fun _ k hk => absurd hk (Nat.not_lt_zero k), fun _ => rfl⟩
  | n + 1 => by
    have h := fb_ct_zero (p := p) (n := n)
    rw [fb_ct_succ]
    constructor
    · intro e k hk
      have e1 : fb_ct p n = 0 := by omega
      rcases Nat.lt_or_ge k n with q | q
      · exact h.mp e1 k q
      · have ek : k = n := by omega
        subst ek
        cases hp : p k
        · rfl
        · simp [hp] at e
    · intro a
      rw [h.mpr (fun k hk => a k (by omega)), a n (by omega)]
      rfl
theorem fb_ct_pos {p : Nat → Bool} {n : Nat} : 0 < fb_ct p n ↔ ∃ k, k < n ∧ p k = true := by
  constructor
  · intro h
    refine Classical.byContradiction fun hx => ?_
    have := fb_ct_zero.mpr (fun k hk => by
      cases hp : p k
      · rfl
      · exact absurd ⟨k, hk, hp⟩ hx : ∀ k, k < n → p k = false)
    omega
  · rintro ⟨k, hk, hp⟩
    rcases Nat.eq_zero_or_pos (fb_ct p n) with e | e
    · have := fb_ct_zero.mp e k hk
      rw [this] at hp
      cases hp
    · exact e
theorem fb_ct_all {p : Nat → Bool} {n : Nat} : fb_ct p n = n ↔ ∀ k, k < n → p k = true := by
  have h := fb_ct_not p n
  constructor
  · intro e k hk
    have z : fb_ct (fun k => !p k) n = 0 := by omega
    have := fb_ct_zero.mp z k hk
    cases hp : p k
    · simp [hp] at this
    · rfl
  · intro a
    have z : fb_ct (fun k => !p k) n = 0 := fb_ct_zero.mpr (fun k hk => by simp [a k hk])
    omega
/-- the k-th place with the property -/
theorem fb_ct_kth {p : Nat → Bool} {k : Nat} : ∀ {n : Nat}, k < fb_ct p n → ∃ i, i < n ∧ p i = true ∧ fb_ct p i = k
  | 0, h => absurd h (Nat.not_lt_zero k)
  | n + 1, h => by
    rcases Nat.lt_or_ge k (fb_ct p n) with q | q
    · obtain ⟨i, h1, h2⟩ := fb_ct_kth q
      exact ⟨i, by omega, h2⟩
    · rw [fb_ct_succ] at h
      cases hp : p n
      · simp [hp] at h; omega
      · simp [hp] at h
        exact ⟨n, by omega, hp, by omega⟩
theorem fb_ct_kth_one {p : Nat → Bool} {i j : Nat} (hi : p i = true) (hj : p j = true) (e : fb_ct p i = fb_ct p j) : i = j := by
  have key : ∀ a b : Nat, a < b → p a = true → fb_ct p a < fb_ct p b := by
    intro a b hab ha
    have h := fb_ct_mono p (show a + 1 ≤ b from hab)
    rw [fb_ct_succ, ha] at h
    simp at h
    omega
  rcases Nat.lt_trichotomy i j with q | q | q
  · have := key i j q hi; omega
  · exact q
  · have := key j i q hj; omega
/-! ===== sums over a range: one place changed, parts, bounds ===== -/
def fb_sm (f : Nat → Nat) : Nat → Nat
  | 0 => 0
  | n + 1 => fb_sm f n + f n
theorem fb_sm_succ (f : Nat → Nat) (n : Nat) : fb_sm f (n + 1) = fb_sm f n + f n := rfl
theorem fb_sm_cong {f g : Nat → Nat} : ∀ {n : Nat}, (∀ k, k < n → f k = g k) → fb_sm f n = fb_sm g n
  | 0, _ => rfl
  | n + 1, h => by rw [fb_sm_succ, fb_sm_succ, fb_sm_cong (fun k hk => h k (by omega)), h n (by omega)]
theorem fb_sm_out (f : Nat → Nat) (v : Nat) {i n : Nat} (h : n ≤ i) : fb_sm (fun k => if k = i then v else f k) n = fb_sm f n :=
  fb_sm_cong fun k hk => if_neg (by omega)
theorem fb_sm_upd (f : Nat → Nat) (v : Nat) {i : Nat} : ∀ {n : Nat}, i < n → fb_sm (fun k => if k = i then v else f k) n + f i = fb_sm f n + v
  | 0, h => absurd h (Nat.not_lt_zero i)
  | n + 1, h => by
    rw [fb_sm_succ, fb_sm_succ]
    rcases Nat.lt_or_ge i n with q | q
    · have := fb_sm_upd f v q
      have e : (if n = i then v else f n) = f n := if_neg (by omega)
      rw [e]
      omega
    · have e : i = n := by omega
      subst e
      rw [fb_sm_out f v (Nat.le_refl _)]
      simp only [if_true]
      omega
theorem fb_sm_add (f g : Nat → Nat) : ∀ n, fb_sm (fun k => f k + g k) n = fb_sm f n + fb_sm g n
  | 0 => rfl
  | n + 1 => by
    have h := fb_sm_add f g n
    rw [fb_sm_succ, fb_sm_succ, fb_sm_succ, h]
    omega
theorem fb_sm_le {f g : Nat → Nat} : ∀ {n : Nat}, (∀ k, k < n → f k ≤ g k) → fb_sm f n ≤ fb_sm g n
  | 0, _ => Nat.le_refl _
  | n + 1, h => by
    have h1 := fb_sm_le (n := n) (f := f) (g := g) (fun k hk => h k (by omega))
    have h2 := h n (by omega)
    rw [fb_sm_succ, fb_sm_succ]
    omega
theorem fb_sm_const (c : Nat) : ∀ n, fb_sm (fun _ => c) n = n * c
  | 0 => by rw [Nat.zero_mul]; rfl
  | n + 1 => by rw [fb_sm_succ, fb_sm_const c n, Nat.succ_mul]
theorem fb_sm_bound {f : Nat → Nat} {c n : Nat} (h : ∀ k, k < n → f k ≤ c) : fb_sm f n ≤ n * c := by
  rw [← fb_sm_const c n]
  exact fb_sm_le h
theorem fb_sm_mono (f : Nat → Nat) (m : Nat) : ∀ n, fb_sm f m ≤ fb_sm f (m + n)
  | 0 => Nat.le_refl _
  | n + 1 => by
    have h := fb_sm_mono f m n
    show fb_sm f m ≤ fb_sm f (m + n + 1)
    rw [fb_sm_succ]
    omega
theorem fb_sm_part (f : Nat → Nat) {i n : Nat} (h : i < n) : fb_sm f i + f i ≤ fb_sm f n := by
  have := fb_sm_mono f (i + 1) (n - (i + 1))
  rw [fb_sm_succ, show i + 1 + (n - (i + 1)) = n by omega] at this
  exact this
theorem fb_sm_split (f : Nat → Nat) (m : Nat) : ∀ n, fb_sm f (m + n) = fb_sm f m + fb_sm (fun k => f (m + k)) n
  | 0 => rfl
  | n + 1 => by
    have h := fb_sm_split f m n
    show fb_sm f (m + n + 1) = _
    rw [fb_sm_succ, fb_sm_succ, h, Nat.add_assoc]
theorem fb_sm_zero {f : Nat → Nat} {n : Nat} (h : fb_sm f n = 0) : ∀ k, k < n → f k = 0 := fun k hk => by
  have := fb_sm_part f hk
  omega
/-- the same over whole numbers -/
def fb_si (f : Nat → Int) : Nat → Int
  | 0 => 0
  | n + 1 => fb_si f n + f n
theorem fb_si_succ (f : Nat → Int) (n : Nat) : fb_si f (n + 1) = fb_si f n + f n := rfl
theorem fb_si_cong {f g : Nat → Int} : ∀ {n : Nat}, (∀ k, k < n → f k = g k) → fb_si f n = fb_si g n
  | 0, _ => rfl
  | n + 1, h => by rw [fb_si_succ, fb_si_succ, fb_si_cong (fun k hk => h k (by omega)), h n (by omega)]
theorem fb_si_out (f : Nat → Int) (v : Int) {i n : Nat} (h : n ≤ i) : fb_si (fun k => if k = i then v else f k) n = fb_si f n :=
  fb_si_cong fun k hk => if_neg (by omega)
theorem fb_si_upd (f : Nat → Int) (v : Int) {i : Nat} : ∀ {n : Nat}, i < n → fb_si (fun k => if k = i then v else f k) n = fb_si f n - f i + v
  | 0, h => absurd h (Nat.not_lt_zero i)
  | n + 1, h => by
    rw [fb_si_succ, fb_si_succ]
    rcases Nat.lt_or_ge i n with q | q
    · have := fb_si_upd f v q
      have e : (if n = i then v else f n) = f n := if_neg (by omega)
      rw [e]
      omega
    · have e : i = n := by omega
      subst e
      rw [fb_si_out f v (Nat.le_refl _)]
      simp only [if_true]
      omega
theorem fb_si_add (f g : Nat → Int) : ∀ n, fb_si (fun k => f k + g k) n = fb_si f n + fb_si g n
  | 0 => rfl
  | n + 1 => by
    have h := fb_si_add f g n
    rw [fb_si_succ, fb_si_succ, fb_si_succ, h]
    omega
theorem fb_si_sub (f g : Nat → Int) : ∀ n, fb_si (fun k => f k - g k) n = fb_si f n - fb_si g n
  | 0 => rfl
  | n + 1 => by
    have h := fb_si_sub f g n
    rw [fb_si_succ, fb_si_succ, fb_si_succ, h]
    omega
theorem fb_si_mul (c : Int) (f : Nat → Int) : ∀ n, fb_si (fun k => c * f k) n = c * fb_si f n
  | 0 => (Int.mul_zero c).symm
  | n + 1 => by
    have h := fb_si_mul c f n
    rw [fb_si_succ, fb_si_succ, h, Int.mul_add]
theorem fb_si_split (f : Nat → Int) (m : Nat) : ∀ n, fb_si f (m + n) = fb_si f m + fb_si (fun k => f (m + k)) n
  | 0 => (Int.add_zero _).symm
  | n + 1 => by
    have h := fb_si_split f m n
    show fb_si f (m + n + 1) = _
    rw [fb_si_succ, fb_si_succ, h, Int.add_assoc]
theorem fb_si_nat (f : Nat → Nat) : ∀ n, fb_si (fun k => (f k : Int)) n = (fb_sm f n : Int)
  | 0 => rfl
  | n + 1 => by
    have h := fb_si_nat f n
    rw [fb_si_succ, fb_sm_succ, h]
    omega
theorem fb_si_bound {f : Nat → Int} {c : Int} (hc : 0 ≤ c) : ∀ {n : Nat}, (∀ k, k < n → -c ≤ f k ∧ f k ≤ c) → -(n * c) ≤ fb_si f n ∧ fb_si f n ≤ n * c
  | 0, _ => by simp [fb_si]
  | n + 1, h => by
    have h1 := fb_si_bound (n := n) (f := f) hc (fun k hk => h k (by omega))
    have h2 := h n (by omega)
    have e : ((n + 1 : Nat) : Int) * c = n * c + c := by rw [Int.natCast_add, Int.add_mul]; simp
    rw [fb_si_succ, e]
    omega
/-! ===== bits of a long that isn't negative ===== -/
theorem fb_andL (a b : Nat) : lN a &&& lN b = lN (a &&& b) := by
  apply Int64.toBitVec_inj.1
  show BitVec.ofNat 64 a &&& BitVec.ofNat 64 b = BitVec.ofNat 64 (a &&& b)
  apply BitVec.eq_of_getLsbD_eq
  intro i hi
  simp [hi]
theorem fb_orL (a b : Nat) : lN a ||| lN b = lN (a ||| b) := by
  apply Int64.toBitVec_inj.1
  show BitVec.ofNat 64 a ||| BitVec.ofNat 64 b = BitVec.ofNat 64 (a ||| b)
  apply BitVec.eq_of_getLsbD_eq
  intro i hi
  simp [hi]
theorem fb_xorL (a b : Nat) : lN a ^^^ lN b = lN (a ^^^ b) := by
  apply Int64.toBitVec_inj.1
  show BitVec.ofNat 64 a ^^^ BitVec.ofNat 64 b = BitVec.ofNat 64 (a ^^^ b)
  apply BitVec.eq_of_getLsbD_eq
  intro i hi
  simp [hi]
theorem fb_xorI (a b : Nat) : nI a ^^^ nI b = nI (a ^^^ b) := by
  apply Int32.toBitVec_inj.1
  show BitVec.ofNat 32 a ^^^ BitVec.ofNat 32 b = BitVec.ofNat 32 (a ^^^ b)
  apply BitVec.eq_of_getLsbD_eq
  intro i hi
  simp [hi]
theorem fb_maskL (n k : Nat) : lN n &&& lN (2 ^ k - 1) = lN (n % 2 ^ k) := by rw [fb_andL, Nat.and_two_pow_sub_one_eq_mod]
theorem fb_or_sumL {a k : Nat} (b : Nat) (h : a < 2 ^ k) : lN (2 ^ k * b) ||| lN a = lN (2 ^ k * b + a) := by rw [fb_orL, Nat.two_pow_add_eq_or_of_lt h]
theorem fb_lN_inj {a b : Nat} (ha : a < 2 ^ 63) (hb : b < 2 ^ 63) : lN a = lN b ↔ a = b := by
  constructor
  · intro h
    have h1 : (BitVec.ofNat 64 a).toNat = (BitVec.ofNat 64 b).toNat := congrArg (fun x : Int64 => x.toBitVec.toNat) h
    rw [BitVec.toNat_ofNat, BitVec.toNat_ofNat, Nat.mod_eq_of_lt (by omega), Nat.mod_eq_of_lt (by omega)] at h1
    exact h1
  · rintro rfl; rfl
theorem fb_bit_nat (n j : Nat) : n &&& 2 ^ j = 0 ↔ n.testBit j = false := by
  constructor
  · intro h
    have h1 : (n &&& 2 ^ j).testBit j = false := by rw [h]; simp
    rw [Nat.testBit_and] at h1
    simpa using h1
  · intro h
    apply Nat.eq_of_testBit_eq
    intro i
    rw [Nat.testBit_and]
    by_cases hi : j = i
    · subst hi; simp [h]
    · first | (simp [Nat.testBit_two_pow, hi]; done) | (simp [Nat.testBit_two_pow_of_ne hi]; done)
/-- one bit of a long -/
theorem fb_bitL {n j : Nat} (hj : j < 63) : lN n &&& lN (2 ^ j) = 0 ↔ n.testBit j = false := by
  have h2 : (2 : Nat) ^ j < 2 ^ 63 := Nat.pow_lt_pow_right (by decide) hj
  have hle : n &&& 2 ^ j ≤ 2 ^ j := Nat.and_le_right
  rw [fb_andL, ← fb_bit_nat, show (0 : Int64) = lN 0 from rfl]
  exact fb_lN_inj (by omega) (by decide)
/-- a bit set, a bit taken off -/
theorem fb_bit_set (n j i : Nat) : (n ||| 2 ^ j).testBit i = (n.testBit i || decide (i = j)) := by
  rw [Nat.testBit_or]
  by_cases h : j = i
  · subst h; simp
  · have h2 : ¬ i = j := fun e => h e.symm
    first | (simp [Nat.testBit_two_pow, h, h2]; done) | (simp [Nat.testBit_two_pow_of_ne h, h2]; done)
theorem fb_bit_flip (n j i : Nat) : (n ^^^ 2 ^ j).testBit i = (n.testBit i ^^ decide (i = j)) := by
  rw [Nat.testBit_xor]
  by_cases h : j = i
  · subst h; simp
  · have h2 : ¬ i = j := fun e => h e.symm
    first | (simp [Nat.testBit_two_pow, h, h2]; done) | (simp [Nat.testBit_two_pow_of_ne h, h2]; done)
/-! ===== a stretch of an array written over by a function ===== -/
def fb_put {α : Type} (f g : Nat → α) (a n : Nat) : Nat → α := fun k => if a ≤ k ∧ k < a + n then g (k - a) else f k
theorem fb_put_0 {α : Type} (f g : Nat → α) (a : Nat) : fb_put f g a 0 = f := funext fun k => if_neg (by omega)
theorem fb_put_in {α : Type} {f g : Nat → α} {a n k : Nat} (h1 : a ≤ k) (h2 : k < a + n) : fb_put f g a n k = g (k - a) := if_pos ⟨h1, h2⟩
theorem fb_put_out {α : Type} {f g : Nat → α} {a n k : Nat} (h : k < a ∨ a + n ≤ k) : fb_put f g a n k = f k := if_neg (by omega)
theorem fb_put_succ (f g : Nat → Int32) (a n : Nat) : upd (fb_put f g a n) (a + n) (g n) = fb_put f g a (n + 1) := by
  funext k
  by_cases h : k = a + n
  · subst h
    simp [upd, fb_put]
  · by_cases h1 : a ≤ k ∧ k < a + n
    · have h2 : a ≤ k ∧ k < a + (n + 1) := by omega
      simp only [upd, fb_put, if_neg h, if_pos h1, if_pos h2]
    · have h2 : ¬ (a ≤ k ∧ k < a + (n + 1)) := by omega
      simp only [upd, fb_put, if_neg h, if_neg h1, if_neg h2]
/-- .. from the far end down -/
theorem fb_put_down (f g : Nat → Int32) {a n m : Nat} (h : m < n) : upd (fb_put f (fun k => g (k + (m + 1))) (a + (m + 1)) (n - (m + 1))) (a + m) (g m) = fb_put f (fun k => g (k + m)) (a + m) (n - m) := by
  funext k
  by_cases h0 : k = a + m
  · subst h0
    simp only [upd, if_true]
    rw [fb_put_in (by omega) (by omega)]
    exact congrArg g (by omega)
  · simp only [upd, if_neg h0]
    by_cases h1 : a + (m + 1) ≤ k ∧ k < a + (m + 1) + (n - (m + 1))
    · rw [fb_put_in h1.1 h1.2, fb_put_in (by omega) (by omega)]
      exact congrArg g (by omega)
    · rw [fb_put_out (by omega), fb_put_out (by omega)]
theorem fb_put_cong {α : Type} {f f2 g g2 : Nat → α} {a n : Nat} (hf : ∀ k, (k < a ∨ a + n ≤ k) → f k = f2 k) (hg : ∀ k, k < n → g k = g2 k) : fb_put f g a n = fb_put f2 g2 a n := by
  funext k
  by_cases h : a ≤ k ∧ k < a + n
  · rw [fb_put_in h.1 h.2, fb_put_in h.1 h.2, hg _ (by omega)]
  · rw [fb_put_out (by omega), fb_put_out (by omega), hf _ (by omega)]
/-! ===== the least, the first, the best so far; that there is one alone ===== -/
theorem fb_first {p : Nat → Prop} [DecidablePred p] : ∀ {n : Nat}, (∃ i, i < n ∧ p i) → ∃ i, i < n ∧ p i ∧ ∀ j, j < i → ¬ p j
  | 0, h => by obtain ⟨i, hi, -⟩ := h; exact absurd hi (Nat.not_lt_zero i)
  | n + 1, h => by
    by_cases q : ∃ i, i < n ∧ p i
    · obtain ⟨i, h1, h2⟩ := fb_first q
      exact ⟨i, by omega, h2⟩
    · obtain ⟨i, h1, h2⟩ := h
      have e : i = n := by
        rcases Nat.lt_or_ge i n with r | r
        · exact absurd ⟨i, r, h2⟩ q
        · omega
      subst e
      exact ⟨i, by omega, h2, fun j hj hp => q ⟨j, hj, hp⟩⟩
theorem fb_first_one {p : Nat → Prop} {i j : Nat} (hi : p i) (hi2 : ∀ k, k < i → ¬ p k) (hj : p j) (hj2 : ∀ k, k < j → ¬ p k) : i = j := by
  rcases Nat.lt_trichotomy i j with q | q | q
  · exact absurd hi (hj2 i q)
  · exact q
  · exact absurd hj (hi2 j q)
theorem fb_last {p : Nat → Prop} [DecidablePred p] : ∀ {n : Nat}, (∃ i, i < n ∧ p i) → ∃ i, i < n ∧ p i ∧ ∀ j, i < j → j < n → ¬ p j
  | 0, h => by obtain ⟨i, hi, -⟩ := h; exact absurd hi (Nat.not_lt_zero i)
  | n + 1, h => by
    by_cases q : p n
    · exact ⟨n, by omega, q, fun j h1 h2 => by omega⟩
    · obtain ⟨i, h1, h2⟩ := h
      have hi : i < n := by
        rcases Nat.lt_or_ge i n with r | r
        · exact r
        · have e : i = n := by omega
          subst e
          exact absurd h2 q
      obtain ⟨i2, a1, a2, a3⟩ := fb_last (n := n) ⟨i, hi, h2⟩
      refine ⟨i2, by omega, a2, fun j b1 b2 => ?_⟩
      rcases Nat.lt_or_ge j n with r | r
      · exact a3 j b1 r
      · have e : j = n := by omega
        subst e
        exact q
/-- the first greatest -/
theorem fb_best (f : Nat → Int) : ∀ {n : Nat}, 0 < n → ∃ i, i < n ∧ (∀ j, j < n → f j ≤ f i) ∧ ∀ j, j < i → f j < f i
  | 0, h => absurd h (Nat.lt_irrefl 0)
  | 1, _ => ⟨0, by omega, fun j hj => by have e : j = 0 := by omega
                                         subst e; exact Int.le_refl _, fun j hj => absurd hj (Nat.not_lt_zero j)⟩
  | n + 2, _ => by
    obtain ⟨i, h1, h2, h3⟩ := fb_best f (n := n + 1) (by omega)
    by_cases q : f i < f (n + 1)
    · refine ⟨n + 1, by omega, fun j hj => ?_, fun j hj => ?_⟩
      · rcases Nat.lt_or_ge j (n + 1) with r | r
        · have := h2 j r; omega
        · have e : j = n + 1 := by omega
          subst e; exact Int.le_refl _
      · have := h2 j hj; omega
    · refine ⟨i, by omega, fun j hj => ?_, h3⟩
      rcases Nat.lt_or_ge j (n + 1) with r | r
      · exact h2 j r
      · have e : j = n + 1 := by omega
        subst e; omega
theorem fb_best_one {f : Nat → Int} {n i j : Nat} (hi : i < n) (hi2 : ∀ k, k < n → f k ≤ f i) (hi3 : ∀ k, k < i → f k < f i) (hj : j < n) (hj2 : ∀ k, k < n → f k ≤ f j) (hj3 : ∀ k, k < j → f k < f j) : i = j := by
  rcases Nat.lt_trichotomy i j with q | q | q
  · have a := hj3 i q
    have b := hi2 j hj
    omega
  · exact q
  · have a := hi3 j q
    have b := hj2 i hi
    omega
/-- the first least -/
theorem fb_low (f : Nat → Int) {n : Nat} (h : 0 < n) : ∃ i, i < n ∧ (∀ j, j < n → f i ≤ f j) ∧ ∀ j, j < i → f i < f j := by
  obtain ⟨i, h1, h2, h3⟩ := fb_best (fun k => -f k) h
  exact ⟨i, h1, fun j hj => by have := h2 j hj; omega, fun j hj => by have := h3 j hj; omega⟩
/-! ===== signed ints as whole numbers, within bounds ===== -/
theorem fb_rng (x : Int32) : -2147483648 ≤ x.toInt ∧ x.toInt < 2147483648 := by
  have h1 := Int32.le_toInt x
  have h2 := Int32.toInt_lt x
  omega
theorem fb_bmod {z : Int} (h1 : -2147483648 ≤ z) (h2 : z < 2147483648) : z.bmod (2 ^ 32) = z := by
  rw [Int.bmod_eq_of_le (by omega) (by omega)]
theorem fb_addI {x y : Int32} (h1 : -2147483648 ≤ x.toInt + y.toInt) (h2 : x.toInt + y.toInt < 2147483648) : (x + y).toInt = x.toInt + y.toInt := by
  rw [Int32.toInt_add, fb_bmod h1 h2]
theorem fb_subI {x y : Int32} (h1 : -2147483648 ≤ x.toInt - y.toInt) (h2 : x.toInt - y.toInt < 2147483648) : (x - y).toInt = x.toInt - y.toInt := by
  rw [Int32.toInt_sub, fb_bmod h1 h2]
theorem fb_mulI {x y : Int32} (h1 : -2147483648 ≤ x.toInt * y.toInt) (h2 : x.toInt * y.toInt < 2147483648) : (x * y).toInt = x.toInt * y.toInt := by
  rw [Int32.toInt_mul, fb_bmod h1 h2]
theorem fb_negI {x : Int32} (h : x.toInt ≠ -2147483648) : (-x).toInt = -x.toInt := by
  have := fb_rng x
  rw [Int32.toInt_neg, fb_bmod (by omega) (by omega)]
theorem fb_ofI {z : Int} (h1 : -2147483648 ≤ z) (h2 : z < 2147483648) : (Int32.ofInt z).toInt = z := by
  rw [Int32.toInt_ofInt, fb_bmod h1 h2]
theorem fb_asI (x : Int32) : Int32.ofInt x.toInt = x := Int32.ofInt_toInt x
theorem fb_rngL (x : Int64) : -9223372036854775808 ≤ x.toInt ∧ x.toInt < 9223372036854775808 := by
  have h1 := Int64.le_toInt x
  have h2 := Int64.toInt_lt x
  omega
theorem fb_bmodL {z : Int} (h1 : -9223372036854775808 ≤ z) (h2 : z < 9223372036854775808) : z.bmod (2 ^ 64) = z := by
  rw [Int.bmod_eq_of_le (by omega) (by omega)]
theorem fb_addL {x y : Int64} (h1 : -9223372036854775808 ≤ x.toInt + y.toInt) (h2 : x.toInt + y.toInt < 9223372036854775808) : (x + y).toInt = x.toInt + y.toInt := by
  rw [Int64.toInt_add, fb_bmodL h1 h2]
theorem fb_subL {x y : Int64} (h1 : -9223372036854775808 ≤ x.toInt - y.toInt) (h2 : x.toInt - y.toInt < 9223372036854775808) : (x - y).toInt = x.toInt - y.toInt := by
  rw [Int64.toInt_sub, fb_bmodL h1 h2]
theorem fb_mulL {x y : Int64} (h1 : -9223372036854775808 ≤ x.toInt * y.toInt) (h2 : x.toInt * y.toInt < 9223372036854775808) : (x * y).toInt = x.toInt * y.toInt := by
  rw [Int64.toInt_mul, fb_bmodL h1 h2]
/-! ===== cuts of what is narrow already ===== -/
theorem fb_byte {x : Int32} (h1 : -128 ≤ x.toInt) (h2 : x.toInt < 128) : x.toInt8.toInt32 = x := by
  apply Int32.toInt_inj.1
  rw [Int8.toInt_toInt32, Int32.toInt_toInt8, Int.bmod_eq_of_le (by omega) (by omega)]
theorem fb_short {x : Int32} (h1 : -32768 ≤ x.toInt) (h2 : x.toInt < 32768) : x.toInt16.toInt32 = x := by
  apply Int32.toInt_inj.1
  rw [Int16.toInt_toInt32, Int32.toInt_toInt16, Int.bmod_eq_of_le (by omega) (by omega)]
theorem fb_byte_rng (x : Int32) : -128 ≤ x.toInt8.toInt32.toInt ∧ x.toInt8.toInt32.toInt < 128 := by
  rw [Int8.toInt_toInt32]
  have h1 := Int8.le_toInt x.toInt8
  have h2 := Int8.toInt_lt x.toInt8
  omega
theorem fb_short_rng (x : Int32) : -32768 ≤ x.toInt16.toInt32.toInt ∧ x.toInt16.toInt32.toInt < 32768 := by
  rw [Int16.toInt_toInt32]
  have h1 := Int16.le_toInt x.toInt16
  have h2 := Int16.toInt_lt x.toInt16
  omega
theorem fb_byte_twice (x : Int32) : x.toInt8.toInt32.toInt8.toInt32 = x.toInt8.toInt32 := fb_byte (fb_byte_rng x).1 (fb_byte_rng x).2
theorem fb_short_twice (x : Int32) : x.toInt16.toInt32.toInt16.toInt32 = x.toInt16.toInt32 := fb_short (fb_short_rng x).1 (fb_short_rng x).2
theorem fb_char {n : Nat} (h : n < 65536) : (nI n).toUInt32.toUInt16.toUInt32.toInt32 = nI n := by
  apply Int32.toBitVec_inj.1
  apply BitVec.eq_of_toNat_eq
  have e1 : (nI n).toBitVec.toNat = n := by
    show (BitVec.ofNat 32 n).toNat = n
    rw [BitVec.toNat_ofNat, Nat.mod_eq_of_lt (by omega)]
  have e2 : ((nI n).toUInt32.toUInt16.toUInt32).toNat = n := by
    rw [UInt16.toNat_toUInt32, UInt32.toNat_toUInt16]
    show (nI n).toBitVec.toNat % 2 ^ 16 = n
    rw [e1, Nat.mod_eq_of_lt (by omega)]
  rw [e1]
  exact e2
end
section
/-! small methods of both sides, as equations -/
theorem z01 (p : Prop) [Decidable p] : ((if p then (0 : Int32) else 1) = 0) = p := by
  by_cases h : p <;> simp [h]
theorem z10 (p : Prop) [Decidable p] : ((if p then (0 : Int32) else 1) = 1) = ¬ p := by
  by_cases h : p <;> simp [h]
theorem zb (p : Prop) [Decidable p] : ((if p then (0 : Int32) else 1) &&& 1 = (if p then (0 : Int32) else 1)) = True := by
  by_cases h : p <;> simp [h] <;> decide
section LEAF
variable {h : AH} {Q : Option Value → AH → Prop}
theorem C_isPence {v : Int32} : WpM 69 [.int v] h Q = Q (some (.int (if v < 0 ∨ 99 < v then 0 else 1))) h := by
  rw [eC_isPence]
  simp only [qC_isPence_0, jC_isPence_0, qC_isPence_14, jC_isPence_14, qC_isPence_15, jC_isPence_15, w0, w1, w2i, w2r, w3, w4, w5_0, w5_1, w5_2, w5_3, w5_4, w5_5, w5_6, w5_7, w5_8, w6_0, w6_1, w7_0, w7_1, w7_2, w7_3, w7_4, w7_5, w8_0, w8_1, w9_0, w9_1, w9_2, w10_0, w10_1, w10_2, w10_3, w10_4, w10_5, w11, w12_0, w12_1, w12_2, w12_3, w12_4, w12_5, w13_0, w13_1, w13_2, w13_3, w13_4, w13_5, w14, w15i, w15r, w16, w17, w18, w19i, w19z, w19l, w20, w21, w22, w23, w24, w25, w26, w27, w28_1, w28_2, w28_3, w28_4, w28_5, w28_6, w29, w30i, w30z, w31, w32, w33, w34, w35, w36, w37_1, w37_2, w37_3, w37_4, w37_5, w37_6, isO_O, set1_0, set1_1i, set1_1r, set1_1n, set1_1l, set1_s, set2_0, set2_1i, set2_1r, set2_1n, set2_1l, set2_s, ldv_i, ldv_l, ldv_r, ldv_s, ldi_i, ldi_s, fK_0, fK_s, gfc_O, fS_0, fS_s, uH_s, uH_n, uH_u, tl_s, tl_n, b1_0, b1_1, ite_true, ite_false, if_true, if_false, List.length_nil, List.length_cons, Nat.zero_le, Nat.zero_add, Nat.reduceAdd, Nat.reduceLeDiff, Nat.reduceEqDiff, Nat.reduceMul, Nat.add_left_cancel_iff, not_false_eq_true]
  by_cases h1 : v < 0 <;> by_cases h2 : 99 < v <;> simp [h1, h2]
theorem C_isShare {v : Int32} : WpM 70 [.int v] h Q = Q (some (.int (if v < 0 ∨ 2 < v then 0 else 1))) h := by
  rw [eC_isShare]
  simp only [qC_isShare_0, jC_isShare_0, qC_isShare_13, jC_isShare_13, qC_isShare_14, jC_isShare_14, w0, w1, w2i, w2r, w3, w4, w5_0, w5_1, w5_2, w5_3, w5_4, w5_5, w5_6, w5_7, w5_8, w6_0, w6_1, w7_0, w7_1, w7_2, w7_3, w7_4, w7_5, w8_0, w8_1, w9_0, w9_1, w9_2, w10_0, w10_1, w10_2, w10_3, w10_4, w10_5, w11, w12_0, w12_1, w12_2, w12_3, w12_4, w12_5, w13_0, w13_1, w13_2, w13_3, w13_4, w13_5, w14, w15i, w15r, w16, w17, w18, w19i, w19z, w19l, w20, w21, w22, w23, w24, w25, w26, w27, w28_1, w28_2, w28_3, w28_4, w28_5, w28_6, w29, w30i, w30z, w31, w32, w33, w34, w35, w36, w37_1, w37_2, w37_3, w37_4, w37_5, w37_6, isO_O, set1_0, set1_1i, set1_1r, set1_1n, set1_1l, set1_s, set2_0, set2_1i, set2_1r, set2_1n, set2_1l, set2_s, ldv_i, ldv_l, ldv_r, ldv_s, ldi_i, ldi_s, fK_0, fK_s, gfc_O, fS_0, fS_s, uH_s, uH_n, uH_u, tl_s, tl_n, b1_0, b1_1, ite_true, ite_false, if_true, if_false, List.length_nil, List.length_cons, Nat.zero_le, Nat.zero_add, Nat.reduceAdd, Nat.reduceLeDiff, Nat.reduceEqDiff, Nat.reduceMul, Nat.add_left_cancel_iff, not_false_eq_true]
  by_cases h1 : v < 0 <;> by_cases h2 : 2 < v <;> simp [h1, h2]
theorem C_isOwner {v : Int32} : WpM 71 [.int v] h Q = Q (some (.int (if v < 0 ∨ 3 < v then 0 else 1))) h := by
  rw [eC_isOwner]
  simp only [qC_isOwner_0, jC_isOwner_0, qC_isOwner_13, jC_isOwner_13, qC_isOwner_14, jC_isOwner_14, w0, w1, w2i, w2r, w3, w4, w5_0, w5_1, w5_2, w5_3, w5_4, w5_5, w5_6, w5_7, w5_8, w6_0, w6_1, w7_0, w7_1, w7_2, w7_3, w7_4, w7_5, w8_0, w8_1, w9_0, w9_1, w9_2, w10_0, w10_1, w10_2, w10_3, w10_4, w10_5, w11, w12_0, w12_1, w12_2, w12_3, w12_4, w12_5, w13_0, w13_1, w13_2, w13_3, w13_4, w13_5, w14, w15i, w15r, w16, w17, w18, w19i, w19z, w19l, w20, w21, w22, w23, w24, w25, w26, w27, w28_1, w28_2, w28_3, w28_4, w28_5, w28_6, w29, w30i, w30z, w31, w32, w33, w34, w35, w36, w37_1, w37_2, w37_3, w37_4, w37_5, w37_6, isO_O, set1_0, set1_1i, set1_1r, set1_1n, set1_1l, set1_s, set2_0, set2_1i, set2_1r, set2_1n, set2_1l, set2_s, ldv_i, ldv_l, ldv_r, ldv_s, ldi_i, ldi_s, fK_0, fK_s, gfc_O, fS_0, fS_s, uH_s, uH_n, uH_u, tl_s, tl_n, b1_0, b1_1, ite_true, ite_false, if_true, if_false, List.length_nil, List.length_cons, Nat.zero_le, Nat.zero_add, Nat.reduceAdd, Nat.reduceLeDiff, Nat.reduceEqDiff, Nat.reduceMul, Nat.add_left_cancel_iff, not_false_eq_true]
  by_cases h1 : v < 0 <;> by_cases h2 : 3 < v <;> simp [h1, h2]
theorem C_isSheet {v : Int32} : WpM 73 [.int v] h Q = Q (some (.int (if v < 0 ∨ 4 ≤ v then 0 else 1))) h := by
  rw [eC_isSheet]
  simp only [qC_isSheet_0, jC_isSheet_0, qC_isSheet_13, jC_isSheet_13, qC_isSheet_14, jC_isSheet_14, w0, w1, w2i, w2r, w3, w4, w5_0, w5_1, w5_2, w5_3, w5_4, w5_5, w5_6, w5_7, w5_8, w6_0, w6_1, w7_0, w7_1, w7_2, w7_3, w7_4, w7_5, w8_0, w8_1, w9_0, w9_1, w9_2, w10_0, w10_1, w10_2, w10_3, w10_4, w10_5, w11, w12_0, w12_1, w12_2, w12_3, w12_4, w12_5, w13_0, w13_1, w13_2, w13_3, w13_4, w13_5, w14, w15i, w15r, w16, w17, w18, w19i, w19z, w19l, w20, w21, w22, w23, w24, w25, w26, w27, w28_1, w28_2, w28_3, w28_4, w28_5, w28_6, w29, w30i, w30z, w31, w32, w33, w34, w35, w36, w37_1, w37_2, w37_3, w37_4, w37_5, w37_6, isO_O, set1_0, set1_1i, set1_1r, set1_1n, set1_1l, set1_s, set2_0, set2_1i, set2_1r, set2_1n, set2_1l, set2_s, ldv_i, ldv_l, ldv_r, ldv_s, ldi_i, ldi_s, fK_0, fK_s, gfc_O, fS_0, fS_s, uH_s, uH_n, uH_u, tl_s, tl_n, b1_0, b1_1, ite_true, ite_false, if_true, if_false, List.length_nil, List.length_cons, Nat.zero_le, Nat.zero_add, Nat.reduceAdd, Nat.reduceLeDiff, Nat.reduceEqDiff, Nat.reduceMul, Nat.add_left_cancel_iff, not_false_eq_true]
  by_cases h1 : v < 0 <;> by_cases h2 : 4 ≤ v <;> simp [h1, h2]
theorem C_isLane {v : Int32} : WpM 74 [.int v] h Q = Q (some (.int (if v < 0 ∨ 2 < v then 0 else 1))) h := by
  rw [eC_isLane]
  simp only [qC_isLane_0, jC_isLane_0, qC_isLane_13, jC_isLane_13, qC_isLane_14, jC_isLane_14, w0, w1, w2i, w2r, w3, w4, w5_0, w5_1, w5_2, w5_3, w5_4, w5_5, w5_6, w5_7, w5_8, w6_0, w6_1, w7_0, w7_1, w7_2, w7_3, w7_4, w7_5, w8_0, w8_1, w9_0, w9_1, w9_2, w10_0, w10_1, w10_2, w10_3, w10_4, w10_5, w11, w12_0, w12_1, w12_2, w12_3, w12_4, w12_5, w13_0, w13_1, w13_2, w13_3, w13_4, w13_5, w14, w15i, w15r, w16, w17, w18, w19i, w19z, w19l, w20, w21, w22, w23, w24, w25, w26, w27, w28_1, w28_2, w28_3, w28_4, w28_5, w28_6, w29, w30i, w30z, w31, w32, w33, w34, w35, w36, w37_1, w37_2, w37_3, w37_4, w37_5, w37_6, isO_O, set1_0, set1_1i, set1_1r, set1_1n, set1_1l, set1_s, set2_0, set2_1i, set2_1r, set2_1n, set2_1l, set2_s, ldv_i, ldv_l, ldv_r, ldv_s, ldi_i, ldi_s, fK_0, fK_s, gfc_O, fS_0, fS_s, uH_s, uH_n, uH_u, tl_s, tl_n, b1_0, b1_1, ite_true, ite_false, if_true, if_false, List.length_nil, List.length_cons, Nat.zero_le, Nat.zero_add, Nat.reduceAdd, Nat.reduceLeDiff, Nat.reduceEqDiff, Nat.reduceMul, Nat.add_left_cancel_iff, not_false_eq_true]
  by_cases h1 : v < 0 <;> by_cases h2 : 2 < v <;> simp [h1, h2]
theorem C_isPart {v : Int32} : WpM 72 [.int v] h Q = Q (some (.int (if ¬ (v = 0 ∨ v = 1) then 0 else 1))) h := by
  rw [eC_isPart]
  simp only [qC_isPart_0, jC_isPart_0, qC_isPart_9, jC_isPart_9, qC_isPart_13, jC_isPart_13, qC_isPart_14, jC_isPart_14, w0, w1, w2i, w2r, w3, w4, w5_0, w5_1, w5_2, w5_3, w5_4, w5_5, w5_6, w5_7, w5_8, w6_0, w6_1, w7_0, w7_1, w7_2, w7_3, w7_4, w7_5, w8_0, w8_1, w9_0, w9_1, w9_2, w10_0, w10_1, w10_2, w10_3, w10_4, w10_5, w11, w12_0, w12_1, w12_2, w12_3, w12_4, w12_5, w13_0, w13_1, w13_2, w13_3, w13_4, w13_5, w14, w15i, w15r, w16, w17, w18, w19i, w19z, w19l, w20, w21, w22, w23, w24, w25, w26, w27, w28_1, w28_2, w28_3, w28_4, w28_5, w28_6, w29, w30i, w30z, w31, w32, w33, w34, w35, w36, w37_1, w37_2, w37_3, w37_4, w37_5, w37_6, isO_O, set1_0, set1_1i, set1_1r, set1_1n, set1_1l, set1_s, set2_0, set2_1i, set2_1r, set2_1n, set2_1l, set2_s, ldv_i, ldv_l, ldv_r, ldv_s, ldi_i, ldi_s, fK_0, fK_s, gfc_O, fS_0, fS_s, uH_s, uH_n, uH_u, tl_s, tl_n, b1_0, b1_1, ite_true, ite_false, if_true, if_false, List.length_nil, List.length_cons, Nat.zero_le, Nat.zero_add, Nat.reduceAdd, Nat.reduceLeDiff, Nat.reduceEqDiff, Nat.reduceMul, Nat.add_left_cancel_iff, not_false_eq_true]
  by_cases h1 : v = 0 <;> by_cases h2 : v = 1 <;> simp [h1, h2]
theorem C_isIn {s k : Int32} : WpM 75 [.int s, .int k] h Q = Q (some (.int (if ¬ ((s >>> (k &&& 31)) &&& 1 = 1) then 0 else 1))) h := by
  rw [eC_isIn]
  simp only [qC_isIn_0, jC_isIn_0, qC_isIn_13, jC_isIn_13, qC_isIn_14, jC_isIn_14, w0, w1, w2i, w2r, w3, w4, w5_0, w5_1, w5_2, w5_3, w5_4, w5_5, w5_6, w5_7, w5_8, w6_0, w6_1, w7_0, w7_1, w7_2, w7_3, w7_4, w7_5, w8_0, w8_1, w9_0, w9_1, w9_2, w10_0, w10_1, w10_2, w10_3, w10_4, w10_5, w11, w12_0, w12_1, w12_2, w12_3, w12_4, w12_5, w13_0, w13_1, w13_2, w13_3, w13_4, w13_5, w14, w15i, w15r, w16, w17, w18, w19i, w19z, w19l, w20, w21, w22, w23, w24, w25, w26, w27, w28_1, w28_2, w28_3, w28_4, w28_5, w28_6, w29, w30i, w30z, w31, w32, w33, w34, w35, w36, w37_1, w37_2, w37_3, w37_4, w37_5, w37_6, isO_O, set1_0, set1_1i, set1_1r, set1_1n, set1_1l, set1_s, set2_0, set2_1i, set2_1r, set2_1n, set2_1l, set2_s, ldv_i, ldv_l, ldv_r, ldv_s, ldi_i, ldi_s, fK_0, fK_s, gfc_O, fS_0, fS_s, uH_s, uH_n, uH_u, tl_s, tl_n, b1_0, b1_1, ite_true, ite_false, if_true, if_false, List.length_nil, List.length_cons, Nat.zero_le, Nat.zero_add, Nat.reduceAdd, Nat.reduceLeDiff, Nat.reduceEqDiff, Nat.reduceMul, Nat.add_left_cancel_iff, not_false_eq_true]
  by_cases h1 : (s >>> (k &&& 31)) &&& 1 = 1 <;> simp [h1]
theorem C_byteOf {w : Int64} {k : Int32} : WpM 77 [.long w, .int k] h Q = Q (some (.int (((w.toUInt64 >>> ((8 * k).toInt64.toUInt64 &&& Int64.toUInt64 63)).toInt64 &&& 255).toInt32))) h := by
  rw [eC_byteOf]
  simp only [qC_byteOf_0, jC_byteOf_0, w0, w1, w2i, w2r, w3, w4, w5_0, w5_1, w5_2, w5_3, w5_4, w5_5, w5_6, w5_7, w5_8, w6_0, w6_1, w7_0, w7_1, w7_2, w7_3, w7_4, w7_5, w8_0, w8_1, w9_0, w9_1, w9_2, w10_0, w10_1, w10_2, w10_3, w10_4, w10_5, w11, w12_0, w12_1, w12_2, w12_3, w12_4, w12_5, w13_0, w13_1, w13_2, w13_3, w13_4, w13_5, w14, w15i, w15r, w16, w17, w18, w19i, w19z, w19l, w20, w21, w22, w23, w24, w25, w26, w27, w28_1, w28_2, w28_3, w28_4, w28_5, w28_6, w29, w30i, w30z, w31, w32, w33, w34, w35, w36, w37_1, w37_2, w37_3, w37_4, w37_5, w37_6, isO_O, set1_0, set1_1i, set1_1r, set1_1n, set1_1l, set1_s, set2_0, set2_1i, set2_1r, set2_1n, set2_1l, set2_s, ldv_i, ldv_l, ldv_r, ldv_s, ldi_i, ldi_s, fK_0, fK_s, gfc_O, fS_0, fS_s, uH_s, uH_n, uH_u, tl_s, tl_n, b1_0, b1_1, ite_true, ite_false, if_true, if_false, List.length_nil, List.length_cons, Nat.zero_le, Nat.zero_add, Nat.reduceAdd, Nat.reduceLeDiff, Nat.reduceEqDiff, Nat.reduceMul, Nat.add_left_cancel_iff, not_false_eq_true]
theorem C_lowestBits {lane : Int32} {v : Int64} : WpM 78 [.int lane, .long v] h Q = Q (some (.long (if lane = 0 then v.toInt32.toInt8.toInt32.toInt64 else if lane = 1 then v.toInt32.toInt16.toInt32.toInt64 else v))) h := by
  rw [eC_lowestBits]
  simp only [qC_lowestBits_0, jC_lowestBits_0, qC_lowestBits_9, jC_lowestBits_9, qC_lowestBits_21, jC_lowestBits_21, qC_lowestBits_22, jC_lowestBits_22, w0, w1, w2i, w2r, w3, w4, w5_0, w5_1, w5_2, w5_3, w5_4, w5_5, w5_6, w5_7, w5_8, w6_0, w6_1, w7_0, w7_1, w7_2, w7_3, w7_4, w7_5, w8_0, w8_1, w9_0, w9_1, w9_2, w10_0, w10_1, w10_2, w10_3, w10_4, w10_5, w11, w12_0, w12_1, w12_2, w12_3, w12_4, w12_5, w13_0, w13_1, w13_2, w13_3, w13_4, w13_5, w14, w15i, w15r, w16, w17, w18, w19i, w19z, w19l, w20, w21, w22, w23, w24, w25, w26, w27, w28_1, w28_2, w28_3, w28_4, w28_5, w28_6, w29, w30i, w30z, w31, w32, w33, w34, w35, w36, w37_1, w37_2, w37_3, w37_4, w37_5, w37_6, isO_O, set1_0, set1_1i, set1_1r, set1_1n, set1_1l, set1_s, set2_0, set2_1i, set2_1r, set2_1n, set2_1l, set2_s, ldv_i, ldv_l, ldv_r, ldv_s, ldi_i, ldi_s, fK_0, fK_s, gfc_O, fS_0, fS_s, uH_s, uH_n, uH_u, tl_s, tl_n, b1_0, b1_1, ite_true, ite_false, if_true, if_false, List.length_nil, List.length_cons, Nat.zero_le, Nat.zero_add, Nat.reduceAdd, Nat.reduceLeDiff, Nat.reduceEqDiff, Nat.reduceMul, Nat.add_left_cancel_iff, not_false_eq_true]
  by_cases h1 : lane = 0 <;> by_cases h2 : lane = 1 <;> simp [h1, h2]
theorem M_in {a b d : Int64} : WpM 86 [.long a, .long b, .long d] h Q = Q (some (.int (if a < b ∨ d < a then 0 else 1))) h := by
  rw [eM_in]
  simp only [qM_in_0, jM_in_0, qM_in_17, jM_in_17, qM_in_18, jM_in_18, w0, w1, w2i, w2r, w3, w4, w5_0, w5_1, w5_2, w5_3, w5_4, w5_5, w5_6, w5_7, w5_8, w6_0, w6_1, w7_0, w7_1, w7_2, w7_3, w7_4, w7_5, w8_0, w8_1, w9_0, w9_1, w9_2, w10_0, w10_1, w10_2, w10_3, w10_4, w10_5, w11, w12_0, w12_1, w12_2, w12_3, w12_4, w12_5, w13_0, w13_1, w13_2, w13_3, w13_4, w13_5, w14, w15i, w15r, w16, w17, w18, w19i, w19z, w19l, w20, w21, w22, w23, w24, w25, w26, w27, w28_1, w28_2, w28_3, w28_4, w28_5, w28_6, w29, w30i, w30z, w31, w32, w33, w34, w35, w36, w37_1, w37_2, w37_3, w37_4, w37_5, w37_6, isO_O, set1_0, set1_1i, set1_1r, set1_1n, set1_1l, set1_s, set2_0, set2_1i, set2_1r, set2_1n, set2_1l, set2_s, ldv_i, ldv_l, ldv_r, ldv_s, ldi_i, ldi_s, fK_0, fK_s, gfc_O, fS_0, fS_s, uH_s, uH_n, uH_u, tl_s, tl_n, b1_0, b1_1, ite_true, ite_false, if_true, if_false, List.length_nil, List.length_cons, Nat.zero_le, Nat.zero_add, Nat.reduceAdd, Nat.reduceLeDiff, Nat.reduceEqDiff, Nat.reduceMul, Nat.add_left_cancel_iff, not_false_eq_true, lg_cmp_lt, lg_cmp_gt]
  by_cases h1 : a < b <;> by_cases h2 : d < a <;> simp [h1, h2]
theorem M_isSheet {v : Int32} : WpM 134 [.int v] h Q = Q (some (.int (if v < 0 ∨ 4 ≤ v then 0 else 1))) h := by
  rw [eM_isSheet]
  simp only [qM_isSheet_0, jM_isSheet_0, w0, w1, w2i, w2r, w3, w4, w5_0, w5_1, w5_2, w5_3, w5_4, w5_5, w5_6, w5_7, w5_8, w6_0, w6_1, w7_0, w7_1, w7_2, w7_3, w7_4, w7_5, w8_0, w8_1, w9_0, w9_1, w9_2, w10_0, w10_1, w10_2, w10_3, w10_4, w10_5, w11, w12_0, w12_1, w12_2, w12_3, w12_4, w12_5, w13_0, w13_1, w13_2, w13_3, w13_4, w13_5, w14, w15i, w15r, w16, w17, w18, w19i, w19z, w19l, w20, w21, w22, w23, w24, w25, w26, w27, w28_1, w28_2, w28_3, w28_4, w28_5, w28_6, w29, w30i, w30z, w31, w32, w33, w34, w35, w36, w37_1, w37_2, w37_3, w37_4, w37_5, w37_6, isO_O, set1_0, set1_1i, set1_1r, set1_1n, set1_1l, set1_s, set2_0, set2_1i, set2_1r, set2_1n, set2_1l, set2_s, ldv_i, ldv_l, ldv_r, ldv_s, ldi_i, ldi_s, fK_0, fK_s, gfc_O, fS_0, fS_s, uH_s, uH_n, uH_u, tl_s, tl_n, b1_0, b1_1, ite_true, ite_false, if_true, if_false, List.length_nil, List.length_cons, Nat.zero_le, Nat.zero_add, Nat.reduceAdd, Nat.reduceLeDiff, Nat.reduceEqDiff, Nat.reduceMul, Nat.add_left_cancel_iff, not_false_eq_true, M_in, zb]
  have e1 : (v.toInt64 < 0) = (v < 0) := propext (fa_wide_lt v 0)
  have e2 : ((3 : Int64) < v.toInt64) = (3 < v) := propext (fa_wide_lt 3 v)
  have e3 : (4 ≤ v) = (3 < v) := by
    apply propext; rw [fa_le, fa_lt]; exact Iff.intro (fun z => by have : (4 : Int32).toInt = 4 := rfl; have : (3 : Int32).toInt = 3 := rfl; omega) (fun z => by have : (4 : Int32).toInt = 4 := rfl; have : (3 : Int32).toInt = 3 := rfl; omega)
  simp only [e1, e2, e3]
theorem M_isLane {v : Int32} : WpM 135 [.int v] h Q = Q (some (.int (if v < 0 ∨ 2 < v then 0 else 1))) h := by
  rw [eM_isLane]
  simp only [qM_isLane_0, jM_isLane_0, w0, w1, w2i, w2r, w3, w4, w5_0, w5_1, w5_2, w5_3, w5_4, w5_5, w5_6, w5_7, w5_8, w6_0, w6_1, w7_0, w7_1, w7_2, w7_3, w7_4, w7_5, w8_0, w8_1, w9_0, w9_1, w9_2, w10_0, w10_1, w10_2, w10_3, w10_4, w10_5, w11, w12_0, w12_1, w12_2, w12_3, w12_4, w12_5, w13_0, w13_1, w13_2, w13_3, w13_4, w13_5, w14, w15i, w15r, w16, w17, w18, w19i, w19z, w19l, w20, w21, w22, w23, w24, w25, w26, w27, w28_1, w28_2, w28_3, w28_4, w28_5, w28_6, w29, w30i, w30z, w31, w32, w33, w34, w35, w36, w37_1, w37_2, w37_3, w37_4, w37_5, w37_6, isO_O, set1_0, set1_1i, set1_1r, set1_1n, set1_1l, set1_s, set2_0, set2_1i, set2_1r, set2_1n, set2_1l, set2_s, ldv_i, ldv_l, ldv_r, ldv_s, ldi_i, ldi_s, fK_0, fK_s, gfc_O, fS_0, fS_s, uH_s, uH_n, uH_u, tl_s, tl_n, b1_0, b1_1, ite_true, ite_false, if_true, if_false, List.length_nil, List.length_cons, Nat.zero_le, Nat.zero_add, Nat.reduceAdd, Nat.reduceLeDiff, Nat.reduceEqDiff, Nat.reduceMul, Nat.add_left_cancel_iff, not_false_eq_true, M_in, zb]
  have e1 : (v.toInt64 < 0) = (v < 0) := propext (fa_wide_lt v 0)
  have e2 : ((2 : Int64) < v.toInt64) = (2 < v) := propext (fa_wide_lt 2 v)
  simp only [e1, e2]
theorem P_digitOf {s b : Int32} : WpM 22 [.int s, .int b] h Q = Q (some (.int (if s - 48 < 0 ∨ b ≤ s - 48 then -4 else s - 48))) h := by
  rw [eP_digitOf]
  simp only [qP_digitOf_0, jP_digitOf_0, qP_digitOf_18, jP_digitOf_18, qP_digitOf_20, jP_digitOf_20, w0, w1, w2i, w2r, w3, w4, w5_0, w5_1, w5_2, w5_3, w5_4, w5_5, w5_6, w5_7, w5_8, w6_0, w6_1, w7_0, w7_1, w7_2, w7_3, w7_4, w7_5, w8_0, w8_1, w9_0, w9_1, w9_2, w10_0, w10_1, w10_2, w10_3, w10_4, w10_5, w11, w12_0, w12_1, w12_2, w12_3, w12_4, w12_5, w13_0, w13_1, w13_2, w13_3, w13_4, w13_5, w14, w15i, w15r, w16, w17, w18, w19i, w19z, w19l, w20, w21, w22, w23, w24, w25, w26, w27, w28_1, w28_2, w28_3, w28_4, w28_5, w28_6, w29, w30i, w30z, w31, w32, w33, w34, w35, w36, w37_1, w37_2, w37_3, w37_4, w37_5, w37_6, isO_O, set1_0, set1_1i, set1_1r, set1_1n, set1_1l, set1_s, set2_0, set2_1i, set2_1r, set2_1n, set2_1l, set2_s, ldv_i, ldv_l, ldv_r, ldv_s, ldi_i, ldi_s, fK_0, fK_s, gfc_O, fS_0, fS_s, uH_s, uH_n, uH_u, tl_s, tl_n, b1_0, b1_1, ite_true, ite_false, if_true, if_false, List.length_nil, List.length_cons, Nat.zero_le, Nat.zero_add, Nat.reduceAdd, Nat.reduceLeDiff, Nat.reduceEqDiff, Nat.reduceMul, Nat.add_left_cancel_iff, not_false_eq_true]
  by_cases h1 : s - 48 < 0 <;> by_cases h2 : b ≤ s - 48 <;> simp [h1, h2]
theorem P_kindOf {s : Int32} : WpM 21 [.int s] h Q = Q (some (.int (if s = 112 then 0 else if s = 103 then 1 else if s = 99 then 2 else if s = 102 then 3 else -4))) h := by
  rw [eP_kindOf]
  simp only [qP_kindOf_0, w0, w1, w2i, w2r, w3, w4, w5_0, w5_1, w5_2, w5_3, w5_4, w5_5, w5_6, w5_7, w5_8, w6_0, w6_1, w7_0, w7_1, w7_2, w7_3, w7_4, w7_5, w8_0, w8_1, w9_0, w9_1, w9_2, w10_0, w10_1, w10_2, w10_3, w10_4, w10_5, w11, w12_0, w12_1, w12_2, w12_3, w12_4, w12_5, w13_0, w13_1, w13_2, w13_3, w13_4, w13_5, w14, w15i, w15r, w16, w17, w18, w19i, w19z, w19l, w20, w21, w22, w23, w24, w25, w26, w27, w28_1, w28_2, w28_3, w28_4, w28_5, w28_6, w29, w30i, w30z, w31, w32, w33, w34, w35, w36, w37_1, w37_2, w37_3, w37_4, w37_5, w37_6, isO_O, set1_0, set1_1i, set1_1r, set1_1n, set1_1l, set1_s, set2_0, set2_1i, set2_1r, set2_1n, set2_1l, set2_s, ldv_i, ldv_l, ldv_r, ldv_s, ldi_i, ldi_s, fK_0, fK_s, gfc_O, fS_0, fS_s, uH_s, uH_n, uH_u, tl_s, tl_n, b1_0, b1_1, ite_true, ite_false, if_true, if_false, List.length_nil, List.length_cons, Nat.zero_le, Nat.zero_add, Nat.reduceAdd, Nat.reduceLeDiff, Nat.reduceEqDiff, Nat.reduceMul, Nat.add_left_cancel_iff, not_false_eq_true, swT]
  by_cases h1 : s = 112
  · subst h1; simp [qP_kindOf_44, jP_kindOf_44, qP_kindOf_46, jP_kindOf_46, qP_kindOf_48, jP_kindOf_48, qP_kindOf_50, jP_kindOf_50, qP_kindOf_52, jP_kindOf_52, w0, w1, w2i, w2r, w3, w4, w5_0, w5_1, w5_2, w5_3, w5_4, w5_5, w5_6, w5_7, w5_8, w6_0, w6_1, w7_0, w7_1, w7_2, w7_3, w7_4, w7_5, w8_0, w8_1, w9_0, w9_1, w9_2, w10_0, w10_1, w10_2, w10_3, w10_4, w10_5, w11, w12_0, w12_1, w12_2, w12_3, w12_4, w12_5, w13_0, w13_1, w13_2, w13_3, w13_4, w13_5, w14, w15i, w15r, w16, w17, w18, w19i, w19z, w19l, w20, w21, w22, w23, w24, w25, w26, w27, w28_1, w28_2, w28_3, w28_4, w28_5, w28_6, w29, w30i, w30z, w31, w32, w33, w34, w35, w36, w37_1, w37_2, w37_3, w37_4, w37_5, w37_6, isO_O, set1_0, set1_1i, set1_1r, set1_1n, set1_1l, set1_s, set2_0, set2_1i, set2_1r, set2_1n, set2_1l, set2_s, ldv_i, ldv_l, ldv_r, ldv_s, ldi_i, ldi_s, fK_0, fK_s, gfc_O, fS_0, fS_s, uH_s, uH_n, uH_u, tl_s, tl_n, b1_0, b1_1, ite_true, ite_false, if_true, if_false, List.length_nil, List.length_cons, Nat.zero_le, Nat.zero_add, Nat.reduceAdd, Nat.reduceLeDiff, Nat.reduceEqDiff, Nat.reduceMul, Nat.add_left_cancel_iff, not_false_eq_true]
  by_cases h2 : s = 103
  · subst h2; simp [qP_kindOf_44, jP_kindOf_44, qP_kindOf_46, jP_kindOf_46, qP_kindOf_48, jP_kindOf_48, qP_kindOf_50, jP_kindOf_50, qP_kindOf_52, jP_kindOf_52, w0, w1, w2i, w2r, w3, w4, w5_0, w5_1, w5_2, w5_3, w5_4, w5_5, w5_6, w5_7, w5_8, w6_0, w6_1, w7_0, w7_1, w7_2, w7_3, w7_4, w7_5, w8_0, w8_1, w9_0, w9_1, w9_2, w10_0, w10_1, w10_2, w10_3, w10_4, w10_5, w11, w12_0, w12_1, w12_2, w12_3, w12_4, w12_5, w13_0, w13_1, w13_2, w13_3, w13_4, w13_5, w14, w15i, w15r, w16, w17, w18, w19i, w19z, w19l, w20, w21, w22, w23, w24, w25, w26, w27, w28_1, w28_2, w28_3, w28_4, w28_5, w28_6, w29, w30i, w30z, w31, w32, w33, w34, w35, w36, w37_1, w37_2, w37_3, w37_4, w37_5, w37_6, isO_O, set1_0, set1_1i, set1_1r, set1_1n, set1_1l, set1_s, set2_0, set2_1i, set2_1r, set2_1n, set2_1l, set2_s, ldv_i, ldv_l, ldv_r, ldv_s, ldi_i, ldi_s, fK_0, fK_s, gfc_O, fS_0, fS_s, uH_s, uH_n, uH_u, tl_s, tl_n, b1_0, b1_1, ite_true, ite_false, if_true, if_false, List.length_nil, List.length_cons, Nat.zero_le, Nat.zero_add, Nat.reduceAdd, Nat.reduceLeDiff, Nat.reduceEqDiff, Nat.reduceMul, Nat.add_left_cancel_iff, not_false_eq_true]
  by_cases h3 : s = 99
  · subst h3; simp [qP_kindOf_44, jP_kindOf_44, qP_kindOf_46, jP_kindOf_46, qP_kindOf_48, jP_kindOf_48, qP_kindOf_50, jP_kindOf_50, qP_kindOf_52, jP_kindOf_52, w0, w1, w2i, w2r, w3, w4, w5_0, w5_1, w5_2, w5_3, w5_4, w5_5, w5_6, w5_7, w5_8, w6_0, w6_1, w7_0, w7_1, w7_2, w7_3, w7_4, w7_5, w8_0, w8_1, w9_0, w9_1, w9_2, w10_0, w10_1, w10_2, w10_3, w10_4, w10_5, w11, w12_0, w12_1, w12_2, w12_3, w12_4, w12_5, w13_0, w13_1, w13_2, w13_3, w13_4, w13_5, w14, w15i, w15r, w16, w17, w18, w19i, w19z, w19l, w20, w21, w22, w23, w24, w25, w26, w27, w28_1, w28_2, w28_3, w28_4, w28_5, w28_6, w29, w30i, w30z, w31, w32, w33, w34, w35, w36, w37_1, w37_2, w37_3, w37_4, w37_5, w37_6, isO_O, set1_0, set1_1i, set1_1r, set1_1n, set1_1l, set1_s, set2_0, set2_1i, set2_1r, set2_1n, set2_1l, set2_s, ldv_i, ldv_l, ldv_r, ldv_s, ldi_i, ldi_s, fK_0, fK_s, gfc_O, fS_0, fS_s, uH_s, uH_n, uH_u, tl_s, tl_n, b1_0, b1_1, ite_true, ite_false, if_true, if_false, List.length_nil, List.length_cons, Nat.zero_le, Nat.zero_add, Nat.reduceAdd, Nat.reduceLeDiff, Nat.reduceEqDiff, Nat.reduceMul, Nat.add_left_cancel_iff, not_false_eq_true]
  by_cases h4 : s = 102
  · subst h4; simp [qP_kindOf_44, jP_kindOf_44, qP_kindOf_46, jP_kindOf_46, qP_kindOf_48, jP_kindOf_48, qP_kindOf_50, jP_kindOf_50, qP_kindOf_52, jP_kindOf_52, w0, w1, w2i, w2r, w3, w4, w5_0, w5_1, w5_2, w5_3, w5_4, w5_5, w5_6, w5_7, w5_8, w6_0, w6_1, w7_0, w7_1, w7_2, w7_3, w7_4, w7_5, w8_0, w8_1, w9_0, w9_1, w9_2, w10_0, w10_1, w10_2, w10_3, w10_4, w10_5, w11, w12_0, w12_1, w12_2, w12_3, w12_4, w12_5, w13_0, w13_1, w13_2, w13_3, w13_4, w13_5, w14, w15i, w15r, w16, w17, w18, w19i, w19z, w19l, w20, w21, w22, w23, w24, w25, w26, w27, w28_1, w28_2, w28_3, w28_4, w28_5, w28_6, w29, w30i, w30z, w31, w32, w33, w34, w35, w36, w37_1, w37_2, w37_3, w37_4, w37_5, w37_6, isO_O, set1_0, set1_1i, set1_1r, set1_1n, set1_1l, set1_s, set2_0, set2_1i, set2_1r, set2_1n, set2_1l, set2_s, ldv_i, ldv_l, ldv_r, ldv_s, ldi_i, ldi_s, fK_0, fK_s, gfc_O, fS_0, fS_s, uH_s, uH_n, uH_u, tl_s, tl_n, b1_0, b1_1, ite_true, ite_false, if_true, if_false, List.length_nil, List.length_cons, Nat.zero_le, Nat.zero_add, Nat.reduceAdd, Nat.reduceLeDiff, Nat.reduceEqDiff, Nat.reduceMul, Nat.add_left_cancel_iff, not_false_eq_true]
  simp [h1, h2, h3, h4, qP_kindOf_44, jP_kindOf_44, qP_kindOf_46, jP_kindOf_46, qP_kindOf_48, jP_kindOf_48, qP_kindOf_50, jP_kindOf_50, qP_kindOf_52, jP_kindOf_52, w0, w1, w2i, w2r, w3, w4, w5_0, w5_1, w5_2, w5_3, w5_4, w5_5, w5_6, w5_7, w5_8, w6_0, w6_1, w7_0, w7_1, w7_2, w7_3, w7_4, w7_5, w8_0, w8_1, w9_0, w9_1, w9_2, w10_0, w10_1, w10_2, w10_3, w10_4, w10_5, w11, w12_0, w12_1, w12_2, w12_3, w12_4, w12_5, w13_0, w13_1, w13_2, w13_3, w13_4, w13_5, w14, w15i, w15r, w16, w17, w18, w19i, w19z, w19l, w20, w21, w22, w23, w24, w25, w26, w27, w28_1, w28_2, w28_3, w28_4, w28_5, w28_6, w29, w30i, w30z, w31, w32, w33, w34, w35, w36, w37_1, w37_2, w37_3, w37_4, w37_5, w37_6, isO_O, set1_0, set1_1i, set1_1r, set1_1n, set1_1l, set1_s, set2_0, set2_1i, set2_1r, set2_1n, set2_1l, set2_s, ldv_i, ldv_l, ldv_r, ldv_s, ldi_i, ldi_s, fK_0, fK_s, gfc_O, fS_0, fS_s, uH_s, uH_n, uH_u, tl_s, tl_n, b1_0, b1_1, ite_true, ite_false, if_true, if_false, List.length_nil, List.length_cons, Nat.zero_le, Nat.zero_add, Nat.reduceAdd, Nat.reduceLeDiff, Nat.reduceEqDiff, Nat.reduceMul, Nat.add_left_cancel_iff, not_false_eq_true]
theorem M_kindOf {s : Int32} : WpM 107 [.int s] h Q = Q (some (.int (if s = 112 then 0 else if s = 103 then 1 else if s = 99 then 2 else if s = 102 then 3 else -4))) h := by
  rw [eM_kindOf]
  simp only [qM_kindOf_0, jM_kindOf_0, qM_kindOf_10, jM_kindOf_10, qM_kindOf_20, jM_kindOf_20, qM_kindOf_30, jM_kindOf_30, qM_kindOf_40, jM_kindOf_40, qM_kindOf_42, jM_kindOf_42, w0, w1, w2i, w2r, w3, w4, w5_0, w5_1, w5_2, w5_3, w5_4, w5_5, w5_6, w5_7, w5_8, w6_0, w6_1, w7_0, w7_1, w7_2, w7_3, w7_4, w7_5, w8_0, w8_1, w9_0, w9_1, w9_2, w10_0, w10_1, w10_2, w10_3, w10_4, w10_5, w11, w12_0, w12_1, w12_2, w12_3, w12_4, w12_5, w13_0, w13_1, w13_2, w13_3, w13_4, w13_5, w14, w15i, w15r, w16, w17, w18, w19i, w19z, w19l, w20, w21, w22, w23, w24, w25, w26, w27, w28_1, w28_2, w28_3, w28_4, w28_5, w28_6, w29, w30i, w30z, w31, w32, w33, w34, w35, w36, w37_1, w37_2, w37_3, w37_4, w37_5, w37_6, isO_O, set1_0, set1_1i, set1_1r, set1_1n, set1_1l, set1_s, set2_0, set2_1i, set2_1r, set2_1n, set2_1l, set2_s, ldv_i, ldv_l, ldv_r, ldv_s, ldi_i, ldi_s, fK_0, fK_s, gfc_O, fS_0, fS_s, uH_s, uH_n, uH_u, tl_s, tl_n, b1_0, b1_1, ite_true, ite_false, if_true, if_false, List.length_nil, List.length_cons, Nat.zero_le, Nat.zero_add, Nat.reduceAdd, Nat.reduceLeDiff, Nat.reduceEqDiff, Nat.reduceMul, Nat.add_left_cancel_iff, not_false_eq_true]
  by_cases h1 : s = 112 <;> by_cases h2 : s = 103 <;> by_cases h3 : s = 99 <;> by_cases h4 : s = 102 <;> simp [h1, h2, h3, h4]
theorem P_pairPlace {a b : Int32} : WpM 19 [.int a, .int b] h Q = Q (some (.int (8 * (if b < a then b else a) + (if a < b then b else a)))) h := by
  rw [eP_pairPlace]
  simp only [qP_pairPlace_0, jP_pairPlace_0, w0, w1, w2i, w2r, w3, w4, w5_0, w5_1, w5_2, w5_3, w5_4, w5_5, w5_6, w5_7, w5_8, w6_0, w6_1, w7_0, w7_1, w7_2, w7_3, w7_4, w7_5, w8_0, w8_1, w9_0, w9_1, w9_2, w10_0, w10_1, w10_2, w10_3, w10_4, w10_5, w11, w12_0, w12_1, w12_2, w12_3, w12_4, w12_5, w13_0, w13_1, w13_2, w13_3, w13_4, w13_5, w14, w15i, w15r, w16, w17, w18, w19i, w19z, w19l, w20, w21, w22, w23, w24, w25, w26, w27, w28_1, w28_2, w28_3, w28_4, w28_5, w28_6, w29, w30i, w30z, w31, w32, w33, w34, w35, w36, w37_1, w37_2, w37_3, w37_4, w37_5, w37_6, isO_O, set1_0, set1_1i, set1_1r, set1_1n, set1_1l, set1_s, set2_0, set2_1i, set2_1r, set2_1n, set2_1l, set2_s, ldv_i, ldv_l, ldv_r, ldv_s, ldi_i, ldi_s, fK_0, fK_s, gfc_O, fS_0, fS_s, uH_s, uH_n, uH_u, tl_s, tl_n, b1_0, b1_1, ite_true, ite_false, if_true, if_false, List.length_nil, List.length_cons, Nat.zero_le, Nat.zero_add, Nat.reduceAdd, Nat.reduceLeDiff, Nat.reduceEqDiff, Nat.reduceMul, Nat.add_left_cancel_iff, not_false_eq_true]
end LEAF
end
section
/-! Town: small methods and loops, as equations -/
abbrev tO (t : Nat) (n pu ye : Int32) : AC := aO 3 [.int n, .ref (t + 1), .ref (t + 2), .ref (t + 3), .ref (t + 4), .ref (t + 5), .int pu, .int ye, .ref (t + 6)]
theorem tnl (t k : Nat) : (t = t + (k + 1)) = False := by apply propext; constructor; intro h; omega; intro h; exact h.elim
theorem tnr (t k : Nat) : (t + (k + 1) = t) = False := by apply propext; constructor; intro h; omega; intro h; exact h.elim
theorem n8a (a b : Nat) : (8 : Int32) * nI a + nI b = nI (8 * a + b) := by rw [show (8 : Int32) = nI 8 from rfl, pk_mul, nI_add]
def wt (sh : Nat → Int32) (a : Nat) : Nat → Int32
  | 0 => 0
  | o + 1 => wt sh a o + sh (8 * a + o)
def pcI (sh : Nat → Int32) (a : Nat) (acc : Int32) : Nat → Int32
  | 0 => acc
  | b + 1 => if sh (8 * a + b) ≤ 0 then pcI sh a acc b else pcI sh a acc b + 1
def pcO (sh : Nat → Int32) : Nat → Int32
  | 0 => 0
  | a + 1 => pcI sh a (pcO sh a) a
/-- the first k shares of a house are taken away -/
def pdF (sh : Nat → Int32) (a : Nat) : Nat → Nat → Int32
  | 0 => sh
  | k + 1 => upd (upd (pdF sh a k) (8 * a + k) 0) (8 * k + a) 0
def clF (sh : Nat → Int32) : Nat → Nat → Int32
  | 0 => sh
  | k + 1 => upd (clF sh k) k 0
def fxd (ki : Nat → Int32) (a : Nat) : Prop := ki a = 1 ∨ ki a = 3
/-- a set of the numbers below n, as bits -/
def enc (p : Nat → Bool) : Nat → Nat
  | 0 => 0
  | k + 1 => if p k then enc p k ||| 2 ^ k else enc p k
theorem enc_lt (p : Nat → Bool) : ∀ n, enc p n < 2 ^ n
  | 0 => by simp [enc]
  | n + 1 => by
    have ih := enc_lt p n
    have h2 : 2 ^ (n + 1) = 2 ^ n * 2 := Nat.pow_succ 2 n
    unfold enc
    split
    · exact Nat.or_lt_two_pow (by omega) (by omega)
    · omega
theorem enc_bit (p : Nat → Bool) (i : Nat) : ∀ n, (enc p n).testBit i = (decide (i < n) && p i)
  | 0 => by simp [enc]
  | n + 1 => by
    have ih := enc_bit p i n
    unfold enc
    by_cases hp : p n = true
    · rw [if_pos hp, fb_bit_set, ih]
      by_cases hi : i = n
      · subst hi; simp [hp]
      · have : (i < n + 1) ↔ (i < n) := by omega
        simp [hi, this]
    · rw [if_neg hp, ih]
      by_cases hi : i = n
      · subst hi; simp [hp]
      · have : (i < n + 1) ↔ (i < n) := by omega
        simp [this]
theorem shl1 : ∀ k, k < 31 → (1 : Int32) <<< (nI k &&& 31) = nI (2 ^ k) := by decide
theorem bit1 {m k : Nat} (hm : m < 2 ^ 31) (hk : k < 31) : ((nI m >>> (nI k &&& 31)) &&& 1 = 1) = (m.testBit k = true) := by
  have e : ∀ k, k < 31 → ((nI k &&& 31).toBitVec.smod 32).toNat = k := by decide
  rw [pk_shrN hm _ k (e k hk)]
  have h1 : nI (m / 2 ^ k) &&& 1 = nI (m / 2 ^ k % 2) := pk_andN (by have := Nat.div_le_self m (2 ^ k); omega) 1 (by decide)
  rw [h1]
  apply propext
  have h2 : m.testBit k = (m / 2 ^ k % 2 == 1) := by
    rw [Nat.testBit_eq_decide_div_mod_eq]
    by_cases hh : m / 2 ^ k % 2 = 1 <;> simp [hh]
  rw [h2]
  have h3 : m / 2 ^ k % 2 < 2 := Nat.mod_lt _ (by decide)
  generalize m / 2 ^ k % 2 = y at h3
  match y, h3 with
  | 0, _ => decide
  | 1, _ => decide
section TOWN
variable {h : AH} {Q : Option Value → AH → Prop} {t : Nat} {n pu ye : Int32} {ki as ow ca sh ah : Nat → Int32}
theorem T_has {v : Int32} (h0 : h t = tO t n pu ye) : WpM 25 [.ref t, .int v] h Q = Q (some (.int (if v < 0 ∨ n ≤ v then 0 else 1))) h := by
  rw [eT_has]
  simp only [qT_has_0, jT_has_0, qT_has_16, jT_has_16, qT_has_17, jT_has_17, w0, w1, w2i, w2r, w3, w4, w5_0, w5_1, w5_2, w5_3, w5_4, w5_5, w5_6, w5_7, w5_8, w6_0, w6_1, w7_0, w7_1, w7_2, w7_3, w7_4, w7_5, w8_0, w8_1, w9_0, w9_1, w9_2, w10_0, w10_1, w10_2, w10_3, w10_4, w10_5, w11, w12_0, w12_1, w12_2, w12_3, w12_4, w12_5, w13_0, w13_1, w13_2, w13_3, w13_4, w13_5, w14, w15i, w15r, w16, w17, w18, w19i, w19z, w19l, w20, w21, w22, w23, w24, w25, w26, w27, w28_1, w28_2, w28_3, w28_4, w28_5, w28_6, w29, w30i, w30z, w31, w32, w33, w34, w35, w36, w37_1, w37_2, w37_3, w37_4, w37_5, w37_6, isO_O, set1_0, set1_1i, set1_1r, set1_1n, set1_1l, set1_s, set2_0, set2_1i, set2_1r, set2_1n, set2_1l, set2_s, ldv_i, ldv_l, ldv_r, ldv_s, ldi_i, ldi_s, fK_0, fK_s, gfc_O, fS_0, fS_s, uH_s, uH_n, uH_u, tl_s, tl_n, b1_0, b1_1, ite_true, ite_false, if_true, if_false, List.length_nil, List.length_cons, Nat.zero_le, Nat.zero_add, Nat.reduceAdd, Nat.reduceLeDiff, Nat.reduceEqDiff, Nat.reduceMul, Nat.add_left_cancel_iff, not_false_eq_true, h0]
  by_cases h1 : v < 0 <;> by_cases h2 : n ≤ v <;> simp [h1, h2]
theorem T_hasTwo {a b : Int32} (h0 : h t = tO t n pu ye) : WpM 26 [.ref t, .int a, .int b] h Q = Q (some (.int (if (a < 0 ∨ n ≤ a) ∨ (b < 0 ∨ n ≤ b) ∨ a = b then 0 else 1))) h := by
  rw [eT_hasTwo]
  simp only [qT_hasTwo_0, jT_hasTwo_0, qT_hasTwo_25, jT_hasTwo_25, qT_hasTwo_26, jT_hasTwo_26, w0, w1, w2i, w2r, w3, w4, w5_0, w5_1, w5_2, w5_3, w5_4, w5_5, w5_6, w5_7, w5_8, w6_0, w6_1, w7_0, w7_1, w7_2, w7_3, w7_4, w7_5, w8_0, w8_1, w9_0, w9_1, w9_2, w10_0, w10_1, w10_2, w10_3, w10_4, w10_5, w11, w12_0, w12_1, w12_2, w12_3, w12_4, w12_5, w13_0, w13_1, w13_2, w13_3, w13_4, w13_5, w14, w15i, w15r, w16, w17, w18, w19i, w19z, w19l, w20, w21, w22, w23, w24, w25, w26, w27, w28_1, w28_2, w28_3, w28_4, w28_5, w28_6, w29, w30i, w30z, w31, w32, w33, w34, w35, w36, w37_1, w37_2, w37_3, w37_4, w37_5, w37_6, isO_O, set1_0, set1_1i, set1_1r, set1_1n, set1_1l, set1_s, set2_0, set2_1i, set2_1r, set2_1n, set2_1l, set2_s, ldv_i, ldv_l, ldv_r, ldv_s, ldi_i, ldi_s, fK_0, fK_s, gfc_O, fS_0, fS_s, uH_s, uH_n, uH_u, tl_s, tl_n, b1_0, b1_1, ite_true, ite_false, if_true, if_false, List.length_nil, List.length_cons, Nat.zero_le, Nat.zero_add, Nat.reduceAdd, Nat.reduceLeDiff, Nat.reduceEqDiff, Nat.reduceMul, Nat.add_left_cancel_iff, not_false_eq_true, h0, T_has h0, z01]
  by_cases h1 : a < 0 ∨ n ≤ a
  · simp [h1]
  · by_cases h2 : b < 0 ∨ n ≤ b
    · simp [h1, h2]
    · by_cases h3 : a = b
      · simp [h1, h2, h3]
      · simp [h1, h2, h3]
theorem T_isFixed {a : Nat} (h0 : h t = tO t n pu ye) (h1 : h (t + 1) = aI 8 ki) (ha : a < 8) : WpM 27 [.ref t, .int (nI a)] h Q = Q (some (.int (if ¬ (ki a = 1 ∨ ki a = 3) then 0 else 1))) h := by
  rw [eT_isFixed]
  simp only [qT_isFixed_0, jT_isFixed_0, qT_isFixed_20, jT_isFixed_20, qT_isFixed_24, jT_isFixed_24, qT_isFixed_25, jT_isFixed_25, w0, w1, w2i, w2r, w3, w4, w5_0, w5_1, w5_2, w5_3, w5_4, w5_5, w5_6, w5_7, w5_8, w6_0, w6_1, w7_0, w7_1, w7_2, w7_3, w7_4, w7_5, w8_0, w8_1, w9_0, w9_1, w9_2, w10_0, w10_1, w10_2, w10_3, w10_4, w10_5, w11, w12_0, w12_1, w12_2, w12_3, w12_4, w12_5, w13_0, w13_1, w13_2, w13_3, w13_4, w13_5, w14, w15i, w15r, w16, w17, w18, w19i, w19z, w19l, w20, w21, w22, w23, w24, w25, w26, w27, w28_1, w28_2, w28_3, w28_4, w28_5, w28_6, w29, w30i, w30z, w31, w32, w33, w34, w35, w36, w37_1, w37_2, w37_3, w37_4, w37_5, w37_6, isO_O, set1_0, set1_1i, set1_1r, set1_1n, set1_1l, set1_s, set2_0, set2_1i, set2_1r, set2_1n, set2_1l, set2_s, ldv_i, ldv_l, ldv_r, ldv_s, ldi_i, ldi_s, fK_0, fK_s, gfc_O, fS_0, fS_s, uH_s, uH_n, uH_u, tl_s, tl_n, b1_0, b1_1, ite_true, ite_false, if_true, if_false, List.length_nil, List.length_cons, Nat.zero_le, Nat.zero_add, Nat.reduceAdd, Nat.reduceLeDiff, Nat.reduceEqDiff, Nat.reduceMul, Nat.add_left_cancel_iff, not_false_eq_true, h0, h1, rIc_n ha (show 8 < 2 ^ 31 by decide)]
  by_cases h1 : ki a = 1 <;> by_cases h2 : ki a = 3 <;> simp [h1, h2]
theorem T_shareOf {a b : Nat} (h0 : h t = tO t n pu ye) (h5 : h (t + 5) = aI 64 sh) (ha : a < 8) (hb : b < 8) : WpM 29 [.ref t, .int (nI a), .int (nI b)] h Q = Q (some (.int (sh (8 * a + b)))) h := by
  rw [eT_shareOf]
  simp only [qT_shareOf_0, jT_shareOf_0, w0, w1, w2i, w2r, w3, w4, w5_0, w5_1, w5_2, w5_3, w5_4, w5_5, w5_6, w5_7, w5_8, w6_0, w6_1, w7_0, w7_1, w7_2, w7_3, w7_4, w7_5, w8_0, w8_1, w9_0, w9_1, w9_2, w10_0, w10_1, w10_2, w10_3, w10_4, w10_5, w11, w12_0, w12_1, w12_2, w12_3, w12_4, w12_5, w13_0, w13_1, w13_2, w13_3, w13_4, w13_5, w14, w15i, w15r, w16, w17, w18, w19i, w19z, w19l, w20, w21, w22, w23, w24, w25, w26, w27, w28_1, w28_2, w28_3, w28_4, w28_5, w28_6, w29, w30i, w30z, w31, w32, w33, w34, w35, w36, w37_1, w37_2, w37_3, w37_4, w37_5, w37_6, isO_O, set1_0, set1_1i, set1_1r, set1_1n, set1_1l, set1_s, set2_0, set2_1i, set2_1r, set2_1n, set2_1l, set2_s, ldv_i, ldv_l, ldv_r, ldv_s, ldi_i, ldi_s, fK_0, fK_s, gfc_O, fS_0, fS_s, uH_s, uH_n, uH_u, tl_s, tl_n, b1_0, b1_1, ite_true, ite_false, if_true, if_false, List.length_nil, List.length_cons, Nat.zero_le, Nat.zero_add, Nat.reduceAdd, Nat.reduceLeDiff, Nat.reduceEqDiff, Nat.reduceMul, Nat.add_left_cancel_iff, not_false_eq_true, h0, h5, n8a, rIc_n (show 8 * a + b < 64 by omega) (show 64 < 2 ^ 31 by decide)]
theorem T_putShare {a b : Nat} {v : Int32} (h0 : h t = tO t n pu ye) (h5 : h (t + 5) = aI 64 sh) (ha : a < 8) (hb : b < 8) : WpM 30 [.ref t, .int (nI a), .int (nI b), .int v] h Q = Q none (uH h (t + 5) (aI 64 (upd (upd sh (8 * a + b) v) (8 * b + a) v))) := by
  rw [eT_putShare]
  simp only [qT_putShare_0, jT_putShare_0, w0, w1, w2i, w2r, w3, w4, w5_0, w5_1, w5_2, w5_3, w5_4, w5_5, w5_6, w5_7, w5_8, w6_0, w6_1, w7_0, w7_1, w7_2, w7_3, w7_4, w7_5, w8_0, w8_1, w9_0, w9_1, w9_2, w10_0, w10_1, w10_2, w10_3, w10_4, w10_5, w11, w12_0, w12_1, w12_2, w12_3, w12_4, w12_5, w13_0, w13_1, w13_2, w13_3, w13_4, w13_5, w14, w15i, w15r, w16, w17, w18, w19i, w19z, w19l, w20, w21, w22, w23, w24, w25, w26, w27, w28_1, w28_2, w28_3, w28_4, w28_5, w28_6, w29, w30i, w30z, w31, w32, w33, w34, w35, w36, w37_1, w37_2, w37_3, w37_4, w37_5, w37_6, isO_O, set1_0, set1_1i, set1_1r, set1_1n, set1_1l, set1_s, set2_0, set2_1i, set2_1r, set2_1n, set2_1l, set2_s, ldv_i, ldv_l, ldv_r, ldv_s, ldi_i, ldi_s, fK_0, fK_s, gfc_O, fS_0, fS_s, uH_s, uH_n, uH_u, tl_s, tl_n, b1_0, b1_1, ite_true, ite_false, if_true, if_false, List.length_nil, List.length_cons, Nat.zero_le, Nat.zero_add, Nat.reduceAdd, Nat.reduceLeDiff, Nat.reduceEqDiff, Nat.reduceMul, Nat.add_left_cancel_iff, not_false_eq_true, h0, h5, n8a, tnl, wIc_n (show 8 * a + b < 64 by omega) (show 64 < 2 ^ 31 by decide), wIc_n (show 8 * b + a < 64 by omega) (show 64 < 2 ^ 31 by decide)]
theorem T_build {m : Nat} {k v : Int32} (h0 : h t = tO t (nI m) pu ye) (h1 : h (t + 1) = aI 8 ki) (h2 : h (t + 2) = aI 8 as) (h3 : h (t + 3) = aI 8 ow) (h4 : h (t + 4) = aI 8 ca) (hm : m < 8) : WpM 28 [.ref t, .int k, .int v] h Q = Q (some (.int (nI m))) (uH (uH (uH (uH (uH h (t + 1) (aI 8 (upd ki m k))) (t + 2) (aI 8 (upd as m v))) (t + 3) (aI 8 (upd ow m 0))) (t + 4) (aI 8 (upd ca m 99))) t (tO t (nI (m + 1)) pu ye)) := by
  rw [eT_build]
  simp only [qT_build_0, jT_build_0, w0, w1, w2i, w2r, w3, w4, w5_0, w5_1, w5_2, w5_3, w5_4, w5_5, w5_6, w5_7, w5_8, w6_0, w6_1, w7_0, w7_1, w7_2, w7_3, w7_4, w7_5, w8_0, w8_1, w9_0, w9_1, w9_2, w10_0, w10_1, w10_2, w10_3, w10_4, w10_5, w11, w12_0, w12_1, w12_2, w12_3, w12_4, w12_5, w13_0, w13_1, w13_2, w13_3, w13_4, w13_5, w14, w15i, w15r, w16, w17, w18, w19i, w19z, w19l, w20, w21, w22, w23, w24, w25, w26, w27, w28_1, w28_2, w28_3, w28_4, w28_5, w28_6, w29, w30i, w30z, w31, w32, w33, w34, w35, w36, w37_1, w37_2, w37_3, w37_4, w37_5, w37_6, isO_O, set1_0, set1_1i, set1_1r, set1_1n, set1_1l, set1_s, set2_0, set2_1i, set2_1r, set2_1n, set2_1l, set2_s, ldv_i, ldv_l, ldv_r, ldv_s, ldi_i, ldi_s, fK_0, fK_s, gfc_O, fS_0, fS_s, uH_s, uH_n, uH_u, tl_s, tl_n, b1_0, b1_1, ite_true, ite_false, if_true, if_false, List.length_nil, List.length_cons, Nat.zero_le, Nat.zero_add, Nat.reduceAdd, Nat.reduceLeDiff, Nat.reduceEqDiff, Nat.reduceMul, Nat.add_left_cancel_iff, not_false_eq_true, h0, h1, h2, h3, h4, tnl, wIc_n hm (show 8 < 2 ^ 31 by decide), nI_1, pfc_O (show 0 < [Value.int (nI m), .ref (t + 1), .ref (t + 2), .ref (t + 3), .ref (t + 4), .ref (t + 5), .int pu, .int ye, .ref (t + 6)].length by simp)]
theorem T_weight_loop {m a : Nat} (h0 : h t = tO t (nI m) pu ye) (h5 : h (t + 5) = aI 64 sh) (hm : m ≤ 8) (ha : a < 8) : ∀ (d i : Nat), i + d = m → Wp none 33 qT_weight_4 [some (.ref t), some (.int (nI a)), some (.int (wt sh a i)), some (.int (nI i))] [] h Q = Q (some (.int (wt sh a m))) h := by
  intro d
  induction d with
  | zero =>
    intro i hi
    have e : i = m := by omega
    subst e
    have hc : nI i ≤ nI i := nI_le (Nat.le_refl i) (by omega)
    simp only [qT_weight_4, qT_weight_27, jT_weight_27, w0, w1, w2i, w2r, w3, w4, w5_0, w5_1, w5_2, w5_3, w5_4, w5_5, w5_6, w5_7, w5_8, w6_0, w6_1, w7_0, w7_1, w7_2, w7_3, w7_4, w7_5, w8_0, w8_1, w9_0, w9_1, w9_2, w10_0, w10_1, w10_2, w10_3, w10_4, w10_5, w11, w12_0, w12_1, w12_2, w12_3, w12_4, w12_5, w13_0, w13_1, w13_2, w13_3, w13_4, w13_5, w14, w15i, w15r, w16, w17, w18, w19i, w19z, w19l, w20, w21, w22, w23, w24, w25, w26, w27, w28_1, w28_2, w28_3, w28_4, w28_5, w28_6, w29, w30i, w30z, w31, w32, w33, w34, w35, w36, w37_1, w37_2, w37_3, w37_4, w37_5, w37_6, isO_O, set1_0, set1_1i, set1_1r, set1_1n, set1_1l, set1_s, set2_0, set2_1i, set2_1r, set2_1n, set2_1l, set2_s, ldv_i, ldv_l, ldv_r, ldv_s, ldi_i, ldi_s, fK_0, fK_s, gfc_O, fS_0, fS_s, uH_s, uH_n, uH_u, tl_s, tl_n, b1_0, b1_1, ite_true, ite_false, if_true, if_false, List.length_nil, List.length_cons, Nat.zero_le, Nat.zero_add, Nat.reduceAdd, Nat.reduceLeDiff, Nat.reduceEqDiff, Nat.reduceMul, Nat.add_left_cancel_iff, not_false_eq_true, h0, hc]
  | succ d ih =>
    intro i hi
    have hc : ¬ nI m ≤ nI i := nI_ge (by omega) (by omega)
    rw [qT_weight_4]
    simp only [w0, w1, w2i, w2r, w3, w4, w5_0, w5_1, w5_2, w5_3, w5_4, w5_5, w5_6, w5_7, w5_8, w6_0, w6_1, w7_0, w7_1, w7_2, w7_3, w7_4, w7_5, w8_0, w8_1, w9_0, w9_1, w9_2, w10_0, w10_1, w10_2, w10_3, w10_4, w10_5, w11, w12_0, w12_1, w12_2, w12_3, w12_4, w12_5, w13_0, w13_1, w13_2, w13_3, w13_4, w13_5, w14, w15i, w15r, w16, w17, w18, w19i, w19z, w19l, w20, w21, w22, w23, w24, w25, w26, w27, w28_1, w28_2, w28_3, w28_4, w28_5, w28_6, w29, w30i, w30z, w31, w32, w33, w34, w35, w36, w37_1, w37_2, w37_3, w37_4, w37_5, w37_6, isO_O, set1_0, set1_1i, set1_1r, set1_1n, set1_1l, set1_s, set2_0, set2_1i, set2_1r, set2_1n, set2_1l, set2_s, ldv_i, ldv_l, ldv_r, ldv_s, ldi_i, ldi_s, fK_0, fK_s, gfc_O, fS_0, fS_s, uH_s, uH_n, uH_u, tl_s, tl_n, b1_0, b1_1, ite_true, ite_false, if_true, if_false, List.length_nil, List.length_cons, Nat.zero_le, Nat.zero_add, Nat.reduceAdd, Nat.reduceLeDiff, Nat.reduceEqDiff, Nat.reduceMul, Nat.add_left_cancel_iff, not_false_eq_true, h0, hc, jT_weight_4, T_shareOf h0 h5 ha (show i < 8 by omega), nI_1]
    exact ih (i + 1) (by omega)
theorem T_weight {m a : Nat} (h0 : h t = tO t (nI m) pu ye) (h5 : h (t + 5) = aI 64 sh) (hm : m ≤ 8) (ha : a < 8) : WpM 33 [.ref t, .int (nI a)] h Q = Q (some (.int (wt sh a m))) h := by
  rw [eT_weight]
  simp only [qT_weight_0, w0, w1, w2i, w2r, w3, w4, w5_0, w5_1, w5_2, w5_3, w5_4, w5_5, w5_6, w5_7, w5_8, w6_0, w6_1, w7_0, w7_1, w7_2, w7_3, w7_4, w7_5, w8_0, w8_1, w9_0, w9_1, w9_2, w10_0, w10_1, w10_2, w10_3, w10_4, w10_5, w11, w12_0, w12_1, w12_2, w12_3, w12_4, w12_5, w13_0, w13_1, w13_2, w13_3, w13_4, w13_5, w14, w15i, w15r, w16, w17, w18, w19i, w19z, w19l, w20, w21, w22, w23, w24, w25, w26, w27, w28_1, w28_2, w28_3, w28_4, w28_5, w28_6, w29, w30i, w30z, w31, w32, w33, w34, w35, w36, w37_1, w37_2, w37_3, w37_4, w37_5, w37_6, isO_O, set1_0, set1_1i, set1_1r, set1_1n, set1_1l, set1_s, set2_0, set2_1i, set2_1r, set2_1n, set2_1l, set2_s, ldv_i, ldv_l, ldv_r, ldv_s, ldi_i, ldi_s, fK_0, fK_s, gfc_O, fS_0, fS_s, uH_s, uH_n, uH_u, tl_s, tl_n, b1_0, b1_1, ite_true, ite_false, if_true, if_false, List.length_nil, List.length_cons, Nat.zero_le, Nat.zero_add, Nat.reduceAdd, Nat.reduceLeDiff, Nat.reduceEqDiff, Nat.reduceMul, Nat.add_left_cancel_iff, not_false_eq_true]
  exact T_weight_loop h0 h5 hm ha m 0 (by omega)
theorem T_pairs_in {m a : Nat} {acc : Int32} (h0 : h t = tO t (nI m) pu ye) (h5 : h (t + 5) = aI 64 sh) (hm : m ≤ 8) (ha : a < 8) : ∀ (d b : Nat), b + d = a → Wp none 34 qT_pairs_14 [some (.ref t), some (.int (pcI sh a acc b)), some (.int (nI a)), some (.int (nI b))] [] h Q = Wp none 34 qT_pairs_37 [some (.ref t), some (.int (pcI sh a acc a)), some (.int (nI a)), some (.int (nI a))] [] h Q := by
  intro d
  induction d with
  | zero =>
    intro b hb
    have e : b = a := by omega
    subst e
    have hc : nI b ≤ nI b := nI_le (Nat.le_refl b) (by omega)
    rw [qT_pairs_14]
    simp only [jT_pairs_37, w0, w1, w2i, w2r, w3, w4, w5_0, w5_1, w5_2, w5_3, w5_4, w5_5, w5_6, w5_7, w5_8, w6_0, w6_1, w7_0, w7_1, w7_2, w7_3, w7_4, w7_5, w8_0, w8_1, w9_0, w9_1, w9_2, w10_0, w10_1, w10_2, w10_3, w10_4, w10_5, w11, w12_0, w12_1, w12_2, w12_3, w12_4, w12_5, w13_0, w13_1, w13_2, w13_3, w13_4, w13_5, w14, w15i, w15r, w16, w17, w18, w19i, w19z, w19l, w20, w21, w22, w23, w24, w25, w26, w27, w28_1, w28_2, w28_3, w28_4, w28_5, w28_6, w29, w30i, w30z, w31, w32, w33, w34, w35, w36, w37_1, w37_2, w37_3, w37_4, w37_5, w37_6, isO_O, set1_0, set1_1i, set1_1r, set1_1n, set1_1l, set1_s, set2_0, set2_1i, set2_1r, set2_1n, set2_1l, set2_s, ldv_i, ldv_l, ldv_r, ldv_s, ldi_i, ldi_s, fK_0, fK_s, gfc_O, fS_0, fS_s, uH_s, uH_n, uH_u, tl_s, tl_n, b1_0, b1_1, ite_true, ite_false, if_true, if_false, List.length_nil, List.length_cons, Nat.zero_le, Nat.zero_add, Nat.reduceAdd, Nat.reduceLeDiff, Nat.reduceEqDiff, Nat.reduceMul, Nat.add_left_cancel_iff, not_false_eq_true, h0, hc]
  | succ d ih =>
    intro b hb
    have hc : ¬ nI a ≤ nI b := nI_ge (by omega) (by omega)
    rw [qT_pairs_14]
    simp only [qT_pairs_31, jT_pairs_31, jT_pairs_14, w0, w1, w2i, w2r, w3, w4, w5_0, w5_1, w5_2, w5_3, w5_4, w5_5, w5_6, w5_7, w5_8, w6_0, w6_1, w7_0, w7_1, w7_2, w7_3, w7_4, w7_5, w8_0, w8_1, w9_0, w9_1, w9_2, w10_0, w10_1, w10_2, w10_3, w10_4, w10_5, w11, w12_0, w12_1, w12_2, w12_3, w12_4, w12_5, w13_0, w13_1, w13_2, w13_3, w13_4, w13_5, w14, w15i, w15r, w16, w17, w18, w19i, w19z, w19l, w20, w21, w22, w23, w24, w25, w26, w27, w28_1, w28_2, w28_3, w28_4, w28_5, w28_6, w29, w30i, w30z, w31, w32, w33, w34, w35, w36, w37_1, w37_2, w37_3, w37_4, w37_5, w37_6, isO_O, set1_0, set1_1i, set1_1r, set1_1n, set1_1l, set1_s, set2_0, set2_1i, set2_1r, set2_1n, set2_1l, set2_s, ldv_i, ldv_l, ldv_r, ldv_s, ldi_i, ldi_s, fK_0, fK_s, gfc_O, fS_0, fS_s, uH_s, uH_n, uH_u, tl_s, tl_n, b1_0, b1_1, ite_true, ite_false, if_true, if_false, List.length_nil, List.length_cons, Nat.zero_le, Nat.zero_add, Nat.reduceAdd, Nat.reduceLeDiff, Nat.reduceEqDiff, Nat.reduceMul, Nat.add_left_cancel_iff, not_false_eq_true, h0, hc, T_shareOf h0 h5 ha (show b < 8 by omega), nI_1]
    have ih := ih (b + 1) (by omega)
    by_cases hs : sh (8 * a + b) ≤ 0
    · rw [if_pos hs]
      have e : pcI sh a acc (b + 1) = pcI sh a acc b := by rw [pcI, if_pos hs]
      rw [e] at ih
      exact ih
    · rw [if_neg hs]
      have e : pcI sh a acc (b + 1) = pcI sh a acc b + 1 := by rw [pcI, if_neg hs]
      rw [e] at ih
      exact ih
theorem T_pairs_out {m : Nat} (h0 : h t = tO t (nI m) pu ye) (h5 : h (t + 5) = aI 64 sh) (hm : m ≤ 8) : ∀ (d a : Nat) (x : Option Value), a + d = m → Wp none 34 qT_pairs_4 [some (.ref t), some (.int (pcO sh a)), some (.int (nI a)), x] [] h Q = Q (some (.int (pcO sh m))) h := by
  intro d
  induction d with
  | zero =>
    intro a x ha
    have e : a = m := by omega
    subst e
    have hc : nI a ≤ nI a := nI_le (Nat.le_refl a) (by omega)
    simp only [qT_pairs_4, qT_pairs_43, jT_pairs_43, w0, w1, w2i, w2r, w3, w4, w5_0, w5_1, w5_2, w5_3, w5_4, w5_5, w5_6, w5_7, w5_8, w6_0, w6_1, w7_0, w7_1, w7_2, w7_3, w7_4, w7_5, w8_0, w8_1, w9_0, w9_1, w9_2, w10_0, w10_1, w10_2, w10_3, w10_4, w10_5, w11, w12_0, w12_1, w12_2, w12_3, w12_4, w12_5, w13_0, w13_1, w13_2, w13_3, w13_4, w13_5, w14, w15i, w15r, w16, w17, w18, w19i, w19z, w19l, w20, w21, w22, w23, w24, w25, w26, w27, w28_1, w28_2, w28_3, w28_4, w28_5, w28_6, w29, w30i, w30z, w31, w32, w33, w34, w35, w36, w37_1, w37_2, w37_3, w37_4, w37_5, w37_6, isO_O, set1_0, set1_1i, set1_1r, set1_1n, set1_1l, set1_s, set2_0, set2_1i, set2_1r, set2_1n, set2_1l, set2_s, ldv_i, ldv_l, ldv_r, ldv_s, ldi_i, ldi_s, fK_0, fK_s, gfc_O, fS_0, fS_s, uH_s, uH_n, uH_u, tl_s, tl_n, b1_0, b1_1, ite_true, ite_false, if_true, if_false, List.length_nil, List.length_cons, Nat.zero_le, Nat.zero_add, Nat.reduceAdd, Nat.reduceLeDiff, Nat.reduceEqDiff, Nat.reduceMul, Nat.add_left_cancel_iff, not_false_eq_true, h0, hc]
  | succ d ih =>
    intro a x ha
    have hc : ¬ nI m ≤ nI a := nI_ge (by omega) (by omega)
    rw [qT_pairs_4]
    simp only [w0, w1, w2i, w2r, w3, w4, w5_0, w5_1, w5_2, w5_3, w5_4, w5_5, w5_6, w5_7, w5_8, w6_0, w6_1, w7_0, w7_1, w7_2, w7_3, w7_4, w7_5, w8_0, w8_1, w9_0, w9_1, w9_2, w10_0, w10_1, w10_2, w10_3, w10_4, w10_5, w11, w12_0, w12_1, w12_2, w12_3, w12_4, w12_5, w13_0, w13_1, w13_2, w13_3, w13_4, w13_5, w14, w15i, w15r, w16, w17, w18, w19i, w19z, w19l, w20, w21, w22, w23, w24, w25, w26, w27, w28_1, w28_2, w28_3, w28_4, w28_5, w28_6, w29, w30i, w30z, w31, w32, w33, w34, w35, w36, w37_1, w37_2, w37_3, w37_4, w37_5, w37_6, isO_O, set1_0, set1_1i, set1_1r, set1_1n, set1_1l, set1_s, set2_0, set2_1i, set2_1r, set2_1n, set2_1l, set2_s, ldv_i, ldv_l, ldv_r, ldv_s, ldi_i, ldi_s, fK_0, fK_s, gfc_O, fS_0, fS_s, uH_s, uH_n, uH_u, tl_s, tl_n, b1_0, b1_1, ite_true, ite_false, if_true, if_false, List.length_nil, List.length_cons, Nat.zero_le, Nat.zero_add, Nat.reduceAdd, Nat.reduceLeDiff, Nat.reduceEqDiff, Nat.reduceMul, Nat.add_left_cancel_iff, not_false_eq_true, h0, hc]
    have e := T_pairs_in (Q := Q) (acc := pcO sh a) h0 h5 hm (show a < 8 by omega) a 0 (by omega)
    rw [show nI 0 = 0 from rfl] at e
    rw [show pcI sh a (pcO sh a) 0 = pcO sh a from rfl] at e
    rw [e]
    simp only [qT_pairs_37, jT_pairs_4, w0, w1, w2i, w2r, w3, w4, w5_0, w5_1, w5_2, w5_3, w5_4, w5_5, w5_6, w5_7, w5_8, w6_0, w6_1, w7_0, w7_1, w7_2, w7_3, w7_4, w7_5, w8_0, w8_1, w9_0, w9_1, w9_2, w10_0, w10_1, w10_2, w10_3, w10_4, w10_5, w11, w12_0, w12_1, w12_2, w12_3, w12_4, w12_5, w13_0, w13_1, w13_2, w13_3, w13_4, w13_5, w14, w15i, w15r, w16, w17, w18, w19i, w19z, w19l, w20, w21, w22, w23, w24, w25, w26, w27, w28_1, w28_2, w28_3, w28_4, w28_5, w28_6, w29, w30i, w30z, w31, w32, w33, w34, w35, w36, w37_1, w37_2, w37_3, w37_4, w37_5, w37_6, isO_O, set1_0, set1_1i, set1_1r, set1_1n, set1_1l, set1_s, set2_0, set2_1i, set2_1r, set2_1n, set2_1l, set2_s, ldv_i, ldv_l, ldv_r, ldv_s, ldi_i, ldi_s, fK_0, fK_s, gfc_O, fS_0, fS_s, uH_s, uH_n, uH_u, tl_s, tl_n, b1_0, b1_1, ite_true, ite_false, if_true, if_false, List.length_nil, List.length_cons, Nat.zero_le, Nat.zero_add, Nat.reduceAdd, Nat.reduceLeDiff, Nat.reduceEqDiff, Nat.reduceMul, Nat.add_left_cancel_iff, not_false_eq_true, nI_1]
    exact ih (a + 1) _ (by omega)
theorem T_pairs {m : Nat} (h0 : h t = tO t (nI m) pu ye) (h5 : h (t + 5) = aI 64 sh) (hm : m ≤ 8) : WpM 34 [.ref t] h Q = Q (some (.int (pcO sh m))) h := by
  rw [eT_pairs]
  simp only [qT_pairs_0, w0, w1, w2i, w2r, w3, w4, w5_0, w5_1, w5_2, w5_3, w5_4, w5_5, w5_6, w5_7, w5_8, w6_0, w6_1, w7_0, w7_1, w7_2, w7_3, w7_4, w7_5, w8_0, w8_1, w9_0, w9_1, w9_2, w10_0, w10_1, w10_2, w10_3, w10_4, w10_5, w11, w12_0, w12_1, w12_2, w12_3, w12_4, w12_5, w13_0, w13_1, w13_2, w13_3, w13_4, w13_5, w14, w15i, w15r, w16, w17, w18, w19i, w19z, w19l, w20, w21, w22, w23, w24, w25, w26, w27, w28_1, w28_2, w28_3, w28_4, w28_5, w28_6, w29, w30i, w30z, w31, w32, w33, w34, w35, w36, w37_1, w37_2, w37_3, w37_4, w37_5, w37_6, isO_O, set1_0, set1_1i, set1_1r, set1_1n, set1_1l, set1_s, set2_0, set2_1i, set2_1r, set2_1n, set2_1l, set2_s, ldv_i, ldv_l, ldv_r, ldv_s, ldi_i, ldi_s, fK_0, fK_s, gfc_O, fS_0, fS_s, uH_s, uH_n, uH_u, tl_s, tl_n, b1_0, b1_1, ite_true, ite_false, if_true, if_false, List.length_nil, List.length_cons, Nat.zero_le, Nat.zero_add, Nat.reduceAdd, Nat.reduceLeDiff, Nat.reduceEqDiff, Nat.reduceMul, Nat.add_left_cancel_iff, not_false_eq_true]
  exact T_pairs_out h0 h5 hm m 0 _ (by omega)
theorem T_pullDown_loop {a : Nat} (ha : a < 8) : ∀ (d i : Nat) (h : AH), i + d = 8 → h t = tO t n pu ye → h (t + 5) = aI 64 (pdF sh a i) → Wp none 31 qT_pullDown_2 [some (.ref t), some (.int (nI a)), some (.int (nI i))] [] h Q = Q none (uH h (t + 5) (aI 64 (pdF sh a 8))) := by
  intro d
  induction d with
  | zero =>
    intro i h hi h0 h5
    have e : i = 8 := by omega
    subst e
    have hc : (8 : Int32) ≤ nI 8 := by decide
    simp only [qT_pullDown_2, qT_pullDown_21, jT_pullDown_21, w0, w1, w2i, w2r, w3, w4, w5_0, w5_1, w5_2, w5_3, w5_4, w5_5, w5_6, w5_7, w5_8, w6_0, w6_1, w7_0, w7_1, w7_2, w7_3, w7_4, w7_5, w8_0, w8_1, w9_0, w9_1, w9_2, w10_0, w10_1, w10_2, w10_3, w10_4, w10_5, w11, w12_0, w12_1, w12_2, w12_3, w12_4, w12_5, w13_0, w13_1, w13_2, w13_3, w13_4, w13_5, w14, w15i, w15r, w16, w17, w18, w19i, w19z, w19l, w20, w21, w22, w23, w24, w25, w26, w27, w28_1, w28_2, w28_3, w28_4, w28_5, w28_6, w29, w30i, w30z, w31, w32, w33, w34, w35, w36, w37_1, w37_2, w37_3, w37_4, w37_5, w37_6, isO_O, set1_0, set1_1i, set1_1r, set1_1n, set1_1l, set1_s, set2_0, set2_1i, set2_1r, set2_1n, set2_1l, set2_s, ldv_i, ldv_l, ldv_r, ldv_s, ldi_i, ldi_s, fK_0, fK_s, gfc_O, fS_0, fS_s, uH_s, uH_n, uH_u, tl_s, tl_n, b1_0, b1_1, ite_true, ite_false, if_true, if_false, List.length_nil, List.length_cons, Nat.zero_le, Nat.zero_add, Nat.reduceAdd, Nat.reduceLeDiff, Nat.reduceEqDiff, Nat.reduceMul, Nat.add_left_cancel_iff, not_false_eq_true, hc]
    rw [uH_id h h5]
  | succ d ih =>
    intro i h hi h0 h5
    have hc : ¬ (8 : Int32) ≤ nI i := nI_ge (b := 8) (by omega) (by decide)
    rw [qT_pullDown_2]
    simp only [w0, w1, w2i, w2r, w3, w4, w5_0, w5_1, w5_2, w5_3, w5_4, w5_5, w5_6, w5_7, w5_8, w6_0, w6_1, w7_0, w7_1, w7_2, w7_3, w7_4, w7_5, w8_0, w8_1, w9_0, w9_1, w9_2, w10_0, w10_1, w10_2, w10_3, w10_4, w10_5, w11, w12_0, w12_1, w12_2, w12_3, w12_4, w12_5, w13_0, w13_1, w13_2, w13_3, w13_4, w13_5, w14, w15i, w15r, w16, w17, w18, w19i, w19z, w19l, w20, w21, w22, w23, w24, w25, w26, w27, w28_1, w28_2, w28_3, w28_4, w28_5, w28_6, w29, w30i, w30z, w31, w32, w33, w34, w35, w36, w37_1, w37_2, w37_3, w37_4, w37_5, w37_6, isO_O, set1_0, set1_1i, set1_1r, set1_1n, set1_1l, set1_s, set2_0, set2_1i, set2_1r, set2_1n, set2_1l, set2_s, ldv_i, ldv_l, ldv_r, ldv_s, ldi_i, ldi_s, fK_0, fK_s, gfc_O, fS_0, fS_s, uH_s, uH_n, uH_u, tl_s, tl_n, b1_0, b1_1, ite_true, ite_false, if_true, if_false, List.length_nil, List.length_cons, Nat.zero_le, Nat.zero_add, Nat.reduceAdd, Nat.reduceLeDiff, Nat.reduceEqDiff, Nat.reduceMul, Nat.add_left_cancel_iff, not_false_eq_true, h0, hc, jT_pullDown_2, T_putShare h0 h5 ha (show i < 8 by omega), nI_1]
    rw [ih (i + 1) _ (by omega) (by rw [uH_n _ _ (by omega)]; exact h0) (by rw [uH_s]; rfl), uH_u]
theorem T_pullDown {a : Nat} (h0 : h t = tO t n pu ye) (h5 : h (t + 5) = aI 64 sh) (ha : a < 8) : WpM 31 [.ref t, .int (nI a)] h Q = Q none (uH h (t + 5) (aI 64 (pdF sh a 8))) := by
  rw [eT_pullDown]
  simp only [qT_pullDown_0, w0, w1, w2i, w2r, w3, w4, w5_0, w5_1, w5_2, w5_3, w5_4, w5_5, w5_6, w5_7, w5_8, w6_0, w6_1, w7_0, w7_1, w7_2, w7_3, w7_4, w7_5, w8_0, w8_1, w9_0, w9_1, w9_2, w10_0, w10_1, w10_2, w10_3, w10_4, w10_5, w11, w12_0, w12_1, w12_2, w12_3, w12_4, w12_5, w13_0, w13_1, w13_2, w13_3, w13_4, w13_5, w14, w15i, w15r, w16, w17, w18, w19i, w19z, w19l, w20, w21, w22, w23, w24, w25, w26, w27, w28_1, w28_2, w28_3, w28_4, w28_5, w28_6, w29, w30i, w30z, w31, w32, w33, w34, w35, w36, w37_1, w37_2, w37_3, w37_4, w37_5, w37_6, isO_O, set1_0, set1_1i, set1_1r, set1_1n, set1_1l, set1_s, set2_0, set2_1i, set2_1r, set2_1n, set2_1l, set2_s, ldv_i, ldv_l, ldv_r, ldv_s, ldi_i, ldi_s, fK_0, fK_s, gfc_O, fS_0, fS_s, uH_s, uH_n, uH_u, tl_s, tl_n, b1_0, b1_1, ite_true, ite_false, if_true, if_false, List.length_nil, List.length_cons, Nat.zero_le, Nat.zero_add, Nat.reduceAdd, Nat.reduceLeDiff, Nat.reduceEqDiff, Nat.reduceMul, Nat.add_left_cancel_iff, not_false_eq_true]
  exact T_pullDown_loop ha 8 0 h (by omega) h0 h5
theorem T_clear_loop : ∀ (d i : Nat) (h : AH), i + d = 64 → h t = tO t n pu ye → h (t + 5) = aI 64 (clF sh i) → Wp none 32 qT_clear_7 [some (.ref t), some (.int (nI i))] [] h Q = Q none (uH h (t + 5) (aI 64 (clF sh 64))) := by
  intro d
  induction d with
  | zero =>
    intro i h hi h0 h5
    have e : i = 64 := by omega
    subst e
    have hc : (64 : Int32) ≤ nI 64 := by decide
    simp only [qT_clear_7, qT_clear_26, jT_clear_26, w0, w1, w2i, w2r, w3, w4, w5_0, w5_1, w5_2, w5_3, w5_4, w5_5, w5_6, w5_7, w5_8, w6_0, w6_1, w7_0, w7_1, w7_2, w7_3, w7_4, w7_5, w8_0, w8_1, w9_0, w9_1, w9_2, w10_0, w10_1, w10_2, w10_3, w10_4, w10_5, w11, w12_0, w12_1, w12_2, w12_3, w12_4, w12_5, w13_0, w13_1, w13_2, w13_3, w13_4, w13_5, w14, w15i, w15r, w16, w17, w18, w19i, w19z, w19l, w20, w21, w22, w23, w24, w25, w26, w27, w28_1, w28_2, w28_3, w28_4, w28_5, w28_6, w29, w30i, w30z, w31, w32, w33, w34, w35, w36, w37_1, w37_2, w37_3, w37_4, w37_5, w37_6, isO_O, set1_0, set1_1i, set1_1r, set1_1n, set1_1l, set1_s, set2_0, set2_1i, set2_1r, set2_1n, set2_1l, set2_s, ldv_i, ldv_l, ldv_r, ldv_s, ldi_i, ldi_s, fK_0, fK_s, gfc_O, fS_0, fS_s, uH_s, uH_n, uH_u, tl_s, tl_n, b1_0, b1_1, ite_true, ite_false, if_true, if_false, List.length_nil, List.length_cons, Nat.zero_le, Nat.zero_add, Nat.reduceAdd, Nat.reduceLeDiff, Nat.reduceEqDiff, Nat.reduceMul, Nat.add_left_cancel_iff, not_false_eq_true, hc]
    rw [uH_id h h5]
  | succ d ih =>
    intro i h hi h0 h5
    have hc : ¬ (64 : Int32) ≤ nI i := nI_ge (b := 64) (by omega) (by decide)
    rw [qT_clear_7]
    simp only [w0, w1, w2i, w2r, w3, w4, w5_0, w5_1, w5_2, w5_3, w5_4, w5_5, w5_6, w5_7, w5_8, w6_0, w6_1, w7_0, w7_1, w7_2, w7_3, w7_4, w7_5, w8_0, w8_1, w9_0, w9_1, w9_2, w10_0, w10_1, w10_2, w10_3, w10_4, w10_5, w11, w12_0, w12_1, w12_2, w12_3, w12_4, w12_5, w13_0, w13_1, w13_2, w13_3, w13_4, w13_5, w14, w15i, w15r, w16, w17, w18, w19i, w19z, w19l, w20, w21, w22, w23, w24, w25, w26, w27, w28_1, w28_2, w28_3, w28_4, w28_5, w28_6, w29, w30i, w30z, w31, w32, w33, w34, w35, w36, w37_1, w37_2, w37_3, w37_4, w37_5, w37_6, isO_O, set1_0, set1_1i, set1_1r, set1_1n, set1_1l, set1_s, set2_0, set2_1i, set2_1r, set2_1n, set2_1l, set2_s, ldv_i, ldv_l, ldv_r, ldv_s, ldi_i, ldi_s, fK_0, fK_s, gfc_O, fS_0, fS_s, uH_s, uH_n, uH_u, tl_s, tl_n, b1_0, b1_1, ite_true, ite_false, if_true, if_false, List.length_nil, List.length_cons, Nat.zero_le, Nat.zero_add, Nat.reduceAdd, Nat.reduceLeDiff, Nat.reduceEqDiff, Nat.reduceMul, Nat.add_left_cancel_iff, not_false_eq_true, h0, h5, hc, jT_clear_7, nI_1, wIc_n (show i < 64 by omega) (show 64 < 2 ^ 31 by decide)]
    rw [ih (i + 1) _ (by omega) (by rw [uH_n _ _ (by omega)]; exact h0) (by rw [uH_s]; rfl), uH_u]
theorem T_clear (h0 : h t = tO t n pu ye) (h5 : h (t + 5) = aI 64 sh) : WpM 32 [.ref t] h Q = Q none (uH (uH h t (tO t 0 pu ye)) (t + 5) (aI 64 (clF sh 64))) := by
  rw [eT_clear]
  simp only [qT_clear_0, w0, w1, w2i, w2r, w3, w4, w5_0, w5_1, w5_2, w5_3, w5_4, w5_5, w5_6, w5_7, w5_8, w6_0, w6_1, w7_0, w7_1, w7_2, w7_3, w7_4, w7_5, w8_0, w8_1, w9_0, w9_1, w9_2, w10_0, w10_1, w10_2, w10_3, w10_4, w10_5, w11, w12_0, w12_1, w12_2, w12_3, w12_4, w12_5, w13_0, w13_1, w13_2, w13_3, w13_4, w13_5, w14, w15i, w15r, w16, w17, w18, w19i, w19z, w19l, w20, w21, w22, w23, w24, w25, w26, w27, w28_1, w28_2, w28_3, w28_4, w28_5, w28_6, w29, w30i, w30z, w31, w32, w33, w34, w35, w36, w37_1, w37_2, w37_3, w37_4, w37_5, w37_6, isO_O, set1_0, set1_1i, set1_1r, set1_1n, set1_1l, set1_s, set2_0, set2_1i, set2_1r, set2_1n, set2_1l, set2_s, ldv_i, ldv_l, ldv_r, ldv_s, ldi_i, ldi_s, fK_0, fK_s, gfc_O, fS_0, fS_s, uH_s, uH_n, uH_u, tl_s, tl_n, b1_0, b1_1, ite_true, ite_false, if_true, if_false, List.length_nil, List.length_cons, Nat.zero_le, Nat.zero_add, Nat.reduceAdd, Nat.reduceLeDiff, Nat.reduceEqDiff, Nat.reduceMul, Nat.add_left_cancel_iff, not_false_eq_true, h0, pfc_O (show 0 < [Value.int n, .ref (t + 1), .ref (t + 2), .ref (t + 3), .ref (t + 4), .ref (t + 5), .int pu, .int ye, .ref (t + 6)].length by simp)]
  exact T_clear_loop 64 0 _ (by omega) (by rw [uH_s]) (by rw [uH_n _ _ (by omega)]; exact h5)
theorem T_fixedSet_loop {m : Nat} (p : Nat → Bool) (hp : ∀ a, a < 8 → (p a = true ↔ (ki a = 1 ∨ ki a = 3))) (h0 : h t = tO t (nI m) pu ye) (h1 : h (t + 1) = aI 8 ki) (hm : m ≤ 8) : ∀ (d i : Nat), i + d = m → Wp none 35 qT_fixedSet_4 [some (.ref t), some (.int (nI (enc p i))), some (.int (nI i))] [] h Q = Q (some (.int (nI (enc p m)))) h := by
  intro d
  induction d with
  | zero =>
    intro i hi
    have e : i = m := by omega
    subst e
    have hc : nI i ≤ nI i := nI_le (Nat.le_refl i) (by omega)
    simp only [qT_fixedSet_4, qT_fixedSet_32, jT_fixedSet_32, w0, w1, w2i, w2r, w3, w4, w5_0, w5_1, w5_2, w5_3, w5_4, w5_5, w5_6, w5_7, w5_8, w6_0, w6_1, w7_0, w7_1, w7_2, w7_3, w7_4, w7_5, w8_0, w8_1, w9_0, w9_1, w9_2, w10_0, w10_1, w10_2, w10_3, w10_4, w10_5, w11, w12_0, w12_1, w12_2, w12_3, w12_4, w12_5, w13_0, w13_1, w13_2, w13_3, w13_4, w13_5, w14, w15i, w15r, w16, w17, w18, w19i, w19z, w19l, w20, w21, w22, w23, w24, w25, w26, w27, w28_1, w28_2, w28_3, w28_4, w28_5, w28_6, w29, w30i, w30z, w31, w32, w33, w34, w35, w36, w37_1, w37_2, w37_3, w37_4, w37_5, w37_6, isO_O, set1_0, set1_1i, set1_1r, set1_1n, set1_1l, set1_s, set2_0, set2_1i, set2_1r, set2_1n, set2_1l, set2_s, ldv_i, ldv_l, ldv_r, ldv_s, ldi_i, ldi_s, fK_0, fK_s, gfc_O, fS_0, fS_s, uH_s, uH_n, uH_u, tl_s, tl_n, b1_0, b1_1, ite_true, ite_false, if_true, if_false, List.length_nil, List.length_cons, Nat.zero_le, Nat.zero_add, Nat.reduceAdd, Nat.reduceLeDiff, Nat.reduceEqDiff, Nat.reduceMul, Nat.add_left_cancel_iff, not_false_eq_true, h0, hc]
  | succ d ih =>
    intro i hi
    have hc : ¬ nI m ≤ nI i := nI_ge (by omega) (by omega)
    rw [qT_fixedSet_4]
    simp only [qT_fixedSet_26, jT_fixedSet_26, w0, w1, w2i, w2r, w3, w4, w5_0, w5_1, w5_2, w5_3, w5_4, w5_5, w5_6, w5_7, w5_8, w6_0, w6_1, w7_0, w7_1, w7_2, w7_3, w7_4, w7_5, w8_0, w8_1, w9_0, w9_1, w9_2, w10_0, w10_1, w10_2, w10_3, w10_4, w10_5, w11, w12_0, w12_1, w12_2, w12_3, w12_4, w12_5, w13_0, w13_1, w13_2, w13_3, w13_4, w13_5, w14, w15i, w15r, w16, w17, w18, w19i, w19z, w19l, w20, w21, w22, w23, w24, w25, w26, w27, w28_1, w28_2, w28_3, w28_4, w28_5, w28_6, w29, w30i, w30z, w31, w32, w33, w34, w35, w36, w37_1, w37_2, w37_3, w37_4, w37_5, w37_6, isO_O, set1_0, set1_1i, set1_1r, set1_1n, set1_1l, set1_s, set2_0, set2_1i, set2_1r, set2_1n, set2_1l, set2_s, ldv_i, ldv_l, ldv_r, ldv_s, ldi_i, ldi_s, fK_0, fK_s, gfc_O, fS_0, fS_s, uH_s, uH_n, uH_u, tl_s, tl_n, b1_0, b1_1, ite_true, ite_false, if_true, if_false, List.length_nil, List.length_cons, Nat.zero_le, Nat.zero_add, Nat.reduceAdd, Nat.reduceLeDiff, Nat.reduceEqDiff, Nat.reduceMul, Nat.add_left_cancel_iff, not_false_eq_true, h0, hc, jT_fixedSet_4, T_isFixed h0 h1 (show i < 8 by omega), z01, nI_1, shl1 i (by omega), fa_or]
    have ih := ih (i + 1) (by omega)
    by_cases hs : ki i = 1 ∨ ki i = 3
    · rw [if_neg (fun z => z hs)]
      have e : enc p (i + 1) = enc p i ||| 2 ^ i := by rw [enc, if_pos ((hp i (by omega)).mpr hs)]
      rw [e] at ih
      exact ih
    · rw [if_pos hs]
      have e : enc p (i + 1) = enc p i := by rw [enc, if_neg (fun z => hs ((hp i (by omega)).mp z))]
      rw [e] at ih
      exact ih
theorem T_fixedSet {m : Nat} (p : Nat → Bool) (hp : ∀ a, a < 8 → (p a = true ↔ (ki a = 1 ∨ ki a = 3))) (h0 : h t = tO t (nI m) pu ye) (h1 : h (t + 1) = aI 8 ki) (hm : m ≤ 8) : WpM 35 [.ref t] h Q = Q (some (.int (nI (enc p m)))) h := by
  rw [eT_fixedSet]
  simp only [qT_fixedSet_0, w0, w1, w2i, w2r, w3, w4, w5_0, w5_1, w5_2, w5_3, w5_4, w5_5, w5_6, w5_7, w5_8, w6_0, w6_1, w7_0, w7_1, w7_2, w7_3, w7_4, w7_5, w8_0, w8_1, w9_0, w9_1, w9_2, w10_0, w10_1, w10_2, w10_3, w10_4, w10_5, w11, w12_0, w12_1, w12_2, w12_3, w12_4, w12_5, w13_0, w13_1, w13_2, w13_3, w13_4, w13_5, w14, w15i, w15r, w16, w17, w18, w19i, w19z, w19l, w20, w21, w22, w23, w24, w25, w26, w27, w28_1, w28_2, w28_3, w28_4, w28_5, w28_6, w29, w30i, w30z, w31, w32, w33, w34, w35, w36, w37_1, w37_2, w37_3, w37_4, w37_5, w37_6, isO_O, set1_0, set1_1i, set1_1r, set1_1n, set1_1l, set1_s, set2_0, set2_1i, set2_1r, set2_1n, set2_1l, set2_s, ldv_i, ldv_l, ldv_r, ldv_s, ldi_i, ldi_s, fK_0, fK_s, gfc_O, fS_0, fS_s, uH_s, uH_n, uH_u, tl_s, tl_n, b1_0, b1_1, ite_true, ite_false, if_true, if_false, List.length_nil, List.length_cons, Nat.zero_le, Nat.zero_add, Nat.reduceAdd, Nat.reduceLeDiff, Nat.reduceEqDiff, Nat.reduceMul, Nat.add_left_cancel_iff, not_false_eq_true]
  exact T_fixedSet_loop p hp h0 h1 hm m 0 (by omega)
theorem T_besideSet_loop {m a : Nat} (p : Nat → Bool) (hp : ∀ b, b < 8 → (p b = true ↔ ¬ sh (8 * a + b) ≤ 0)) (h0 : h t = tO t (nI m) pu ye) (h5 : h (t + 5) = aI 64 sh) (hm : m ≤ 8) (ha : a < 8) : ∀ (d i : Nat), i + d = m → Wp none 37 qT_besideSet_4 [some (.ref t), some (.int (nI a)), some (.int (nI (enc p i))), some (.int (nI i))] [] h Q = Q (some (.int (nI (enc p m)))) h := by
  intro d
  induction d with
  | zero =>
    intro i hi
    have e : i = m := by omega
    subst e
    have hc : nI i ≤ nI i := nI_le (Nat.le_refl i) (by omega)
    simp only [qT_besideSet_4, qT_besideSet_33, jT_besideSet_33, w0, w1, w2i, w2r, w3, w4, w5_0, w5_1, w5_2, w5_3, w5_4, w5_5, w5_6, w5_7, w5_8, w6_0, w6_1, w7_0, w7_1, w7_2, w7_3, w7_4, w7_5, w8_0, w8_1, w9_0, w9_1, w9_2, w10_0, w10_1, w10_2, w10_3, w10_4, w10_5, w11, w12_0, w12_1, w12_2, w12_3, w12_4, w12_5, w13_0, w13_1, w13_2, w13_3, w13_4, w13_5, w14, w15i, w15r, w16, w17, w18, w19i, w19z, w19l, w20, w21, w22, w23, w24, w25, w26, w27, w28_1, w28_2, w28_3, w28_4, w28_5, w28_6, w29, w30i, w30z, w31, w32, w33, w34, w35, w36, w37_1, w37_2, w37_3, w37_4, w37_5, w37_6, isO_O, set1_0, set1_1i, set1_1r, set1_1n, set1_1l, set1_s, set2_0, set2_1i, set2_1r, set2_1n, set2_1l, set2_s, ldv_i, ldv_l, ldv_r, ldv_s, ldi_i, ldi_s, fK_0, fK_s, gfc_O, fS_0, fS_s, uH_s, uH_n, uH_u, tl_s, tl_n, b1_0, b1_1, ite_true, ite_false, if_true, if_false, List.length_nil, List.length_cons, Nat.zero_le, Nat.zero_add, Nat.reduceAdd, Nat.reduceLeDiff, Nat.reduceEqDiff, Nat.reduceMul, Nat.add_left_cancel_iff, not_false_eq_true, h0, hc]
  | succ d ih =>
    intro i hi
    have hc : ¬ nI m ≤ nI i := nI_ge (by omega) (by omega)
    rw [qT_besideSet_4]
    simp only [qT_besideSet_27, jT_besideSet_27, w0, w1, w2i, w2r, w3, w4, w5_0, w5_1, w5_2, w5_3, w5_4, w5_5, w5_6, w5_7, w5_8, w6_0, w6_1, w7_0, w7_1, w7_2, w7_3, w7_4, w7_5, w8_0, w8_1, w9_0, w9_1, w9_2, w10_0, w10_1, w10_2, w10_3, w10_4, w10_5, w11, w12_0, w12_1, w12_2, w12_3, w12_4, w12_5, w13_0, w13_1, w13_2, w13_3, w13_4, w13_5, w14, w15i, w15r, w16, w17, w18, w19i, w19z, w19l, w20, w21, w22, w23, w24, w25, w26, w27, w28_1, w28_2, w28_3, w28_4, w28_5, w28_6, w29, w30i, w30z, w31, w32, w33, w34, w35, w36, w37_1, w37_2, w37_3, w37_4, w37_5, w37_6, isO_O, set1_0, set1_1i, set1_1r, set1_1n, set1_1l, set1_s, set2_0, set2_1i, set2_1r, set2_1n, set2_1l, set2_s, ldv_i, ldv_l, ldv_r, ldv_s, ldi_i, ldi_s, fK_0, fK_s, gfc_O, fS_0, fS_s, uH_s, uH_n, uH_u, tl_s, tl_n, b1_0, b1_1, ite_true, ite_false, if_true, if_false, List.length_nil, List.length_cons, Nat.zero_le, Nat.zero_add, Nat.reduceAdd, Nat.reduceLeDiff, Nat.reduceEqDiff, Nat.reduceMul, Nat.add_left_cancel_iff, not_false_eq_true, h0, hc, jT_besideSet_4, T_shareOf h0 h5 ha (show i < 8 by omega), nI_1, shl1 i (by omega), fa_or]
    have ih := ih (i + 1) (by omega)
    by_cases hs : sh (8 * a + i) ≤ 0
    · rw [if_pos hs]
      have e : enc p (i + 1) = enc p i := by rw [enc, if_neg (fun z => (hp i (by omega)).mp z hs)]
      rw [e] at ih
      exact ih
    · rw [if_neg hs]
      have e : enc p (i + 1) = enc p i ||| 2 ^ i := by rw [enc, if_pos ((hp i (by omega)).mpr hs)]
      rw [e] at ih
      exact ih
theorem T_besideSet {m a : Nat} (p : Nat → Bool) (hp : ∀ b, b < 8 → (p b = true ↔ ¬ sh (8 * a + b) ≤ 0)) (h0 : h t = tO t (nI m) pu ye) (h5 : h (t + 5) = aI 64 sh) (hm : m ≤ 8) (ha : a < 8) : WpM 37 [.ref t, .int (nI a)] h Q = Q (some (.int (nI (enc p m)))) h := by
  rw [eT_besideSet]
  simp only [qT_besideSet_0, w0, w1, w2i, w2r, w3, w4, w5_0, w5_1, w5_2, w5_3, w5_4, w5_5, w5_6, w5_7, w5_8, w6_0, w6_1, w7_0, w7_1, w7_2, w7_3, w7_4, w7_5, w8_0, w8_1, w9_0, w9_1, w9_2, w10_0, w10_1, w10_2, w10_3, w10_4, w10_5, w11, w12_0, w12_1, w12_2, w12_3, w12_4, w12_5, w13_0, w13_1, w13_2, w13_3, w13_4, w13_5, w14, w15i, w15r, w16, w17, w18, w19i, w19z, w19l, w20, w21, w22, w23, w24, w25, w26, w27, w28_1, w28_2, w28_3, w28_4, w28_5, w28_6, w29, w30i, w30z, w31, w32, w33, w34, w35, w36, w37_1, w37_2, w37_3, w37_4, w37_5, w37_6, isO_O, set1_0, set1_1i, set1_1r, set1_1n, set1_1l, set1_s, set2_0, set2_1i, set2_1r, set2_1n, set2_1l, set2_s, ldv_i, ldv_l, ldv_r, ldv_s, ldi_i, ldi_s, fK_0, fK_s, gfc_O, fS_0, fS_s, uH_s, uH_n, uH_u, tl_s, tl_n, b1_0, b1_1, ite_true, ite_false, if_true, if_false, List.length_nil, List.length_cons, Nat.zero_le, Nat.zero_add, Nat.reduceAdd, Nat.reduceLeDiff, Nat.reduceEqDiff, Nat.reduceMul, Nat.add_left_cancel_iff, not_false_eq_true]
  exact T_besideSet_loop p hp h0 h5 hm ha m 0 (by omega)
end TOWN
end
section
/-! Town: years, copies, the reached set -/
def tg (sh ah : Nat → Int32) (a : Nat) : Nat → Int32
  | 0 => 0
  | o + 1 => tg sh ah a o + sh (8 * a + o) * ah o
/-- what a house that is not fixed asks after a year -/
def aft (sh ah ki ca : Nat → Int32) (n a : Nat) : Int32 := if wt sh a n = 0 then ah a else if ki a = 2 then (if ca a < tg sh ah a n / wt sh a n then ca a else tg sh ah a n / wt sh a n) else tg sh ah a n / wt sh a n
/-- the askings when the first i houses have gone on -/
def yF (sh ah ki ca : Nat → Int32) (n : Nat) (as : Nat → Int32) : Nat → Nat → Int32
  | 0 => as
  | i + 1 => if ki i = 1 ∨ ki i = 3 then yF sh ah ki ca n as i else upd (yF sh ah ki ca n as i) i (aft sh ah ki ca n i)
def yC (sh ah ki ca : Nat → Int32) (n : Nat) (as : Nat → Int32) : Nat → Int32
  | 0 => 0
  | i + 1 => if yF sh ah ki ca n as (i + 1) i = ah i then yC sh ah ki ca n as i else yC sh ah ki ca n as i + 1
theorem cp8 {f g : Nat → Int32} {K : AC → Prop} : cpc (aI 8 f) (aI 8 g) 0 0 8 K = K (aI 8 (va_cpy f g 0 0 8)) := cpc_I (i := 0) (j := 0) (k := 8) (by decide) (by decide) (by decide) (by decide)
theorem cp64 {f g : Nat → Int32} {K : AC → Prop} : cpc (aI 64 f) (aI 64 g) 0 0 64 K = K (aI 64 (va_cpy f g 0 0 64)) := cpc_I (i := 0) (j := 0) (k := 64) (by decide) (by decide) (by decide) (by decide)
def andn (a b : Nat) : Nat := a ^^^ (a &&& b)
theorem andn_bit (a b i : Nat) : (andn a b).testBit i = (a.testBit i && !b.testBit i) := by
  unfold andn
  rw [Nat.testBit_xor, Nat.testBit_and]
  cases a.testBit i <;> cases b.testBit i <;> rfl
theorem andn_lt {a b k : Nat} (ha : a < 2 ^ k) : andn a b < 2 ^ k := by
  unfold andn
  exact Nat.xor_lt_two_pow ha (Nat.lt_of_le_of_lt Nat.and_le_left ha)
theorem nI_andn (a b : Nat) : nI a &&& (nI b ^^^ (-1)) = nI (andn a b) := by
  have h1 : nI a &&& (nI b ^^^ (-1)) = nI a ^^^ (nI a &&& nI b) := by
    apply Int32.toBitVec_inj.mp
    simp only [Int32.toBitVec_and, Int32.toBitVec_xor]
    generalize (nI a).toBitVec = x
    generalize (nI b).toBitVec = y
    rw [show (-1 : Int32).toBitVec = BitVec.allOnes 32 from rfl]
    apply BitVec.eq_of_getLsbD_eq
    intro i hi
    simp only [BitVec.getLsbD_and, BitVec.getLsbD_xor, BitVec.getLsbD_allOnes]
    cases x.getLsbD i <;> cases y.getLsbD i <;> simp [hi]
  rw [h1, fa_and, fb_xorI]
  rfl
/-- what is beside the houses of a set, of the first i -/
def bI (bes : Nat → Nat) (last : Nat) : Nat → Nat
  | 0 => 0
  | i + 1 => if last.testBit i = true then bI bes last i ||| bes i else bI bes last i
def rS (bes : Nat → Nat) (n : Nat) : Nat → Nat → Nat → Nat
  | 0, set, _ => set
  | d + 1, set, last => if last = 0 then set else rS bes n d (set ||| andn (bI bes last n) set) (andn (bI bes last n) set)
theorem bI_lt {bes : Nat → Nat} {last k : Nat} (hb : ∀ a, bes a < 2 ^ k) : ∀ n, bI bes last n < 2 ^ k
  | 0 => Nat.two_pow_pos k
  | n + 1 => by
    have ih := bI_lt (last := last) hb n
    unfold bI
    split
    · exact Nat.or_lt_two_pow ih (hb n)
    · exact ih
theorem pfc_3 {k : Nat} {v0 v1 v2 v3 v4 v5 v6 v7 v8 w : Value} {K : AC → Prop} (hk : k < 9) : pfc (aO 3 [v0, v1, v2, v3, v4, v5, v6, v7, v8]) 3 k w K = K (aO 3 (fS w [v0, v1, v2, v3, v4, v5, v6, v7, v8] k)) := pfc_O hk
section TOWN2
variable {h : AH} {Q : Option Value → AH → Prop} {t : Nat} {n pu ye : Int32} {ki as ow ca sh ah : Nat → Int32}
theorem T_askingAfter_loop {m a : Nat} {w : Int32} (h0 : h t = tO t (nI m) pu ye) (h5 : h (t + 5) = aI 64 sh) (h6 : h (t + 6) = aI 8 ah) (hm : m ≤ 8) (ha : a < 8) : ∀ (d i : Nat), i + d = m → Wp none 39 qT_askingAfter_22 [some (.ref t), some (.int (nI a)), some (.int w), some (.int (tg sh ah a i)), some (.int (nI i))] [] h Q = Wp none 39 qT_askingAfter_55 [some (.ref t), some (.int (nI a)), some (.int w), some (.int (tg sh ah a m)), some (.int (nI m))] [] h Q := by
  intro d
  induction d with
  | zero =>
    intro i hi
    have e : i = m := by omega
    subst e
    have hc : nI i ≤ nI i := nI_le (Nat.le_refl i) (by omega)
    rw [qT_askingAfter_22]
    simp only [jT_askingAfter_55, w0, w1, w2i, w2r, w3, w4, w5_0, w5_1, w5_2, w5_3, w5_4, w5_5, w5_6, w5_7, w5_8, w6_0, w6_1, w7_0, w7_1, w7_2, w7_3, w7_4, w7_5, w8_0, w8_1, w9_0, w9_1, w9_2, w10_0, w10_1, w10_2, w10_3, w10_4, w10_5, w11, w12_0, w12_1, w12_2, w12_3, w12_4, w12_5, w13_0, w13_1, w13_2, w13_3, w13_4, w13_5, w14, w15i, w15r, w16, w17, w18, w19i, w19z, w19l, w20, w21, w22, w23, w24, w25, w26, w27, w28_1, w28_2, w28_3, w28_4, w28_5, w28_6, w29, w30i, w30z, w31, w32, w33, w34, w35, w36, w37_1, w37_2, w37_3, w37_4, w37_5, w37_6, isO_O, set1_0, set1_1i, set1_1r, set1_1n, set1_1l, set1_s, set2_0, set2_1i, set2_1r, set2_1n, set2_1l, set2_s, ldv_i, ldv_l, ldv_r, ldv_s, ldi_i, ldi_s, fK_0, fK_s, gfc_O, fS_0, fS_s, uH_s, uH_n, uH_u, tl_s, tl_n, b1_0, b1_1, ite_true, ite_false, if_true, if_false, List.length_nil, List.length_cons, Nat.zero_le, Nat.zero_add, Nat.reduceAdd, Nat.reduceLeDiff, Nat.reduceLT, Nat.reduceEqDiff, Nat.reduceMul, Nat.add_left_cancel_iff, not_false_eq_true, h0, hc]
  | succ d ih =>
    intro i hi
    have hc : ¬ nI m ≤ nI i := nI_ge (by omega) (by omega)
    rw [qT_askingAfter_22]
    simp only [w0, w1, w2i, w2r, w3, w4, w5_0, w5_1, w5_2, w5_3, w5_4, w5_5, w5_6, w5_7, w5_8, w6_0, w6_1, w7_0, w7_1, w7_2, w7_3, w7_4, w7_5, w8_0, w8_1, w9_0, w9_1, w9_2, w10_0, w10_1, w10_2, w10_3, w10_4, w10_5, w11, w12_0, w12_1, w12_2, w12_3, w12_4, w12_5, w13_0, w13_1, w13_2, w13_3, w13_4, w13_5, w14, w15i, w15r, w16, w17, w18, w19i, w19z, w19l, w20, w21, w22, w23, w24, w25, w26, w27, w28_1, w28_2, w28_3, w28_4, w28_5, w28_6, w29, w30i, w30z, w31, w32, w33, w34, w35, w36, w37_1, w37_2, w37_3, w37_4, w37_5, w37_6, isO_O, set1_0, set1_1i, set1_1r, set1_1n, set1_1l, set1_s, set2_0, set2_1i, set2_1r, set2_1n, set2_1l, set2_s, ldv_i, ldv_l, ldv_r, ldv_s, ldi_i, ldi_s, fK_0, fK_s, gfc_O, fS_0, fS_s, uH_s, uH_n, uH_u, tl_s, tl_n, b1_0, b1_1, ite_true, ite_false, if_true, if_false, List.length_nil, List.length_cons, Nat.zero_le, Nat.zero_add, Nat.reduceAdd, Nat.reduceLeDiff, Nat.reduceLT, Nat.reduceEqDiff, Nat.reduceMul, Nat.add_left_cancel_iff, not_false_eq_true, h0, h6, hc, jT_askingAfter_22, T_shareOf h0 h5 ha (show i < 8 by omega), nI_1, rIc_n (show i < 8 by omega) (show 8 < 2 ^ 31 by decide)]
    exact ih (i + 1) (by omega)
theorem T_askingAfter {m a : Nat} (h0 : h t = tO t (nI m) pu ye) (h1 : h (t + 1) = aI 8 ki) (h4 : h (t + 4) = aI 8 ca) (h5 : h (t + 5) = aI 64 sh) (h6 : h (t + 6) = aI 8 ah) (hm : m ≤ 8) (ha : a < 8) : WpM 39 [.ref t, .int (nI a)] h Q = Q (some (.int (aft sh ah ki ca m a))) h := by
  rw [eT_askingAfter]
  simp only [qT_askingAfter_0, qT_askingAfter_17, jT_askingAfter_17, w0, w1, w2i, w2r, w3, w4, w5_0, w5_1, w5_2, w5_3, w5_4, w5_5, w5_6, w5_7, w5_8, w6_0, w6_1, w7_0, w7_1, w7_2, w7_3, w7_4, w7_5, w8_0, w8_1, w9_0, w9_1, w9_2, w10_0, w10_1, w10_2, w10_3, w10_4, w10_5, w11, w12_0, w12_1, w12_2, w12_3, w12_4, w12_5, w13_0, w13_1, w13_2, w13_3, w13_4, w13_5, w14, w15i, w15r, w16, w17, w18, w19i, w19z, w19l, w20, w21, w22, w23, w24, w25, w26, w27, w28_1, w28_2, w28_3, w28_4, w28_5, w28_6, w29, w30i, w30z, w31, w32, w33, w34, w35, w36, w37_1, w37_2, w37_3, w37_4, w37_5, w37_6, isO_O, set1_0, set1_1i, set1_1r, set1_1n, set1_1l, set1_s, set2_0, set2_1i, set2_1r, set2_1n, set2_1l, set2_s, ldv_i, ldv_l, ldv_r, ldv_s, ldi_i, ldi_s, fK_0, fK_s, gfc_O, fS_0, fS_s, uH_s, uH_n, uH_u, tl_s, tl_n, b1_0, b1_1, ite_true, ite_false, if_true, if_false, List.length_nil, List.length_cons, Nat.zero_le, Nat.zero_add, Nat.reduceAdd, Nat.reduceLeDiff, Nat.reduceLT, Nat.reduceEqDiff, Nat.reduceMul, Nat.add_left_cancel_iff, not_false_eq_true, h0, h6, T_weight h0 h5 hm ha, rIc_n ha (show 8 < 2 ^ 31 by decide)]
  unfold aft
  by_cases hw : wt sh a m = 0
  · simp [hw]
  · have e := T_askingAfter_loop (Q := Q) (w := wt sh a m) h0 h5 h6 hm ha m 0 (by omega)
    rw [show nI 0 = 0 from rfl, show tg sh ah a 0 = 0 from rfl] at e
    rw [if_neg hw, if_pos hw, e]
    simp only [qT_askingAfter_55, qT_askingAfter_84, jT_askingAfter_84, qT_askingAfter_86, jT_askingAfter_86, w0, w1, w2i, w2r, w3, w4, w5_0, w5_1, w5_2, w5_3, w5_4, w5_5, w5_6, w5_7, w5_8, w6_0, w6_1, w7_0, w7_1, w7_2, w7_3, w7_4, w7_5, w8_0, w8_1, w9_0, w9_1, w9_2, w10_0, w10_1, w10_2, w10_3, w10_4, w10_5, w11, w12_0, w12_1, w12_2, w12_3, w12_4, w12_5, w13_0, w13_1, w13_2, w13_3, w13_4, w13_5, w14, w15i, w15r, w16, w17, w18, w19i, w19z, w19l, w20, w21, w22, w23, w24, w25, w26, w27, w28_1, w28_2, w28_3, w28_4, w28_5, w28_6, w29, w30i, w30z, w31, w32, w33, w34, w35, w36, w37_1, w37_2, w37_3, w37_4, w37_5, w37_6, isO_O, set1_0, set1_1i, set1_1r, set1_1n, set1_1l, set1_s, set2_0, set2_1i, set2_1r, set2_1n, set2_1l, set2_s, ldv_i, ldv_l, ldv_r, ldv_s, ldi_i, ldi_s, fK_0, fK_s, gfc_O, fS_0, fS_s, uH_s, uH_n, uH_u, tl_s, tl_n, b1_0, b1_1, ite_true, ite_false, if_true, if_false, List.length_nil, List.length_cons, Nat.zero_le, Nat.zero_add, Nat.reduceAdd, Nat.reduceLeDiff, Nat.reduceLT, Nat.reduceEqDiff, Nat.reduceMul, Nat.add_left_cancel_iff, not_false_eq_true, h0, h1, h4, hw, rIc_n ha (show 8 < 2 ^ 31 by decide)]
    by_cases hk : ki a = 2
    · simp [hk]
    · simp [hk]
theorem T_passYear_loop {m : Nat} (hm : m ≤ 8) : ∀ (d i : Nat) (h : AH), i + d = m → h t = tO t (nI m) pu ye → h (t + 1) = aI 8 ki → h (t + 2) = aI 8 (yF sh ah ki ca m as i) → h (t + 4) = aI 8 ca → h (t + 5) = aI 64 sh → h (t + 6) = aI 8 ah → Wp none 38 qT_passYear_19 [some (.ref t), some (.int (yC sh ah ki ca m as i)), some (.int (nI i))] [] h Q = Q (some (.int (yC sh ah ki ca m as m))) (uH h (t + 2) (aI 8 (yF sh ah ki ca m as m))) := by
  intro d
  induction d with
  | zero =>
    intro i h hi h0 h1 h2 h4 h5 h6
    have e : i = m := by omega
    subst e
    have hc : nI i ≤ nI i := nI_le (Nat.le_refl i) (by omega)
    simp only [qT_passYear_19, qT_passYear_70, jT_passYear_70, w0, w1, w2i, w2r, w3, w4, w5_0, w5_1, w5_2, w5_3, w5_4, w5_5, w5_6, w5_7, w5_8, w6_0, w6_1, w7_0, w7_1, w7_2, w7_3, w7_4, w7_5, w8_0, w8_1, w9_0, w9_1, w9_2, w10_0, w10_1, w10_2, w10_3, w10_4, w10_5, w11, w12_0, w12_1, w12_2, w12_3, w12_4, w12_5, w13_0, w13_1, w13_2, w13_3, w13_4, w13_5, w14, w15i, w15r, w16, w17, w18, w19i, w19z, w19l, w20, w21, w22, w23, w24, w25, w26, w27, w28_1, w28_2, w28_3, w28_4, w28_5, w28_6, w29, w30i, w30z, w31, w32, w33, w34, w35, w36, w37_1, w37_2, w37_3, w37_4, w37_5, w37_6, isO_O, set1_0, set1_1i, set1_1r, set1_1n, set1_1l, set1_s, set2_0, set2_1i, set2_1r, set2_1n, set2_1l, set2_s, ldv_i, ldv_l, ldv_r, ldv_s, ldi_i, ldi_s, fK_0, fK_s, gfc_O, fS_0, fS_s, uH_s, uH_n, uH_u, tl_s, tl_n, b1_0, b1_1, ite_true, ite_false, if_true, if_false, List.length_nil, List.length_cons, Nat.zero_le, Nat.zero_add, Nat.reduceAdd, Nat.reduceLeDiff, Nat.reduceLT, Nat.reduceEqDiff, Nat.reduceMul, Nat.add_left_cancel_iff, not_false_eq_true, h0, hc]
    rw [uH_id h h2]
  | succ d ih =>
    intro i h hi h0 h1 h2 h4 h5 h6
    have hc : ¬ nI m ≤ nI i := nI_ge (by omega) (by omega)
    have i8 : i < 8 := by omega
    rw [qT_passYear_19]
    simp only [qT_passYear_46, jT_passYear_46, qT_passYear_64, jT_passYear_64, w0, w1, w2i, w2r, w3, w4, w5_0, w5_1, w5_2, w5_3, w5_4, w5_5, w5_6, w5_7, w5_8, w6_0, w6_1, w7_0, w7_1, w7_2, w7_3, w7_4, w7_5, w8_0, w8_1, w9_0, w9_1, w9_2, w10_0, w10_1, w10_2, w10_3, w10_4, w10_5, w11, w12_0, w12_1, w12_2, w12_3, w12_4, w12_5, w13_0, w13_1, w13_2, w13_3, w13_4, w13_5, w14, w15i, w15r, w16, w17, w18, w19i, w19z, w19l, w20, w21, w22, w23, w24, w25, w26, w27, w28_1, w28_2, w28_3, w28_4, w28_5, w28_6, w29, w30i, w30z, w31, w32, w33, w34, w35, w36, w37_1, w37_2, w37_3, w37_4, w37_5, w37_6, isO_O, set1_0, set1_1i, set1_1r, set1_1n, set1_1l, set1_s, set2_0, set2_1i, set2_1r, set2_1n, set2_1l, set2_s, ldv_i, ldv_l, ldv_r, ldv_s, ldi_i, ldi_s, fK_0, fK_s, gfc_O, fS_0, fS_s, uH_s, uH_n, uH_u, tl_s, tl_n, b1_0, b1_1, ite_true, ite_false, if_true, if_false, List.length_nil, List.length_cons, Nat.zero_le, Nat.zero_add, Nat.reduceAdd, Nat.reduceLeDiff, Nat.reduceLT, Nat.reduceEqDiff, Nat.reduceMul, Nat.add_left_cancel_iff, not_false_eq_true, h0, h2, h6, hc, jT_passYear_19, tnl, T_isFixed h0 h1 i8, T_askingAfter h0 h1 h4 h5 h6 hm i8, z01, ne_eq, Classical.not_not, rIc_n i8 (show 8 < 2 ^ 31 by decide), wIc_n i8 (show 8 < 2 ^ 31 by decide), nI_1]
    by_cases hf : ki i = 1 ∨ ki i = 3
    · have e1 : yF sh ah ki ca m as (i + 1) = yF sh ah ki ca m as i := by rw [yF, if_pos hf]
      rw [if_pos hf]
      by_cases hq : yF sh ah ki ca m as i i = ah i
      · have e2 : yC sh ah ki ca m as (i + 1) = yC sh ah ki ca m as i := by rw [yC, e1, if_pos hq]
        rw [if_pos hq]
        have ih := ih (i + 1) h (by omega) h0 h1 (by rw [e1]; exact h2) h4 h5 h6
        rw [e2] at ih
        exact ih
      · have e2 : yC sh ah ki ca m as (i + 1) = yC sh ah ki ca m as i + 1 := by rw [yC, e1, if_neg hq]
        rw [if_neg hq]
        have ih := ih (i + 1) h (by omega) h0 h1 (by rw [e1]; exact h2) h4 h5 h6
        rw [e2] at ih
        exact ih
    · have e1 : yF sh ah ki ca m as (i + 1) = upd (yF sh ah ki ca m as i) i (aft sh ah ki ca m i) := by rw [yF, if_neg hf]
      rw [if_neg hf]
      have hfa : ∀ c, uH (uH h (t + 2) (aI 8 (upd (yF sh ah ki ca m as i) i (aft sh ah ki ca m i)))) (t + 2) c = uH h (t + 2) c := fun c => uH_u _ _ _ _
      have ih := ih (i + 1) (uH h (t + 2) (aI 8 (upd (yF sh ah ki ca m as i) i (aft sh ah ki ca m i)))) (by omega) (by rw [uH_n _ _ (by omega)]; exact h0) (by rw [uH_n _ _ (by omega)]; exact h1) (by rw [uH_s, e1]) (by rw [uH_n _ _ (by omega)]; exact h4) (by rw [uH_n _ _ (by omega)]; exact h5) (by rw [uH_n _ _ (by omega)]; exact h6)
      rw [hfa] at ih
      by_cases hq : upd (yF sh ah ki ca m as i) i (aft sh ah ki ca m i) i = ah i
      · have e2 : yC sh ah ki ca m as (i + 1) = yC sh ah ki ca m as i := by rw [yC, e1, if_pos hq]
        rw [if_pos hq]
        rw [e2] at ih
        exact ih
      · have e2 : yC sh ah ki ca m as (i + 1) = yC sh ah ki ca m as i + 1 := by rw [yC, e1, if_neg hq]
        rw [if_neg hq]
        rw [e2] at ih
        exact ih
theorem T_passYear {m : Nat} (h0 : h t = tO t (nI m) pu ye) (h1 : h (t + 1) = aI 8 ki) (h2 : h (t + 2) = aI 8 as) (h4 : h (t + 4) = aI 8 ca) (h5 : h (t + 5) = aI 64 sh) (h6 : h (t + 6) = aI 8 ah) (hm : m ≤ 8) : WpM 38 [.ref t] h Q = Q (some (.int (yC sh (va_cpy as ah 0 0 8) ki ca m as m))) (uH (uH h (t + 6) (aI 8 (va_cpy as ah 0 0 8))) (t + 2) (aI 8 (yF sh (va_cpy as ah 0 0 8) ki ca m as m))) := by
  rw [eT_passYear]
  simp only [qT_passYear_0, w0, w1, w2i, w2r, w3, w4, w5_0, w5_1, w5_2, w5_3, w5_4, w5_5, w5_6, w5_7, w5_8, w6_0, w6_1, w7_0, w7_1, w7_2, w7_3, w7_4, w7_5, w8_0, w8_1, w9_0, w9_1, w9_2, w10_0, w10_1, w10_2, w10_3, w10_4, w10_5, w11, w12_0, w12_1, w12_2, w12_3, w12_4, w12_5, w13_0, w13_1, w13_2, w13_3, w13_4, w13_5, w14, w15i, w15r, w16, w17, w18, w19i, w19z, w19l, w20, w21, w22, w23, w24, w25, w26, w27, w28_1, w28_2, w28_3, w28_4, w28_5, w28_6, w29, w30i, w30z, w31, w32, w33, w34, w35, w36, w37_1, w37_2, w37_3, w37_4, w37_5, w37_6, isO_O, set1_0, set1_1i, set1_1r, set1_1n, set1_1l, set1_s, set2_0, set2_1i, set2_1r, set2_1n, set2_1l, set2_s, ldv_i, ldv_l, ldv_r, ldv_s, ldi_i, ldi_s, fK_0, fK_s, gfc_O, fS_0, fS_s, uH_s, uH_n, uH_u, tl_s, tl_n, b1_0, b1_1, ite_true, ite_false, if_true, if_false, List.length_nil, List.length_cons, Nat.zero_le, Nat.zero_add, Nat.reduceAdd, Nat.reduceLeDiff, Nat.reduceLT, Nat.reduceEqDiff, Nat.reduceMul, Nat.add_left_cancel_iff, not_false_eq_true, h0, h2, h6, cp8]
  exact T_passYear_loop (as := as) (ah := va_cpy as ah 0 0 8) hm m 0 _ (by omega) (by rw [uH_n _ _ (by omega)]; exact h0) (by rw [uH_n _ _ (by omega)]; exact h1) (by rw [uH_n _ _ (by omega)]; exact h2) (by rw [uH_n _ _ (by omega)]; exact h4) (by rw [uH_n _ _ (by omega)]; exact h5) (by rw [uH_s])
theorem nI_z {m : Nat} (hm : m < 2 ^ 31) : (nI m = 0) = (m = 0) := propext (by rw [show (0 : Int32) = nI 0 from rfl]; exact nI_eq hm (by decide))
theorem T_reached_in {m set last : Nat} {st : Int32} (bes : Nat → Nat) (adj : Nat → Nat → Bool) (hadj : ∀ a b, a < 8 → b < 8 → (adj a b = true ↔ ¬ sh (8 * a + b) ≤ 0)) (hbes : ∀ a, bes a = enc (adj a) m) (hl : last < 256) (h0 : h t = tO t (nI m) pu ye) (h5 : h (t + 5) = aI 64 sh) (hm : m ≤ 8) : ∀ (d i : Nat), i + d = m → Wp none 36 qT_reachedSet_27 [some (.ref t), some (.int (nI set)), some (.int (nI last)), some (.int st), some (.int (nI (bI bes last i))), some (.int (nI i))] [] h Q = Wp none 36 qT_reachedSet_62 [some (.ref t), some (.int (nI set)), some (.int (nI last)), some (.int st), some (.int (nI (bI bes last m))), some (.int (nI m))] [] h Q := by
  intro d
  induction d with
  | zero =>
    intro i hi
    have e : i = m := by omega
    subst e
    have hc : nI i ≤ nI i := nI_le (Nat.le_refl i) (by omega)
    rw [qT_reachedSet_27]
    simp only [jT_reachedSet_62, w0, w1, w2i, w2r, w3, w4, w5_0, w5_1, w5_2, w5_3, w5_4, w5_5, w5_6, w5_7, w5_8, w6_0, w6_1, w7_0, w7_1, w7_2, w7_3, w7_4, w7_5, w8_0, w8_1, w9_0, w9_1, w9_2, w10_0, w10_1, w10_2, w10_3, w10_4, w10_5, w11, w12_0, w12_1, w12_2, w12_3, w12_4, w12_5, w13_0, w13_1, w13_2, w13_3, w13_4, w13_5, w14, w15i, w15r, w16, w17, w18, w19i, w19z, w19l, w20, w21, w22, w23, w24, w25, w26, w27, w28_1, w28_2, w28_3, w28_4, w28_5, w28_6, w29, w30i, w30z, w31, w32, w33, w34, w35, w36, w37_1, w37_2, w37_3, w37_4, w37_5, w37_6, isO_O, set1_0, set1_1i, set1_1r, set1_1n, set1_1l, set1_s, set2_0, set2_1i, set2_1r, set2_1n, set2_1l, set2_s, ldv_i, ldv_l, ldv_r, ldv_s, ldi_i, ldi_s, fK_0, fK_s, gfc_O, fS_0, fS_s, uH_s, uH_n, uH_u, tl_s, tl_n, b1_0, b1_1, ite_true, ite_false, if_true, if_false, List.length_nil, List.length_cons, Nat.zero_le, Nat.zero_add, Nat.reduceAdd, Nat.reduceLeDiff, Nat.reduceLT, Nat.reduceEqDiff, Nat.reduceMul, Nat.add_left_cancel_iff, not_false_eq_true, h0, hc]
  | succ d ih =>
    intro i hi
    have hc : ¬ nI m ≤ nI i := nI_ge (by omega) (by omega)
    have i8 : i < 8 := by omega
    rw [qT_reachedSet_27]
    simp only [qT_reachedSet_56, jT_reachedSet_56, jT_reachedSet_27, w0, w1, w2i, w2r, w3, w4, w5_0, w5_1, w5_2, w5_3, w5_4, w5_5, w5_6, w5_7, w5_8, w6_0, w6_1, w7_0, w7_1, w7_2, w7_3, w7_4, w7_5, w8_0, w8_1, w9_0, w9_1, w9_2, w10_0, w10_1, w10_2, w10_3, w10_4, w10_5, w11, w12_0, w12_1, w12_2, w12_3, w12_4, w12_5, w13_0, w13_1, w13_2, w13_3, w13_4, w13_5, w14, w15i, w15r, w16, w17, w18, w19i, w19z, w19l, w20, w21, w22, w23, w24, w25, w26, w27, w28_1, w28_2, w28_3, w28_4, w28_5, w28_6, w29, w30i, w30z, w31, w32, w33, w34, w35, w36, w37_1, w37_2, w37_3, w37_4, w37_5, w37_6, isO_O, set1_0, set1_1i, set1_1r, set1_1n, set1_1l, set1_s, set2_0, set2_1i, set2_1r, set2_1n, set2_1l, set2_s, ldv_i, ldv_l, ldv_r, ldv_s, ldi_i, ldi_s, fK_0, fK_s, gfc_O, fS_0, fS_s, uH_s, uH_n, uH_u, tl_s, tl_n, b1_0, b1_1, ite_true, ite_false, if_true, if_false, List.length_nil, List.length_cons, Nat.zero_le, Nat.zero_add, Nat.reduceAdd, Nat.reduceLeDiff, Nat.reduceLT, Nat.reduceEqDiff, Nat.reduceMul, Nat.add_left_cancel_iff, not_false_eq_true, h0, hc, C_isIn, z01, bit1 (show last < 2 ^ 31 by omega) (show i < 31 by omega), T_besideSet (adj i) (fun b hb => hadj i b i8 hb) h0 h5 hm i8, ← hbes, fa_or, nI_1]
    have ih := ih (i + 1) (by omega)
    by_cases hb : last.testBit i = true
    · rw [if_neg (fun z => z hb)]
      have e : bI bes last (i + 1) = bI bes last i ||| bes i := by rw [bI, if_pos hb]
      rw [e] at ih
      exact ih
    · rw [if_pos hb]
      have e : bI bes last (i + 1) = bI bes last i := by rw [bI, if_neg hb]
      rw [e] at ih
      exact ih
theorem T_reached_out {m : Nat} (bes : Nat → Nat) (adj : Nat → Nat → Bool) (hadj : ∀ a b, a < 8 → b < 8 → (adj a b = true ↔ ¬ sh (8 * a + b) ≤ 0)) (hbes : ∀ a, bes a = enc (adj a) m) (h0 : h t = tO t (nI m) pu ye) (h5 : h (t + 5) = aI 64 sh) (hm : m ≤ 8) : ∀ (d s set last : Nat) (x y : Option Value), s + d = m → set < 256 → last < 256 → Wp none 36 qT_reachedSet_9 [some (.ref t), some (.int (nI set)), some (.int (nI last)), some (.int (nI s)), x, y] [] h Q = Q (some (.int (nI (rS bes m d set last)))) h := by
  have hb8 : ∀ a, bes a < 2 ^ 8 := fun a => by
    rw [hbes]
    exact Nat.lt_of_lt_of_le (enc_lt _ m) (Nat.pow_le_pow_right (by decide) hm)
  intro d
  induction d with
  | zero =>
    intro s set last x y hs h1 h2
    have e : s = m := by omega
    subst e
    have hc : nI s ≤ nI s := nI_le (Nat.le_refl s) (by omega)
    simp only [qT_reachedSet_9, qT_reachedSet_79, jT_reachedSet_79, w0, w1, w2i, w2r, w3, w4, w5_0, w5_1, w5_2, w5_3, w5_4, w5_5, w5_6, w5_7, w5_8, w6_0, w6_1, w7_0, w7_1, w7_2, w7_3, w7_4, w7_5, w8_0, w8_1, w9_0, w9_1, w9_2, w10_0, w10_1, w10_2, w10_3, w10_4, w10_5, w11, w12_0, w12_1, w12_2, w12_3, w12_4, w12_5, w13_0, w13_1, w13_2, w13_3, w13_4, w13_5, w14, w15i, w15r, w16, w17, w18, w19i, w19z, w19l, w20, w21, w22, w23, w24, w25, w26, w27, w28_1, w28_2, w28_3, w28_4, w28_5, w28_6, w29, w30i, w30z, w31, w32, w33, w34, w35, w36, w37_1, w37_2, w37_3, w37_4, w37_5, w37_6, isO_O, set1_0, set1_1i, set1_1r, set1_1n, set1_1l, set1_s, set2_0, set2_1i, set2_1r, set2_1n, set2_1l, set2_s, ldv_i, ldv_l, ldv_r, ldv_s, ldi_i, ldi_s, fK_0, fK_s, gfc_O, fS_0, fS_s, uH_s, uH_n, uH_u, tl_s, tl_n, b1_0, b1_1, ite_true, ite_false, if_true, if_false, List.length_nil, List.length_cons, Nat.zero_le, Nat.zero_add, Nat.reduceAdd, Nat.reduceLeDiff, Nat.reduceLT, Nat.reduceEqDiff, Nat.reduceMul, Nat.add_left_cancel_iff, not_false_eq_true, h0, hc, rS]
  | succ d ih =>
    intro s set last x y hs h1 h2
    have hc : ¬ nI m ≤ nI s := nI_ge (by omega) (by omega)
    rw [qT_reachedSet_9]
    simp only [qT_reachedSet_79, jT_reachedSet_79, w0, w1, w2i, w2r, w3, w4, w5_0, w5_1, w5_2, w5_3, w5_4, w5_5, w5_6, w5_7, w5_8, w6_0, w6_1, w7_0, w7_1, w7_2, w7_3, w7_4, w7_5, w8_0, w8_1, w9_0, w9_1, w9_2, w10_0, w10_1, w10_2, w10_3, w10_4, w10_5, w11, w12_0, w12_1, w12_2, w12_3, w12_4, w12_5, w13_0, w13_1, w13_2, w13_3, w13_4, w13_5, w14, w15i, w15r, w16, w17, w18, w19i, w19z, w19l, w20, w21, w22, w23, w24, w25, w26, w27, w28_1, w28_2, w28_3, w28_4, w28_5, w28_6, w29, w30i, w30z, w31, w32, w33, w34, w35, w36, w37_1, w37_2, w37_3, w37_4, w37_5, w37_6, isO_O, set1_0, set1_1i, set1_1r, set1_1n, set1_1l, set1_s, set2_0, set2_1i, set2_1r, set2_1n, set2_1l, set2_s, ldv_i, ldv_l, ldv_r, ldv_s, ldi_i, ldi_s, fK_0, fK_s, gfc_O, fS_0, fS_s, uH_s, uH_n, uH_u, tl_s, tl_n, b1_0, b1_1, ite_true, ite_false, if_true, if_false, List.length_nil, List.length_cons, Nat.zero_le, Nat.zero_add, Nat.reduceAdd, Nat.reduceLeDiff, Nat.reduceLT, Nat.reduceEqDiff, Nat.reduceMul, Nat.add_left_cancel_iff, not_false_eq_true, h0, hc, nI_z (show last < 2 ^ 31 by omega)]
    by_cases hz : last = 0
    · rw [if_pos hz]
      simp only [rS, hz, if_true]
    · rw [if_neg hz]
      have e := T_reached_in (Q := Q) (set := set) (st := nI s) bes adj hadj hbes h2 h0 h5 hm m 0 (by omega)
      rw [show nI 0 = 0 from rfl, show nI (bI bes last 0) = 0 from rfl] at e
      rw [e]
      simp only [qT_reachedSet_62, jT_reachedSet_9, w0, w1, w2i, w2r, w3, w4, w5_0, w5_1, w5_2, w5_3, w5_4, w5_5, w5_6, w5_7, w5_8, w6_0, w6_1, w7_0, w7_1, w7_2, w7_3, w7_4, w7_5, w8_0, w8_1, w9_0, w9_1, w9_2, w10_0, w10_1, w10_2, w10_3, w10_4, w10_5, w11, w12_0, w12_1, w12_2, w12_3, w12_4, w12_5, w13_0, w13_1, w13_2, w13_3, w13_4, w13_5, w14, w15i, w15r, w16, w17, w18, w19i, w19z, w19l, w20, w21, w22, w23, w24, w25, w26, w27, w28_1, w28_2, w28_3, w28_4, w28_5, w28_6, w29, w30i, w30z, w31, w32, w33, w34, w35, w36, w37_1, w37_2, w37_3, w37_4, w37_5, w37_6, isO_O, set1_0, set1_1i, set1_1r, set1_1n, set1_1l, set1_s, set2_0, set2_1i, set2_1r, set2_1n, set2_1l, set2_s, ldv_i, ldv_l, ldv_r, ldv_s, ldi_i, ldi_s, fK_0, fK_s, gfc_O, fS_0, fS_s, uH_s, uH_n, uH_u, tl_s, tl_n, b1_0, b1_1, ite_true, ite_false, if_true, if_false, List.length_nil, List.length_cons, Nat.zero_le, Nat.zero_add, Nat.reduceAdd, Nat.reduceLeDiff, Nat.reduceLT, Nat.reduceEqDiff, Nat.reduceMul, Nat.add_left_cancel_iff, not_false_eq_true, nI_andn, fa_or, nI_1]
      have hx : andn (bI bes last m) set < 2 ^ 8 := andn_lt (bI_lt hb8 m)
      rw [ih (s + 1) _ _ _ _ (by omega) (Nat.or_lt_two_pow (n := 8) h1 hx) hx]
      simp only [rS, hz, if_false]
theorem T_reachedSet {m : Nat} (p : Nat → Bool) (hp : ∀ a, a < 8 → (p a = true ↔ (ki a = 1 ∨ ki a = 3))) (bes : Nat → Nat) (adj : Nat → Nat → Bool) (hadj : ∀ a b, a < 8 → b < 8 → (adj a b = true ↔ ¬ sh (8 * a + b) ≤ 0)) (hbes : ∀ a, bes a = enc (adj a) m) (h0 : h t = tO t (nI m) pu ye) (h1 : h (t + 1) = aI 8 ki) (h5 : h (t + 5) = aI 64 sh) (hm : m ≤ 8) : WpM 36 [.ref t] h Q = Q (some (.int (nI (rS bes m m (enc p m) (enc p m))))) h := by
  rw [eT_reachedSet]
  simp only [qT_reachedSet_0, w0, w1, w2i, w2r, w3, w4, w5_0, w5_1, w5_2, w5_3, w5_4, w5_5, w5_6, w5_7, w5_8, w6_0, w6_1, w7_0, w7_1, w7_2, w7_3, w7_4, w7_5, w8_0, w8_1, w9_0, w9_1, w9_2, w10_0, w10_1, w10_2, w10_3, w10_4, w10_5, w11, w12_0, w12_1, w12_2, w12_3, w12_4, w12_5, w13_0, w13_1, w13_2, w13_3, w13_4, w13_5, w14, w15i, w15r, w16, w17, w18, w19i, w19z, w19l, w20, w21, w22, w23, w24, w25, w26, w27, w28_1, w28_2, w28_3, w28_4, w28_5, w28_6, w29, w30i, w30z, w31, w32, w33, w34, w35, w36, w37_1, w37_2, w37_3, w37_4, w37_5, w37_6, isO_O, set1_0, set1_1i, set1_1r, set1_1n, set1_1l, set1_s, set2_0, set2_1i, set2_1r, set2_1n, set2_1l, set2_s, ldv_i, ldv_l, ldv_r, ldv_s, ldi_i, ldi_s, fK_0, fK_s, gfc_O, fS_0, fS_s, uH_s, uH_n, uH_u, tl_s, tl_n, b1_0, b1_1, ite_true, ite_false, if_true, if_false, List.length_nil, List.length_cons, Nat.zero_le, Nat.zero_add, Nat.reduceAdd, Nat.reduceLeDiff, Nat.reduceLT, Nat.reduceEqDiff, Nat.reduceMul, Nat.add_left_cancel_iff, not_false_eq_true, h0, T_fixedSet p hp h0 h1 hm]
  have hx : enc p m < 256 := Nat.lt_of_lt_of_le (enc_lt p m) (Nat.pow_le_pow_right (show 0 < 2 by decide) hm)
  exact T_reached_out bes adj hadj hbes h0 h5 hm m 0 _ _ _ _ (by omega) hx hx
end TOWN2
theorem T_takeFrom_15_1 {h : AH} {Q : Option Value → AH → Prop} {n pu ye n' pu' ye' : Int32} {ki as ow ca sh ki' as' ow' ca' sh' : Nat → Int32} (h15 : h 15 = tO 15 n pu ye) (h1 : h 1 = tO 1 n' pu' ye') (h16 : h 16 = aI 8 ki) (h2 : h 2 = aI 8 ki') (h17 : h 17 = aI 8 as) (h3 : h 3 = aI 8 as') (h18 : h 18 = aI 8 ow) (h4 : h 4 = aI 8 ow') (h19 : h 19 = aI 8 ca) (h5 : h 5 = aI 8 ca') (h20 : h 20 = aI 64 sh) (h6 : h 6 = aI 64 sh') : WpM 40 [.ref 15, .ref 1] h Q = Q none (uH (uH (uH (uH (uH (uH h 15 (tO 15 n' pu' ye')) 16 (aI 8 (va_cpy ki' ki 0 0 8))) 17 (aI 8 (va_cpy as' as 0 0 8))) 18 (aI 8 (va_cpy ow' ow 0 0 8))) 19 (aI 8 (va_cpy ca' ca 0 0 8))) 20 (aI 64 (va_cpy sh' sh 0 0 64))) := by
  rw [eT_takeFrom]
  simp only [qT_takeFrom_0, jT_takeFrom_0, w0, w1, w2i, w2r, w3, w4, w5_0, w5_1, w5_2, w5_3, w5_4, w5_5, w5_6, w5_7, w5_8, w6_0, w6_1, w7_0, w7_1, w7_2, w7_3, w7_4, w7_5, w8_0, w8_1, w9_0, w9_1, w9_2, w10_0, w10_1, w10_2, w10_3, w10_4, w10_5, w11, w12_0, w12_1, w12_2, w12_3, w12_4, w12_5, w13_0, w13_1, w13_2, w13_3, w13_4, w13_5, w14, w15i, w15r, w16, w17, w18, w19i, w19z, w19l, w20, w21, w22, w23, w24, w25, w26, w27, w28_1, w28_2, w28_3, w28_4, w28_5, w28_6, w29, w30i, w30z, w31, w32, w33, w34, w35, w36, w37_1, w37_2, w37_3, w37_4, w37_5, w37_6, isO_O, set1_0, set1_1i, set1_1r, set1_1n, set1_1l, set1_s, set2_0, set2_1i, set2_1r, set2_1n, set2_1l, set2_s, ldv_i, ldv_l, ldv_r, ldv_s, ldi_i, ldi_s, fK_0, fK_s, gfc_O, fS_0, fS_s, uH_s, uH_n, uH_u, tl_s, tl_n, b1_0, b1_1, ite_true, ite_false, if_true, if_false, List.length_nil, List.length_cons, Nat.zero_le, Nat.zero_add, Nat.reduceAdd, Nat.reduceLeDiff, Nat.reduceLT, Nat.reduceEqDiff, Nat.reduceMul, Nat.add_left_cancel_iff, not_false_eq_true, h15, h1, h16, h17, h18, h19, h20, h2, h3, h4, h5, h6, pfc_3, cp8, cp64]
theorem T_takeFrom_1_15 {h : AH} {Q : Option Value → AH → Prop} {n pu ye n' pu' ye' : Int32} {ki as ow ca sh ki' as' ow' ca' sh' : Nat → Int32} (h1 : h 1 = tO 1 n pu ye) (h15 : h 15 = tO 15 n' pu' ye') (h2 : h 2 = aI 8 ki) (h16 : h 16 = aI 8 ki') (h3 : h 3 = aI 8 as) (h17 : h 17 = aI 8 as') (h4 : h 4 = aI 8 ow) (h18 : h 18 = aI 8 ow') (h5 : h 5 = aI 8 ca) (h19 : h 19 = aI 8 ca') (h6 : h 6 = aI 64 sh) (h20 : h 20 = aI 64 sh') : WpM 40 [.ref 1, .ref 15] h Q = Q none (uH (uH (uH (uH (uH (uH h 1 (tO 1 n' pu' ye')) 2 (aI 8 (va_cpy ki' ki 0 0 8))) 3 (aI 8 (va_cpy as' as 0 0 8))) 4 (aI 8 (va_cpy ow' ow 0 0 8))) 5 (aI 8 (va_cpy ca' ca 0 0 8))) 6 (aI 64 (va_cpy sh' sh 0 0 64))) := by
  rw [eT_takeFrom]
  simp only [qT_takeFrom_0, jT_takeFrom_0, w0, w1, w2i, w2r, w3, w4, w5_0, w5_1, w5_2, w5_3, w5_4, w5_5, w5_6, w5_7, w5_8, w6_0, w6_1, w7_0, w7_1, w7_2, w7_3, w7_4, w7_5, w8_0, w8_1, w9_0, w9_1, w9_2, w10_0, w10_1, w10_2, w10_3, w10_4, w10_5, w11, w12_0, w12_1, w12_2, w12_3, w12_4, w12_5, w13_0, w13_1, w13_2, w13_3, w13_4, w13_5, w14, w15i, w15r, w16, w17, w18, w19i, w19z, w19l, w20, w21, w22, w23, w24, w25, w26, w27, w28_1, w28_2, w28_3, w28_4, w28_5, w28_6, w29, w30i, w30z, w31, w32, w33, w34, w35, w36, w37_1, w37_2, w37_3, w37_4, w37_5, w37_6, isO_O, set1_0, set1_1i, set1_1r, set1_1n, set1_1l, set1_s, set2_0, set2_1i, set2_1r, set2_1n, set2_1l, set2_s, ldv_i, ldv_l, ldv_r, ldv_s, ldi_i, ldi_s, fK_0, fK_s, gfc_O, fS_0, fS_s, uH_s, uH_n, uH_u, tl_s, tl_n, b1_0, b1_1, ite_true, ite_false, if_true, if_false, List.length_nil, List.length_cons, Nat.zero_le, Nat.zero_add, Nat.reduceAdd, Nat.reduceLeDiff, Nat.reduceLT, Nat.reduceEqDiff, Nat.reduceMul, Nat.add_left_cancel_iff, not_false_eq_true, h1, h15, h2, h3, h4, h5, h6, h16, h17, h18, h19, h20, pfc_3, cp8, cp64]
theorem T_takeFrom_8_1 {h : AH} {Q : Option Value → AH → Prop} {n pu ye n' pu' ye' : Int32} {ki as ow ca sh ki' as' ow' ca' sh' : Nat → Int32} (h8 : h 8 = tO 8 n pu ye) (h1 : h 1 = tO 1 n' pu' ye') (h9 : h 9 = aI 8 ki) (h2 : h 2 = aI 8 ki') (h10 : h 10 = aI 8 as) (h3 : h 3 = aI 8 as') (h11 : h 11 = aI 8 ow) (h4 : h 4 = aI 8 ow') (h12 : h 12 = aI 8 ca) (h5 : h 5 = aI 8 ca') (h13 : h 13 = aI 64 sh) (h6 : h 6 = aI 64 sh') : WpM 40 [.ref 8, .ref 1] h Q = Q none (uH (uH (uH (uH (uH (uH h 8 (tO 8 n' pu' ye')) 9 (aI 8 (va_cpy ki' ki 0 0 8))) 10 (aI 8 (va_cpy as' as 0 0 8))) 11 (aI 8 (va_cpy ow' ow 0 0 8))) 12 (aI 8 (va_cpy ca' ca 0 0 8))) 13 (aI 64 (va_cpy sh' sh 0 0 64))) := by
  rw [eT_takeFrom]
  simp only [qT_takeFrom_0, jT_takeFrom_0, w0, w1, w2i, w2r, w3, w4, w5_0, w5_1, w5_2, w5_3, w5_4, w5_5, w5_6, w5_7, w5_8, w6_0, w6_1, w7_0, w7_1, w7_2, w7_3, w7_4, w7_5, w8_0, w8_1, w9_0, w9_1, w9_2, w10_0, w10_1, w10_2, w10_3, w10_4, w10_5, w11, w12_0, w12_1, w12_2, w12_3, w12_4, w12_5, w13_0, w13_1, w13_2, w13_3, w13_4, w13_5, w14, w15i, w15r, w16, w17, w18, w19i, w19z, w19l, w20, w21, w22, w23, w24, w25, w26, w27, w28_1, w28_2, w28_3, w28_4, w28_5, w28_6, w29, w30i, w30z, w31, w32, w33, w34, w35, w36, w37_1, w37_2, w37_3, w37_4, w37_5, w37_6, isO_O, set1_0, set1_1i, set1_1r, set1_1n, set1_1l, set1_s, set2_0, set2_1i, set2_1r, set2_1n, set2_1l, set2_s, ldv_i, ldv_l, ldv_r, ldv_s, ldi_i, ldi_s, fK_0, fK_s, gfc_O, fS_0, fS_s, uH_s, uH_n, uH_u, tl_s, tl_n, b1_0, b1_1, ite_true, ite_false, if_true, if_false, List.length_nil, List.length_cons, Nat.zero_le, Nat.zero_add, Nat.reduceAdd, Nat.reduceLeDiff, Nat.reduceLT, Nat.reduceEqDiff, Nat.reduceMul, Nat.add_left_cancel_iff, not_false_eq_true, h8, h1, h9, h10, h11, h12, h13, h2, h3, h4, h5, h6, pfc_3, cp8, cp64]
theorem T_takeFrom_1_8 {h : AH} {Q : Option Value → AH → Prop} {n pu ye n' pu' ye' : Int32} {ki as ow ca sh ki' as' ow' ca' sh' : Nat → Int32} (h1 : h 1 = tO 1 n pu ye) (h8 : h 8 = tO 8 n' pu' ye') (h2 : h 2 = aI 8 ki) (h9 : h 9 = aI 8 ki') (h3 : h 3 = aI 8 as) (h10 : h 10 = aI 8 as') (h4 : h 4 = aI 8 ow) (h11 : h 11 = aI 8 ow') (h5 : h 5 = aI 8 ca) (h12 : h 12 = aI 8 ca') (h6 : h 6 = aI 64 sh) (h13 : h 13 = aI 64 sh') : WpM 40 [.ref 1, .ref 8] h Q = Q none (uH (uH (uH (uH (uH (uH h 1 (tO 1 n' pu' ye')) 2 (aI 8 (va_cpy ki' ki 0 0 8))) 3 (aI 8 (va_cpy as' as 0 0 8))) 4 (aI 8 (va_cpy ow' ow 0 0 8))) 5 (aI 8 (va_cpy ca' ca 0 0 8))) 6 (aI 64 (va_cpy sh' sh 0 0 64))) := by
  rw [eT_takeFrom]
  simp only [qT_takeFrom_0, jT_takeFrom_0, w0, w1, w2i, w2r, w3, w4, w5_0, w5_1, w5_2, w5_3, w5_4, w5_5, w5_6, w5_7, w5_8, w6_0, w6_1, w7_0, w7_1, w7_2, w7_3, w7_4, w7_5, w8_0, w8_1, w9_0, w9_1, w9_2, w10_0, w10_1, w10_2, w10_3, w10_4, w10_5, w11, w12_0, w12_1, w12_2, w12_3, w12_4, w12_5, w13_0, w13_1, w13_2, w13_3, w13_4, w13_5, w14, w15i, w15r, w16, w17, w18, w19i, w19z, w19l, w20, w21, w22, w23, w24, w25, w26, w27, w28_1, w28_2, w28_3, w28_4, w28_5, w28_6, w29, w30i, w30z, w31, w32, w33, w34, w35, w36, w37_1, w37_2, w37_3, w37_4, w37_5, w37_6, isO_O, set1_0, set1_1i, set1_1r, set1_1n, set1_1l, set1_s, set2_0, set2_1i, set2_1r, set2_1n, set2_1l, set2_s, ldv_i, ldv_l, ldv_r, ldv_s, ldi_i, ldi_s, fK_0, fK_s, gfc_O, fS_0, fS_s, uH_s, uH_n, uH_u, tl_s, tl_n, b1_0, b1_1, ite_true, ite_false, if_true, if_false, List.length_nil, List.length_cons, Nat.zero_le, Nat.zero_add, Nat.reduceAdd, Nat.reduceLeDiff, Nat.reduceLT, Nat.reduceEqDiff, Nat.reduceMul, Nat.add_left_cancel_iff, not_false_eq_true, h1, h8, h2, h3, h4, h5, h6, h9, h10, h11, h12, h13, pfc_3, cp8, cp64]
end
section
/-! Rents -/
def fxB (ki : Nat → Int32) (a : Nat) : Bool := decide (ki a = 1 ∨ ki a = 3)
def adB (sh : Nat → Int32) (a b : Nat) : Bool := decide (¬ sh (8 * a + b) ≤ 0)
def bsF (sh : Nat → Int32) (m a : Nat) : Nat := enc (adB sh a) m
def fxN (ki : Nat → Int32) (m : Nat) : Nat := enc (fxB ki) m
def rcF (ki sh : Nat → Int32) (m : Nat) : Nat := rS (bsF sh m) m m (fxN ki m) (fxN ki m)
theorem fxN_lt (ki : Nat → Int32) {m : Nat} (hm : m ≤ 8) : fxN ki m < 256 := Nat.lt_of_lt_of_le (enc_lt _ m) (Nat.pow_le_pow_right (show 0 < 2 by decide) hm)
theorem bsF_lt (sh : Nat → Int32) {m : Nat} (hm : m ≤ 8) (a : Nat) : bsF sh m a < 2 ^ 8 := Nat.lt_of_lt_of_le (enc_lt _ m) (Nat.pow_le_pow_right (show 0 < 2 by decide) hm)
theorem rS_lt {bes : Nat → Nat} {n : Nat} (hb : ∀ a, bes a < 2 ^ 8) : ∀ (d set last : Nat), set < 2 ^ 8 → rS bes n d set last < 2 ^ 8
  | 0, _, _, h => h
  | d + 1, set, last, h => by
    unfold rS
    split
    · exact h
    · exact rS_lt hb d _ _ (Nat.or_lt_two_pow h (andn_lt (bI_lt hb n)))
theorem rcF_lt (ki sh : Nat → Int32) {m : Nat} (hm : m ≤ 8) : rcF ki sh m < 256 := rS_lt (bsF_lt sh hm) m _ _ (fxN_lt ki hm)
abbrev rO (be : Int64) (re op sz : Int32) : AC := aO 0 [.ref 23, .long be, .int re, .int op, .int sz, .ref 24, .ref 25]
theorem pfc_0 {k : Nat} {v0 v1 v2 v3 v4 v5 v6 w : Value} {K : AC → Prop} (hk : k < 7) : pfc (aO 0 [v0, v1, v2, v3, v4, v5, v6]) 0 k w K = K (aO 0 (fS w [v0, v1, v2, v3, v4, v5, v6] k)) := pfc_O hk
theorem n9 (a : Nat) : (9 : Int32) * nI a = nI (9 * a) := by rw [show (9 : Int32) = nI 9 from rfl, pk_mul]
theorem n8p (a : Nat) : nI a + 8 = nI (a + 8) := by rw [show (8 : Int32) = nI 8 from rfl, nI_add]
def mvA (ro : Nat → Int64) (o : Nat) (be : Int64) (a f : Nat) : Int64 := if o.testBit a = true then -(ro (9 * a + f)) else if a = f then be else 0
def stA (ro : Nat → Int64) (o a : Nat) : Int64 := if o.testBit a = true then ro (9 * a + 8) else 0
def crF (ro : Nat → Int64) (a p : Nat) (d own oth : Int64) : Nat → Nat → Int64
  | 0 => ro
  | k + 1 => vp_updL (crF ro a p d own oth k) (9 * a + k) ((own * crF ro a p d own oth k (9 * a + k) - oth * crF ro a p d own oth k (9 * p + k)) / d)
def crA (ro : Nat → Int64) (a p : Nat) (d : Int64) : Nat → Int64 := if d = 0 then ro else crF ro a p d (ro (9 * p + p)) (ro (9 * a + p)) 9
def ciF (ro : Nat → Int64) (o k : Nat) (d : Int64) : Nat → Nat → Int64
  | 0 => ro
  | i + 1 => if i ≠ k ∧ o.testBit i = true then crA (ciF ro o k d i) i k d else ciF ro o k d i
def coF (ro : Nat → Int64) (o m : Nat) : Nat → (Nat → Int64) × Int64
  | 0 => (ro, 1)
  | k + 1 => if o.testBit k = true then (ciF (coF ro o m k).1 o k (coF ro o m k).2 m, ciF (coF ro o m k).1 o k (coF ro o m k).2 m (9 * k + k)) else coF ro o m k
def flI (ro : Nat → Int64) (sh : Nat → Int32) (a : Nat) : Nat → Nat → Int64
  | 0 => ro
  | k + 1 => vp_updL (flI ro sh a k) (9 * a + k) (-(sh (8 * a + k))).toInt64
def flO (ro : Nat → Int64) (sh : Nat → Int32) (o m : Nat) : Nat → Nat → Int64
  | 0 => ro
  | a + 1 => if o.testBit a = true then vp_updL (vp_updL (flI (flO ro sh o m a) sh a 8) (9 * a + a) (wt sh a m).toInt64) (9 * a + 8) (wt sh a m).toInt64 else flO ro sh o m a
def raF (ro : Nat → Int64) (r o : Nat) (be : Int64) (ak : Nat → Int32) (a : Nat) : Nat → Int64
  | 0 => 0
  | i + 1 => if (andn r o).testBit i = true then raF ro r o be ak a i + mvA ro o be a i * (ak i).toInt64 else raF ro r o be ak a i
def abF (ab ro : Nat → Int64) (r o : Nat) (be : Int64) (ak : Nat → Int32) (m : Nat) : Nat → Nat → Int64
  | 0 => ab
  | i + 1 => vp_updL (abF ab ro r o be ak m i) i (if r.testBit i = true then raF ro r o be ak i m else 0)
def rpF (ab ro : Nat → Int64) (r o : Nat) (be : Int64) (f : Nat) (more : Int32) : Nat → Nat → Int64
  | 0 => ab
  | i + 1 => if r.testBit i = true then vp_updL (rpF ab ro r o be f more i) i (rpF ab ro r o be f more i i + more.toInt64 * mvA ro o be i f) else rpF ab ro r o be f more i
def icF (ab : Nat → Int64) (r : Nat) (be : Int64) (ow : Nat → Int32) (pu w : Int32) : Nat → Int64
  | 0 => 0
  | i + 1 => if ow i = w ∧ r.testBit i = true ∧ ab i ≤ pu.toInt64 * be then icF ab r be ow pu w i + ab i else icF ab r be ow pu w i
/-- whether the first i are near -/
def anF (ab : Nat → Int64) (r : Nat) (be : Int64) (as : Nat → Int32) (pe : Int32) (i : Nat) : Prop := r.testBit i = true → (if 0 < (as i).toInt64 * be - ab i then (as i).toInt64 * be - ab i else -((as i).toInt64 * be - ab i)) ≤ pe.toInt64 * be
section RENTS
variable {h : AH} {Q : Option Value → AH → Prop} {t : Nat} {n pu ye : Int32} {ki as ow ca sh ah ak : Nat → Int32} {be : Int64} {re op sz : Int32} {ab ro : Nat → Int64} {r o m : Nat}
theorem R_reaches {i : Nat} (h22 : h 22 = rO be (nI r) op sz) (hr : r < 256) (hi : i < 8) : WpM 1 [.ref 22, .int (nI i)] h Q = Q (some (.int (if ¬ (r.testBit i = true) then 0 else 1))) h := by
  rw [eR_reaches]
  simp only [qR_reaches_0, jR_reaches_0, w0, w1, w2i, w2r, w3, w4, w5_0, w5_1, w5_2, w5_3, w5_4, w5_5, w5_6, w5_7, w5_8, w6_0, w6_1, w7_0, w7_1, w7_2, w7_3, w7_4, w7_5, w8_0, w8_1, w9_0, w9_1, w9_2, w10_0, w10_1, w10_2, w10_3, w10_4, w10_5, w11, w12_0, w12_1, w12_2, w12_3, w12_4, w12_5, w13_0, w13_1, w13_2, w13_3, w13_4, w13_5, w14, w15i, w15r, w16, w17, w18, w19i, w19z, w19l, w20, w21, w22, w23, w24, w25, w26, w27, w28_1, w28_2, w28_3, w28_4, w28_5, w28_6, w29, w30i, w30z, w31, w32, w33, w34, w35, w36, w37_1, w37_2, w37_3, w37_4, w37_5, w37_6, isO_O, set1_0, set1_1i, set1_1r, set1_1n, set1_1l, set1_s, set2_0, set2_1i, set2_1r, set2_1n, set2_1l, set2_s, ldv_i, ldv_l, ldv_r, ldv_s, ldi_i, ldi_s, fK_0, fK_s, gfc_O, fS_0, fS_s, uH_s, uH_n, uH_u, tl_s, tl_n, b1_0, b1_1, ite_true, ite_false, if_true, if_false, List.length_nil, List.length_cons, Nat.zero_le, Nat.zero_add, Nat.reduceAdd, Nat.reduceLeDiff, Nat.reduceLT, Nat.reduceEqDiff, Nat.reduceMul, Nat.add_left_cancel_iff, not_false_eq_true, h22, C_isIn, zb, bit1 (show r < 2 ^ 31 by omega) (show i < 31 by omega)]
theorem R_movesAbove {a f : Nat} (h22 : h 22 = rO be re (nI o) sz) (h25 : h 25 = aJ 72 ro) (ho : o < 256) (ha : a < 8) (hf : f < 8) : WpM 7 [.ref 22, .int (nI a), .int (nI f)] h Q = Q (some (.long (mvA ro o be a f))) h := by
  rw [eR_movesAbove]
  simp only [qR_movesAbove_0, jR_movesAbove_0, qR_movesAbove_24, jR_movesAbove_24, qR_movesAbove_36, jR_movesAbove_36, qR_movesAbove_37, jR_movesAbove_37, w0, w1, w2i, w2r, w3, w4, w5_0, w5_1, w5_2, w5_3, w5_4, w5_5, w5_6, w5_7, w5_8, w6_0, w6_1, w7_0, w7_1, w7_2, w7_3, w7_4, w7_5, w8_0, w8_1, w9_0, w9_1, w9_2, w10_0, w10_1, w10_2, w10_3, w10_4, w10_5, w11, w12_0, w12_1, w12_2, w12_3, w12_4, w12_5, w13_0, w13_1, w13_2, w13_3, w13_4, w13_5, w14, w15i, w15r, w16, w17, w18, w19i, w19z, w19l, w20, w21, w22, w23, w24, w25, w26, w27, w28_1, w28_2, w28_3, w28_4, w28_5, w28_6, w29, w30i, w30z, w31, w32, w33, w34, w35, w36, w37_1, w37_2, w37_3, w37_4, w37_5, w37_6, isO_O, set1_0, set1_1i, set1_1r, set1_1n, set1_1l, set1_s, set2_0, set2_1i, set2_1r, set2_1n, set2_1l, set2_s, ldv_i, ldv_l, ldv_r, ldv_s, ldi_i, ldi_s, fK_0, fK_s, gfc_O, fS_0, fS_s, uH_s, uH_n, uH_u, tl_s, tl_n, b1_0, b1_1, ite_true, ite_false, if_true, if_false, List.length_nil, List.length_cons, Nat.zero_le, Nat.zero_add, Nat.reduceAdd, Nat.reduceLeDiff, Nat.reduceLT, Nat.reduceEqDiff, Nat.reduceMul, Nat.add_left_cancel_iff, not_false_eq_true, h22, h25, C_isIn, z01, bit1 (show o < 2 ^ 31 by omega) (show a < 31 by omega), n9, nI_add, rJc_n (show 9 * a + f < 72 by omega) (show 72 < 2 ^ 31 by decide), ne_eq, nI_eq (show a < 2 ^ 31 by omega) (show f < 2 ^ 31 by omega)]
  unfold mvA
  by_cases hb : o.testBit a = true
  · simp [hb]
  · by_cases hq : a = f
    · subst hq; simp [hb]
    · simp [hb, hq]
theorem R_stepsAbove {a : Nat} (h22 : h 22 = rO be re (nI o) sz) (h25 : h 25 = aJ 72 ro) (ho : o < 256) (ha : a < 8) : WpM 8 [.ref 22, .int (nI a)] h Q = Q (some (.long (stA ro o a))) h := by
  rw [eR_stepsAbove]
  simp only [qR_stepsAbove_0, jR_stepsAbove_0, qR_stepsAbove_26, jR_stepsAbove_26, qR_stepsAbove_27, jR_stepsAbove_27, w0, w1, w2i, w2r, w3, w4, w5_0, w5_1, w5_2, w5_3, w5_4, w5_5, w5_6, w5_7, w5_8, w6_0, w6_1, w7_0, w7_1, w7_2, w7_3, w7_4, w7_5, w8_0, w8_1, w9_0, w9_1, w9_2, w10_0, w10_1, w10_2, w10_3, w10_4, w10_5, w11, w12_0, w12_1, w12_2, w12_3, w12_4, w12_5, w13_0, w13_1, w13_2, w13_3, w13_4, w13_5, w14, w15i, w15r, w16, w17, w18, w19i, w19z, w19l, w20, w21, w22, w23, w24, w25, w26, w27, w28_1, w28_2, w28_3, w28_4, w28_5, w28_6, w29, w30i, w30z, w31, w32, w33, w34, w35, w36, w37_1, w37_2, w37_3, w37_4, w37_5, w37_6, isO_O, set1_0, set1_1i, set1_1r, set1_1n, set1_1l, set1_s, set2_0, set2_1i, set2_1r, set2_1n, set2_1l, set2_s, ldv_i, ldv_l, ldv_r, ldv_s, ldi_i, ldi_s, fK_0, fK_s, gfc_O, fS_0, fS_s, uH_s, uH_n, uH_u, tl_s, tl_n, b1_0, b1_1, ite_true, ite_false, if_true, if_false, List.length_nil, List.length_cons, Nat.zero_le, Nat.zero_add, Nat.reduceAdd, Nat.reduceLeDiff, Nat.reduceLT, Nat.reduceEqDiff, Nat.reduceMul, Nat.add_left_cancel_iff, not_false_eq_true, h22, h25, C_isIn, z01, bit1 (show o < 2 ^ 31 by omega) (show a < 31 by omega), n9, n8p, rJc_n (show 9 * a + 8 < 72 by omega) (show 72 < 2 ^ 31 by decide)]
  unfold stA
  by_cases hb : o.testBit a = true <;> simp [hb]
theorem R_clearRow_loop {a p : Nat} {d own oth : Int64} {x : Option Value} (ha : a < 8) (hp : p < 8) (hd : ¬ d = 0) : ∀ (e k : Nat) (h : AH), k + e = 9 → h 22 = rO be re op sz → h 25 = aJ 72 (crF ro a p d own oth k) → Wp none 5 qR_clearRow_44 [some (.ref 22), some (.int (nI a)), some (.int (nI p)), some (.long d), none, some (.int (nI (9 * a))), some (.int (nI (9 * p))), some (.long own), none, some (.long oth), none, some (.int (nI k))] [] h Q = Q none (uH h 25 (aJ 72 (crF ro a p d own oth 9))) := by
  intro e
  induction e with
  | zero =>
    intro k h hk h22 h25
    have e : k = 9 := by omega
    subst e
    have hc : (9 : Int32) ≤ nI 9 := by decide
    simp only [qR_clearRow_44, qR_clearRow_96, jR_clearRow_96, w0, w1, w2i, w2r, w3, w4, w5_0, w5_1, w5_2, w5_3, w5_4, w5_5, w5_6, w5_7, w5_8, w6_0, w6_1, w7_0, w7_1, w7_2, w7_3, w7_4, w7_5, w8_0, w8_1, w9_0, w9_1, w9_2, w10_0, w10_1, w10_2, w10_3, w10_4, w10_5, w11, w12_0, w12_1, w12_2, w12_3, w12_4, w12_5, w13_0, w13_1, w13_2, w13_3, w13_4, w13_5, w14, w15i, w15r, w16, w17, w18, w19i, w19z, w19l, w20, w21, w22, w23, w24, w25, w26, w27, w28_1, w28_2, w28_3, w28_4, w28_5, w28_6, w29, w30i, w30z, w31, w32, w33, w34, w35, w36, w37_1, w37_2, w37_3, w37_4, w37_5, w37_6, isO_O, set1_0, set1_1i, set1_1r, set1_1n, set1_1l, set1_s, set2_0, set2_1i, set2_1r, set2_1n, set2_1l, set2_s, ldv_i, ldv_l, ldv_r, ldv_s, ldi_i, ldi_s, fK_0, fK_s, gfc_O, fS_0, fS_s, uH_s, uH_n, uH_u, tl_s, tl_n, b1_0, b1_1, ite_true, ite_false, if_true, if_false, List.length_nil, List.length_cons, Nat.zero_le, Nat.zero_add, Nat.reduceAdd, Nat.reduceLeDiff, Nat.reduceLT, Nat.reduceEqDiff, Nat.reduceMul, Nat.add_left_cancel_iff, not_false_eq_true, hc]
    rw [uH_id h h25]
  | succ e ih =>
    intro k h hk h22 h25
    have hc : ¬ (9 : Int32) ≤ nI k := nI_ge (b := 9) (by omega) (by decide)
    rw [qR_clearRow_44]
    simp only [w0, w1, w2i, w2r, w3, w4, w5_0, w5_1, w5_2, w5_3, w5_4, w5_5, w5_6, w5_7, w5_8, w6_0, w6_1, w7_0, w7_1, w7_2, w7_3, w7_4, w7_5, w8_0, w8_1, w9_0, w9_1, w9_2, w10_0, w10_1, w10_2, w10_3, w10_4, w10_5, w11, w12_0, w12_1, w12_2, w12_3, w12_4, w12_5, w13_0, w13_1, w13_2, w13_3, w13_4, w13_5, w14, w15i, w15r, w16, w17, w18, w19i, w19z, w19l, w20, w21, w22, w23, w24, w25, w26, w27, w28_1, w28_2, w28_3, w28_4, w28_5, w28_6, w29, w30i, w30z, w31, w32, w33, w34, w35, w36, w37_1, w37_2, w37_3, w37_4, w37_5, w37_6, isO_O, set1_0, set1_1i, set1_1r, set1_1n, set1_1l, set1_s, set2_0, set2_1i, set2_1r, set2_1n, set2_1l, set2_s, ldv_i, ldv_l, ldv_r, ldv_s, ldi_i, ldi_s, fK_0, fK_s, gfc_O, fS_0, fS_s, uH_s, uH_n, uH_u, tl_s, tl_n, b1_0, b1_1, ite_true, ite_false, if_true, if_false, List.length_nil, List.length_cons, Nat.zero_le, Nat.zero_add, Nat.reduceAdd, Nat.reduceLeDiff, Nat.reduceLT, Nat.reduceEqDiff, Nat.reduceMul, Nat.add_left_cancel_iff, not_false_eq_true, h22, h25, hc, hd, jR_clearRow_44, nI_add, nI_1, rJc_n (show 9 * a + k < 72 by omega) (show 72 < 2 ^ 31 by decide), rJc_n (show 9 * p + k < 72 by omega) (show 72 < 2 ^ 31 by decide), wJc_n (show 9 * a + k < 72 by omega) (show 72 < 2 ^ 31 by decide)]
    rw [ih (k + 1) _ (by omega) (by rw [uH_n _ _ (by omega)]; exact h22) (by rw [uH_s]; rfl), uH_u]
theorem R_clearRow {a p : Nat} {d : Int64} (h22 : h 22 = rO be re op sz) (h25 : h 25 = aJ 72 ro) (ha : a < 8) (hp : p < 8) : WpM 5 [.ref 22, .int (nI a), .int (nI p), .long d] h Q = Q none (uH h 25 (aJ 72 (crA ro a p d))) := by
  rw [eR_clearRow]
  simp only [qR_clearRow_0, qR_clearRow_7, jR_clearRow_7, w0, w1, w2i, w2r, w3, w4, w5_0, w5_1, w5_2, w5_3, w5_4, w5_5, w5_6, w5_7, w5_8, w6_0, w6_1, w7_0, w7_1, w7_2, w7_3, w7_4, w7_5, w8_0, w8_1, w9_0, w9_1, w9_2, w10_0, w10_1, w10_2, w10_3, w10_4, w10_5, w11, w12_0, w12_1, w12_2, w12_3, w12_4, w12_5, w13_0, w13_1, w13_2, w13_3, w13_4, w13_5, w14, w15i, w15r, w16, w17, w18, w19i, w19z, w19l, w20, w21, w22, w23, w24, w25, w26, w27, w28_1, w28_2, w28_3, w28_4, w28_5, w28_6, w29, w30i, w30z, w31, w32, w33, w34, w35, w36, w37_1, w37_2, w37_3, w37_4, w37_5, w37_6, isO_O, set1_0, set1_1i, set1_1r, set1_1n, set1_1l, set1_s, set2_0, set2_1i, set2_1r, set2_1n, set2_1l, set2_s, ldv_i, ldv_l, ldv_r, ldv_s, ldi_i, ldi_s, fK_0, fK_s, gfc_O, fS_0, fS_s, uH_s, uH_n, uH_u, tl_s, tl_n, b1_0, b1_1, ite_true, ite_false, if_true, if_false, List.length_nil, List.length_cons, Nat.zero_le, Nat.zero_add, Nat.reduceAdd, Nat.reduceLeDiff, Nat.reduceLT, Nat.reduceEqDiff, Nat.reduceMul, Nat.add_left_cancel_iff, not_false_eq_true, h22, h25, lg_cmp_eq, ne_eq, n9, nI_add, rJc_n (show 9 * a + p < 72 by omega) (show 72 < 2 ^ 31 by decide), rJc_n (show 9 * p + p < 72 by omega) (show 72 < 2 ^ 31 by decide)]
  unfold crA
  by_cases hd : d = 0
  · simp only [hd, not_true_eq_false, if_false, if_true]
    rw [uH_id h h25]
  · simp only [hd, not_false_eq_true, if_true, if_false]
    exact R_clearRow_loop (x := none) ha hp hd 9 0 h (by omega) h22 h25
theorem R_clearRows_in {k : Nat} {d : Int64} (ho : o < 256) (hm : m ≤ 8) (hk : k < 8) : ∀ (e i : Nat) (h : AH), i + e = m → h 22 = rO be re (nI o) (nI m) → h 25 = aJ 72 (ciF ro o k d i) → Wp none 4 qR_clearRows_26 [some (.ref 22), some (.long d), none, some (.int (nI k)), some (.int (nI i))] [] h Q = Wp none 4 qR_clearRows_67 [some (.ref 22), some (.long d), none, some (.int (nI k)), some (.int (nI m))] [] (uH h 25 (aJ 72 (ciF ro o k d m))) Q := by
  intro e
  induction e with
  | zero =>
    intro i h hi h22 h25
    have e : i = m := by omega
    subst e
    have hc : nI i ≤ nI i := nI_le (Nat.le_refl i) (by omega)
    rw [qR_clearRows_26]
    simp only [jR_clearRows_67, w0, w1, w2i, w2r, w3, w4, w5_0, w5_1, w5_2, w5_3, w5_4, w5_5, w5_6, w5_7, w5_8, w6_0, w6_1, w7_0, w7_1, w7_2, w7_3, w7_4, w7_5, w8_0, w8_1, w9_0, w9_1, w9_2, w10_0, w10_1, w10_2, w10_3, w10_4, w10_5, w11, w12_0, w12_1, w12_2, w12_3, w12_4, w12_5, w13_0, w13_1, w13_2, w13_3, w13_4, w13_5, w14, w15i, w15r, w16, w17, w18, w19i, w19z, w19l, w20, w21, w22, w23, w24, w25, w26, w27, w28_1, w28_2, w28_3, w28_4, w28_5, w28_6, w29, w30i, w30z, w31, w32, w33, w34, w35, w36, w37_1, w37_2, w37_3, w37_4, w37_5, w37_6, isO_O, set1_0, set1_1i, set1_1r, set1_1n, set1_1l, set1_s, set2_0, set2_1i, set2_1r, set2_1n, set2_1l, set2_s, ldv_i, ldv_l, ldv_r, ldv_s, ldi_i, ldi_s, fK_0, fK_s, gfc_O, fS_0, fS_s, uH_s, uH_n, uH_u, tl_s, tl_n, b1_0, b1_1, ite_true, ite_false, if_true, if_false, List.length_nil, List.length_cons, Nat.zero_le, Nat.zero_add, Nat.reduceAdd, Nat.reduceLeDiff, Nat.reduceLT, Nat.reduceEqDiff, Nat.reduceMul, Nat.add_left_cancel_iff, not_false_eq_true, h22, hc]
    rw [uH_id h h25]
  | succ e ih =>
    intro i h hi h22 h25
    have hc : ¬ nI m ≤ nI i := nI_ge (by omega) (by omega)
    have i8 : i < 8 := by omega
    rw [qR_clearRows_26]
    simp only [qR_clearRows_61, jR_clearRows_61, jR_clearRows_26, w0, w1, w2i, w2r, w3, w4, w5_0, w5_1, w5_2, w5_3, w5_4, w5_5, w5_6, w5_7, w5_8, w6_0, w6_1, w7_0, w7_1, w7_2, w7_3, w7_4, w7_5, w8_0, w8_1, w9_0, w9_1, w9_2, w10_0, w10_1, w10_2, w10_3, w10_4, w10_5, w11, w12_0, w12_1, w12_2, w12_3, w12_4, w12_5, w13_0, w13_1, w13_2, w13_3, w13_4, w13_5, w14, w15i, w15r, w16, w17, w18, w19i, w19z, w19l, w20, w21, w22, w23, w24, w25, w26, w27, w28_1, w28_2, w28_3, w28_4, w28_5, w28_6, w29, w30i, w30z, w31, w32, w33, w34, w35, w36, w37_1, w37_2, w37_3, w37_4, w37_5, w37_6, isO_O, set1_0, set1_1i, set1_1r, set1_1n, set1_1l, set1_s, set2_0, set2_1i, set2_1r, set2_1n, set2_1l, set2_s, ldv_i, ldv_l, ldv_r, ldv_s, ldi_i, ldi_s, fK_0, fK_s, gfc_O, fS_0, fS_s, uH_s, uH_n, uH_u, tl_s, tl_n, b1_0, b1_1, ite_true, ite_false, if_true, if_false, List.length_nil, List.length_cons, Nat.zero_le, Nat.zero_add, Nat.reduceAdd, Nat.reduceLeDiff, Nat.reduceLT, Nat.reduceEqDiff, Nat.reduceMul, Nat.add_left_cancel_iff, not_false_eq_true, h22, hc, nI_eq (show i < 2 ^ 31 by omega) (show k < 2 ^ 31 by omega), C_isIn, z01, bit1 (show o < 2 ^ 31 by omega) (show i < 31 by omega), R_clearRow h22 h25 i8 hk, nI_1]
    by_cases hik : i = k
    · rw [if_pos hik]
      have e1 : ciF ro o k d (i + 1) = ciF ro o k d i := by rw [ciF, if_neg (fun z => z.1 hik)]
      rw [ih (i + 1) h (by omega) h22 (by rw [e1]; exact h25)]
    · rw [if_neg hik]
      by_cases hb : o.testBit i = true
      · rw [if_neg (fun z => z hb)]
        have e1 : ciF ro o k d (i + 1) = crA (ciF ro o k d i) i k d := by rw [ciF, if_pos ⟨hik, hb⟩]
        rw [ih (i + 1) _ (by omega) (by rw [uH_n _ _ (by omega)]; exact h22) (by rw [uH_s, e1]), uH_u]
      · rw [if_pos hb]
        have e1 : ciF ro o k d (i + 1) = ciF ro o k d i := by rw [ciF, if_neg (fun z => hb z.2)]
        rw [ih (i + 1) h (by omega) h22 (by rw [e1]; exact h25)]
theorem R_clearRows_out (ho : o < 256) (hm : m ≤ 8) : ∀ (e k : Nat) (h : AH) (x : Option Value), k + e = m → h 22 = rO be re (nI o) (nI m) → h 25 = aJ 72 (coF ro o m k).1 → Wp none 4 qR_clearRows_4 [some (.ref 22), some (.long (coF ro o m k).2), none, some (.int (nI k)), x] [] h Q = Q none (uH (uH h 25 (aJ 72 (coF ro o m m).1)) 22 (rO (coF ro o m m).2 re (nI o) (nI m))) := by
  intro e
  induction e with
  | zero =>
    intro k h x hk h22 h25
    have e : k = m := by omega
    subst e
    have hc : nI k ≤ nI k := nI_le (Nat.le_refl k) (by omega)
    simp only [qR_clearRows_4, qR_clearRows_85, jR_clearRows_85, w0, w1, w2i, w2r, w3, w4, w5_0, w5_1, w5_2, w5_3, w5_4, w5_5, w5_6, w5_7, w5_8, w6_0, w6_1, w7_0, w7_1, w7_2, w7_3, w7_4, w7_5, w8_0, w8_1, w9_0, w9_1, w9_2, w10_0, w10_1, w10_2, w10_3, w10_4, w10_5, w11, w12_0, w12_1, w12_2, w12_3, w12_4, w12_5, w13_0, w13_1, w13_2, w13_3, w13_4, w13_5, w14, w15i, w15r, w16, w17, w18, w19i, w19z, w19l, w20, w21, w22, w23, w24, w25, w26, w27, w28_1, w28_2, w28_3, w28_4, w28_5, w28_6, w29, w30i, w30z, w31, w32, w33, w34, w35, w36, w37_1, w37_2, w37_3, w37_4, w37_5, w37_6, isO_O, set1_0, set1_1i, set1_1r, set1_1n, set1_1l, set1_s, set2_0, set2_1i, set2_1r, set2_1n, set2_1l, set2_s, ldv_i, ldv_l, ldv_r, ldv_s, ldi_i, ldi_s, fK_0, fK_s, gfc_O, fS_0, fS_s, uH_s, uH_n, uH_u, tl_s, tl_n, b1_0, b1_1, ite_true, ite_false, if_true, if_false, List.length_nil, List.length_cons, Nat.zero_le, Nat.zero_add, Nat.reduceAdd, Nat.reduceLeDiff, Nat.reduceLT, Nat.reduceEqDiff, Nat.reduceMul, Nat.add_left_cancel_iff, not_false_eq_true, h22, hc, pfc_0]
    rw [uH_id h h25]
  | succ e ih =>
    intro k h x hk h22 h25
    have hc : ¬ nI m ≤ nI k := nI_ge (by omega) (by omega)
    have k8 : k < 8 := by omega
    rw [qR_clearRows_4]
    simp only [qR_clearRows_79, jR_clearRows_79, jR_clearRows_4, w0, w1, w2i, w2r, w3, w4, w5_0, w5_1, w5_2, w5_3, w5_4, w5_5, w5_6, w5_7, w5_8, w6_0, w6_1, w7_0, w7_1, w7_2, w7_3, w7_4, w7_5, w8_0, w8_1, w9_0, w9_1, w9_2, w10_0, w10_1, w10_2, w10_3, w10_4, w10_5, w11, w12_0, w12_1, w12_2, w12_3, w12_4, w12_5, w13_0, w13_1, w13_2, w13_3, w13_4, w13_5, w14, w15i, w15r, w16, w17, w18, w19i, w19z, w19l, w20, w21, w22, w23, w24, w25, w26, w27, w28_1, w28_2, w28_3, w28_4, w28_5, w28_6, w29, w30i, w30z, w31, w32, w33, w34, w35, w36, w37_1, w37_2, w37_3, w37_4, w37_5, w37_6, isO_O, set1_0, set1_1i, set1_1r, set1_1n, set1_1l, set1_s, set2_0, set2_1i, set2_1r, set2_1n, set2_1l, set2_s, ldv_i, ldv_l, ldv_r, ldv_s, ldi_i, ldi_s, fK_0, fK_s, gfc_O, fS_0, fS_s, uH_s, uH_n, uH_u, tl_s, tl_n, b1_0, b1_1, ite_true, ite_false, if_true, if_false, List.length_nil, List.length_cons, Nat.zero_le, Nat.zero_add, Nat.reduceAdd, Nat.reduceLeDiff, Nat.reduceLT, Nat.reduceEqDiff, Nat.reduceMul, Nat.add_left_cancel_iff, not_false_eq_true, h22, hc, C_isIn, z01, bit1 (show o < 2 ^ 31 by omega) (show k < 31 by omega), nI_1]
    by_cases hb : o.testBit k = true
    · rw [if_neg (fun z => z hb)]
      have e1 : coF ro o m (k + 1) = (ciF (coF ro o m k).1 o k (coF ro o m k).2 m, ciF (coF ro o m k).1 o k (coF ro o m k).2 m (9 * k + k)) := by rw [coF, if_pos hb]
      have e2 := R_clearRows_in (Q := Q) (ro := (coF ro o m k).1) (d := (coF ro o m k).2) ho hm k8 m 0 h (by omega) h22 h25
      rw [show nI 0 = 0 from rfl] at e2
      rw [e2]
      simp only [qR_clearRows_67, qR_clearRows_79, jR_clearRows_79, jR_clearRows_4, w0, w1, w2i, w2r, w3, w4, w5_0, w5_1, w5_2, w5_3, w5_4, w5_5, w5_6, w5_7, w5_8, w6_0, w6_1, w7_0, w7_1, w7_2, w7_3, w7_4, w7_5, w8_0, w8_1, w9_0, w9_1, w9_2, w10_0, w10_1, w10_2, w10_3, w10_4, w10_5, w11, w12_0, w12_1, w12_2, w12_3, w12_4, w12_5, w13_0, w13_1, w13_2, w13_3, w13_4, w13_5, w14, w15i, w15r, w16, w17, w18, w19i, w19z, w19l, w20, w21, w22, w23, w24, w25, w26, w27, w28_1, w28_2, w28_3, w28_4, w28_5, w28_6, w29, w30i, w30z, w31, w32, w33, w34, w35, w36, w37_1, w37_2, w37_3, w37_4, w37_5, w37_6, isO_O, set1_0, set1_1i, set1_1r, set1_1n, set1_1l, set1_s, set2_0, set2_1i, set2_1r, set2_1n, set2_1l, set2_s, ldv_i, ldv_l, ldv_r, ldv_s, ldi_i, ldi_s, fK_0, fK_s, gfc_O, fS_0, fS_s, uH_s, uH_n, uH_u, tl_s, tl_n, b1_0, b1_1, ite_true, ite_false, if_true, if_false, List.length_nil, List.length_cons, Nat.zero_le, Nat.zero_add, Nat.reduceAdd, Nat.reduceLeDiff, Nat.reduceLT, Nat.reduceEqDiff, Nat.reduceMul, Nat.add_left_cancel_iff, not_false_eq_true, h22, n9, nI_add, nI_1, rJc_n (show 9 * k + k < 72 by omega) (show 72 < 2 ^ 31 by decide)]
      have ih := ih (k + 1) (uH h 25 (aJ 72 (ciF (coF ro o m k).1 o k (coF ro o m k).2 m))) (some (.int (nI m))) (by omega) (by rw [uH_n _ _ (by omega)]; exact h22) (by rw [uH_s, e1])
      rw [e1, uH_u] at ih
      exact ih
    · rw [if_pos hb]
      have e1 : coF ro o m (k + 1) = coF ro o m k := by rw [coF, if_neg hb]
      have ih := ih (k + 1) h x (by omega) h22 (by rw [e1]; exact h25)
      rw [e1] at ih
      exact ih
theorem R_clearRows (h22 : h 22 = rO be re (nI o) (nI m)) (h25 : h 25 = aJ 72 ro) (ho : o < 256) (hm : m ≤ 8) : WpM 4 [.ref 22] h Q = Q none (uH (uH h 25 (aJ 72 (coF ro o m m).1)) 22 (rO (coF ro o m m).2 re (nI o) (nI m))) := by
  rw [eR_clearRows]
  simp only [qR_clearRows_0, w0, w1, w2i, w2r, w3, w4, w5_0, w5_1, w5_2, w5_3, w5_4, w5_5, w5_6, w5_7, w5_8, w6_0, w6_1, w7_0, w7_1, w7_2, w7_3, w7_4, w7_5, w8_0, w8_1, w9_0, w9_1, w9_2, w10_0, w10_1, w10_2, w10_3, w10_4, w10_5, w11, w12_0, w12_1, w12_2, w12_3, w12_4, w12_5, w13_0, w13_1, w13_2, w13_3, w13_4, w13_5, w14, w15i, w15r, w16, w17, w18, w19i, w19z, w19l, w20, w21, w22, w23, w24, w25, w26, w27, w28_1, w28_2, w28_3, w28_4, w28_5, w28_6, w29, w30i, w30z, w31, w32, w33, w34, w35, w36, w37_1, w37_2, w37_3, w37_4, w37_5, w37_6, isO_O, set1_0, set1_1i, set1_1r, set1_1n, set1_1l, set1_s, set2_0, set2_1i, set2_1r, set2_1n, set2_1l, set2_s, ldv_i, ldv_l, ldv_r, ldv_s, ldi_i, ldi_s, fK_0, fK_s, gfc_O, fS_0, fS_s, uH_s, uH_n, uH_u, tl_s, tl_n, b1_0, b1_1, ite_true, ite_false, if_true, if_false, List.length_nil, List.length_cons, Nat.zero_le, Nat.zero_add, Nat.reduceAdd, Nat.reduceLeDiff, Nat.reduceLT, Nat.reduceEqDiff, Nat.reduceMul, Nat.add_left_cancel_iff, not_false_eq_true]
  exact R_clearRows_out ho hm m 0 h none (by omega) h22 h25
theorem R_fillRows_in {a : Nat} {mm : Nat} (ht : t + 6 < 22) (ha : a < 8) : ∀ (e k : Nat) (h : AH), k + e = 8 → h 22 = rO be re op sz → h 25 = aJ 72 (flI ro sh a k) → h t = tO t (nI m) pu ye → h (t + 5) = aI 64 sh → Wp none 3 qR_fillRows_29 [some (.ref 22), some (.ref t), some (.int (nI a)), some (.int (nI (9 * a))), some (.int (nI k))] [] h Q = Wp none 3 qR_fillRows_60 [some (.ref 22), some (.ref t), some (.int (nI a)), some (.int (nI (9 * a))), some (.int (nI 8))] [] (uH h 25 (aJ 72 (flI ro sh a 8))) Q := by
  intro e
  induction e with
  | zero =>
    intro k h hk h22 h25 h0 h5
    have e : k = 8 := by omega
    subst e
    have hc : (8 : Int32) ≤ nI 8 := by decide
    rw [qR_fillRows_29]
    simp only [jR_fillRows_60, w0, w1, w2i, w2r, w3, w4, w5_0, w5_1, w5_2, w5_3, w5_4, w5_5, w5_6, w5_7, w5_8, w6_0, w6_1, w7_0, w7_1, w7_2, w7_3, w7_4, w7_5, w8_0, w8_1, w9_0, w9_1, w9_2, w10_0, w10_1, w10_2, w10_3, w10_4, w10_5, w11, w12_0, w12_1, w12_2, w12_3, w12_4, w12_5, w13_0, w13_1, w13_2, w13_3, w13_4, w13_5, w14, w15i, w15r, w16, w17, w18, w19i, w19z, w19l, w20, w21, w22, w23, w24, w25, w26, w27, w28_1, w28_2, w28_3, w28_4, w28_5, w28_6, w29, w30i, w30z, w31, w32, w33, w34, w35, w36, w37_1, w37_2, w37_3, w37_4, w37_5, w37_6, isO_O, set1_0, set1_1i, set1_1r, set1_1n, set1_1l, set1_s, set2_0, set2_1i, set2_1r, set2_1n, set2_1l, set2_s, ldv_i, ldv_l, ldv_r, ldv_s, ldi_i, ldi_s, fK_0, fK_s, gfc_O, fS_0, fS_s, uH_s, uH_n, uH_u, tl_s, tl_n, b1_0, b1_1, ite_true, ite_false, if_true, if_false, List.length_nil, List.length_cons, Nat.zero_le, Nat.zero_add, Nat.reduceAdd, Nat.reduceLeDiff, Nat.reduceLT, Nat.reduceEqDiff, Nat.reduceMul, Nat.add_left_cancel_iff, not_false_eq_true, hc]
    rw [uH_id h h25]
  | succ e ih =>
    intro k h hk h22 h25 h0 h5
    have hc : ¬ (8 : Int32) ≤ nI k := nI_ge (b := 8) (by omega) (by decide)
    rw [qR_fillRows_29]
    simp only [jR_fillRows_29, w0, w1, w2i, w2r, w3, w4, w5_0, w5_1, w5_2, w5_3, w5_4, w5_5, w5_6, w5_7, w5_8, w6_0, w6_1, w7_0, w7_1, w7_2, w7_3, w7_4, w7_5, w8_0, w8_1, w9_0, w9_1, w9_2, w10_0, w10_1, w10_2, w10_3, w10_4, w10_5, w11, w12_0, w12_1, w12_2, w12_3, w12_4, w12_5, w13_0, w13_1, w13_2, w13_3, w13_4, w13_5, w14, w15i, w15r, w16, w17, w18, w19i, w19z, w19l, w20, w21, w22, w23, w24, w25, w26, w27, w28_1, w28_2, w28_3, w28_4, w28_5, w28_6, w29, w30i, w30z, w31, w32, w33, w34, w35, w36, w37_1, w37_2, w37_3, w37_4, w37_5, w37_6, isO_O, set1_0, set1_1i, set1_1r, set1_1n, set1_1l, set1_s, set2_0, set2_1i, set2_1r, set2_1n, set2_1l, set2_s, ldv_i, ldv_l, ldv_r, ldv_s, ldi_i, ldi_s, fK_0, fK_s, gfc_O, fS_0, fS_s, uH_s, uH_n, uH_u, tl_s, tl_n, b1_0, b1_1, ite_true, ite_false, if_true, if_false, List.length_nil, List.length_cons, Nat.zero_le, Nat.zero_add, Nat.reduceAdd, Nat.reduceLeDiff, Nat.reduceLT, Nat.reduceEqDiff, Nat.reduceMul, Nat.add_left_cancel_iff, not_false_eq_true, h22, h25, h0, hc, T_shareOf h0 h5 ha (show k < 8 by omega), nI_add, nI_1, wJc_n (show 9 * a + k < 72 by omega) (show 72 < 2 ^ 31 by decide)]
    rw [ih (k + 1) _ (by omega) (by rw [uH_n _ _ (by omega)]; exact h22) (by rw [uH_s]; rfl) (by rw [uH_n _ _ (by omega)]; exact h0) (by rw [uH_n _ _ (by omega)]; exact h5), uH_u]
theorem R_fillRows_out (ht : t + 6 < 22) (ho : o < 256) (hm : m ≤ 8) : ∀ (e a : Nat) (h : AH) (x y : Option Value), a + e = m → h 22 = rO be re (nI o) (nI m) → h 25 = aJ 72 (flO ro sh o m a) → h t = tO t (nI m) pu ye → h (t + 5) = aI 64 sh → Wp none 3 qR_fillRows_2 [some (.ref 22), some (.ref t), some (.int (nI a)), x, y] [] h Q = Q none (uH h 25 (aJ 72 (flO ro sh o m m))) := by
  intro e
  induction e with
  | zero =>
    intro a h x y ha h22 h25 h0 h5
    have e : a = m := by omega
    subst e
    have hc : nI a ≤ nI a := nI_le (Nat.le_refl a) (by omega)
    simp only [qR_fillRows_2, qR_fillRows_96, jR_fillRows_96, w0, w1, w2i, w2r, w3, w4, w5_0, w5_1, w5_2, w5_3, w5_4, w5_5, w5_6, w5_7, w5_8, w6_0, w6_1, w7_0, w7_1, w7_2, w7_3, w7_4, w7_5, w8_0, w8_1, w9_0, w9_1, w9_2, w10_0, w10_1, w10_2, w10_3, w10_4, w10_5, w11, w12_0, w12_1, w12_2, w12_3, w12_4, w12_5, w13_0, w13_1, w13_2, w13_3, w13_4, w13_5, w14, w15i, w15r, w16, w17, w18, w19i, w19z, w19l, w20, w21, w22, w23, w24, w25, w26, w27, w28_1, w28_2, w28_3, w28_4, w28_5, w28_6, w29, w30i, w30z, w31, w32, w33, w34, w35, w36, w37_1, w37_2, w37_3, w37_4, w37_5, w37_6, isO_O, set1_0, set1_1i, set1_1r, set1_1n, set1_1l, set1_s, set2_0, set2_1i, set2_1r, set2_1n, set2_1l, set2_s, ldv_i, ldv_l, ldv_r, ldv_s, ldi_i, ldi_s, fK_0, fK_s, gfc_O, fS_0, fS_s, uH_s, uH_n, uH_u, tl_s, tl_n, b1_0, b1_1, ite_true, ite_false, if_true, if_false, List.length_nil, List.length_cons, Nat.zero_le, Nat.zero_add, Nat.reduceAdd, Nat.reduceLeDiff, Nat.reduceLT, Nat.reduceEqDiff, Nat.reduceMul, Nat.add_left_cancel_iff, not_false_eq_true, h22, hc]
    rw [uH_id h h25]
  | succ e ih =>
    intro a h x y ha h22 h25 h0 h5
    have hc : ¬ nI m ≤ nI a := nI_ge (by omega) (by omega)
    have a8 : a < 8 := by omega
    rw [qR_fillRows_2]
    have e2 := R_fillRows_in (Q := Q) (mm := m) (ro := flO ro sh o m a) ht a8 8 0 h (by omega) h22 h25 h0 h5
    rw [show nI 0 = 0 from rfl] at e2
    simp only [qR_fillRows_90, jR_fillRows_90, jR_fillRows_2, w0, w1, w2i, w2r, w3, w4, w5_0, w5_1, w5_2, w5_3, w5_4, w5_5, w5_6, w5_7, w5_8, w6_0, w6_1, w7_0, w7_1, w7_2, w7_3, w7_4, w7_5, w8_0, w8_1, w9_0, w9_1, w9_2, w10_0, w10_1, w10_2, w10_3, w10_4, w10_5, w11, w12_0, w12_1, w12_2, w12_3, w12_4, w12_5, w13_0, w13_1, w13_2, w13_3, w13_4, w13_5, w14, w15i, w15r, w16, w17, w18, w19i, w19z, w19l, w20, w21, w22, w23, w24, w25, w26, w27, w28_1, w28_2, w28_3, w28_4, w28_5, w28_6, w29, w30i, w30z, w31, w32, w33, w34, w35, w36, w37_1, w37_2, w37_3, w37_4, w37_5, w37_6, isO_O, set1_0, set1_1i, set1_1r, set1_1n, set1_1l, set1_s, set2_0, set2_1i, set2_1r, set2_1n, set2_1l, set2_s, ldv_i, ldv_l, ldv_r, ldv_s, ldi_i, ldi_s, fK_0, fK_s, gfc_O, fS_0, fS_s, uH_s, uH_n, uH_u, tl_s, tl_n, b1_0, b1_1, ite_true, ite_false, if_true, if_false, List.length_nil, List.length_cons, Nat.zero_le, Nat.zero_add, Nat.reduceAdd, Nat.reduceLeDiff, Nat.reduceLT, Nat.reduceEqDiff, Nat.reduceMul, Nat.add_left_cancel_iff, not_false_eq_true, h22, hc, C_isIn, z01, bit1 (show o < 2 ^ 31 by omega) (show a < 31 by omega), n9, nI_1]
    by_cases hb : o.testBit a = true
    · rw [if_neg (fun z => z hb), e2]
      have e1 : flO ro sh o m (a + 1) = vp_updL (vp_updL (flI (flO ro sh o m a) sh a 8) (9 * a + a) (wt sh a m).toInt64) (9 * a + 8) (wt sh a m).toInt64 := by rw [flO, if_pos hb]
      have g0 : (uH h 25 (aJ 72 (flI (flO ro sh o m a) sh a 8))) t = tO t (nI m) pu ye := by rw [uH_n _ _ (by omega)]; exact h0
      have g5 : (uH h 25 (aJ 72 (flI (flO ro sh o m a) sh a 8))) (t + 5) = aI 64 sh := by rw [uH_n _ _ (by omega)]; exact h5
      simp only [qR_fillRows_60, qR_fillRows_90, jR_fillRows_90, jR_fillRows_2, w0, w1, w2i, w2r, w3, w4, w5_0, w5_1, w5_2, w5_3, w5_4, w5_5, w5_6, w5_7, w5_8, w6_0, w6_1, w7_0, w7_1, w7_2, w7_3, w7_4, w7_5, w8_0, w8_1, w9_0, w9_1, w9_2, w10_0, w10_1, w10_2, w10_3, w10_4, w10_5, w11, w12_0, w12_1, w12_2, w12_3, w12_4, w12_5, w13_0, w13_1, w13_2, w13_3, w13_4, w13_5, w14, w15i, w15r, w16, w17, w18, w19i, w19z, w19l, w20, w21, w22, w23, w24, w25, w26, w27, w28_1, w28_2, w28_3, w28_4, w28_5, w28_6, w29, w30i, w30z, w31, w32, w33, w34, w35, w36, w37_1, w37_2, w37_3, w37_4, w37_5, w37_6, isO_O, set1_0, set1_1i, set1_1r, set1_1n, set1_1l, set1_s, set2_0, set2_1i, set2_1r, set2_1n, set2_1l, set2_s, ldv_i, ldv_l, ldv_r, ldv_s, ldi_i, ldi_s, fK_0, fK_s, gfc_O, fS_0, fS_s, uH_s, uH_n, uH_u, tl_s, tl_n, b1_0, b1_1, ite_true, ite_false, if_true, if_false, List.length_nil, List.length_cons, Nat.zero_le, Nat.zero_add, Nat.reduceAdd, Nat.reduceLeDiff, Nat.reduceLT, Nat.reduceEqDiff, Nat.reduceMul, Nat.add_left_cancel_iff, not_false_eq_true, g0, h22, T_weight g0 g5 hm a8, nI_add, n8p, nI_1, wJc_n (show 9 * a + a < 72 by omega) (show 72 < 2 ^ 31 by decide), wJc_n (show 9 * a + 8 < 72 by omega) (show 72 < 2 ^ 31 by decide)]
      rw [ih (a + 1) _ _ _ (by omega) (by rw [uH_n _ _ (by omega)]; exact h22) (by rw [uH_s, e1]) (by rw [uH_n _ _ (by omega)]; exact h0) (by rw [uH_n _ _ (by omega)]; exact h5), uH_u]
    · rw [if_pos hb]
      have e1 : flO ro sh o m (a + 1) = flO ro sh o m a := by rw [flO, if_neg hb]
      exact ih (a + 1) h x y (by omega) h22 (by rw [e1]; exact h25) h0 h5
theorem R_fillRows (ht : t + 6 < 22) (h22 : h 22 = rO be re (nI o) (nI m)) (h25 : h 25 = aJ 72 ro) (h0 : h t = tO t (nI m) pu ye) (h5 : h (t + 5) = aI 64 sh) (ho : o < 256) (hm : m ≤ 8) : WpM 3 [.ref 22, .ref t] h Q = Q none (uH h 25 (aJ 72 (flO ro sh o m m))) := by
  rw [eR_fillRows]
  simp only [qR_fillRows_0, w0, w1, w2i, w2r, w3, w4, w5_0, w5_1, w5_2, w5_3, w5_4, w5_5, w5_6, w5_7, w5_8, w6_0, w6_1, w7_0, w7_1, w7_2, w7_3, w7_4, w7_5, w8_0, w8_1, w9_0, w9_1, w9_2, w10_0, w10_1, w10_2, w10_3, w10_4, w10_5, w11, w12_0, w12_1, w12_2, w12_3, w12_4, w12_5, w13_0, w13_1, w13_2, w13_3, w13_4, w13_5, w14, w15i, w15r, w16, w17, w18, w19i, w19z, w19l, w20, w21, w22, w23, w24, w25, w26, w27, w28_1, w28_2, w28_3, w28_4, w28_5, w28_6, w29, w30i, w30z, w31, w32, w33, w34, w35, w36, w37_1, w37_2, w37_3, w37_4, w37_5, w37_6, isO_O, set1_0, set1_1i, set1_1r, set1_1n, set1_1l, set1_s, set2_0, set2_1i, set2_1r, set2_1n, set2_1l, set2_s, ldv_i, ldv_l, ldv_r, ldv_s, ldi_i, ldi_s, fK_0, fK_s, gfc_O, fS_0, fS_s, uH_s, uH_n, uH_u, tl_s, tl_n, b1_0, b1_1, ite_true, ite_false, if_true, if_false, List.length_nil, List.length_cons, Nat.zero_le, Nat.zero_add, Nat.reduceAdd, Nat.reduceLeDiff, Nat.reduceLT, Nat.reduceEqDiff, Nat.reduceMul, Nat.add_left_cancel_iff, not_false_eq_true]
  exact R_fillRows_out ht ho hm m 0 h none none (by omega) h22 h25 h0 h5
theorem R_rentAbove_loop {a : Nat} (h22 : h 22 = rO be (nI r) (nI o) (nI m)) (h24 : h 24 = aI 8 ak) (h25 : h 25 = aJ 72 ro) (hr : r < 256) (ho : o < 256) (hm : m ≤ 8) (ha : a < 8) : ∀ (e i : Nat), i + e = m → Wp none 6 qR_rentAbove_5 [some (.ref 22), some (.int (nI a)), some (.long (raF ro r o be ak a i)), none, some (.int (nI i))] [] h Q = Q (some (.long (raF ro r o be ak a m))) h := by
  have hx : andn r o < 2 ^ 8 := andn_lt hr
  intro e
  induction e with
  | zero =>
    intro i hi
    have e : i = m := by omega
    subst e
    have hc : nI i ≤ nI i := nI_le (Nat.le_refl i) (by omega)
    simp only [qR_rentAbove_5, qR_rentAbove_58, jR_rentAbove_58, w0, w1, w2i, w2r, w3, w4, w5_0, w5_1, w5_2, w5_3, w5_4, w5_5, w5_6, w5_7, w5_8, w6_0, w6_1, w7_0, w7_1, w7_2, w7_3, w7_4, w7_5, w8_0, w8_1, w9_0, w9_1, w9_2, w10_0, w10_1, w10_2, w10_3, w10_4, w10_5, w11, w12_0, w12_1, w12_2, w12_3, w12_4, w12_5, w13_0, w13_1, w13_2, w13_3, w13_4, w13_5, w14, w15i, w15r, w16, w17, w18, w19i, w19z, w19l, w20, w21, w22, w23, w24, w25, w26, w27, w28_1, w28_2, w28_3, w28_4, w28_5, w28_6, w29, w30i, w30z, w31, w32, w33, w34, w35, w36, w37_1, w37_2, w37_3, w37_4, w37_5, w37_6, isO_O, set1_0, set1_1i, set1_1r, set1_1n, set1_1l, set1_s, set2_0, set2_1i, set2_1r, set2_1n, set2_1l, set2_s, ldv_i, ldv_l, ldv_r, ldv_s, ldi_i, ldi_s, fK_0, fK_s, gfc_O, fS_0, fS_s, uH_s, uH_n, uH_u, tl_s, tl_n, b1_0, b1_1, ite_true, ite_false, if_true, if_false, List.length_nil, List.length_cons, Nat.zero_le, Nat.zero_add, Nat.reduceAdd, Nat.reduceLeDiff, Nat.reduceLT, Nat.reduceEqDiff, Nat.reduceMul, Nat.add_left_cancel_iff, not_false_eq_true, h22, hc]
  | succ e ih =>
    intro i hi
    have hc : ¬ nI m ≤ nI i := nI_ge (by omega) (by omega)
    have i8 : i < 8 := by omega
    rw [qR_rentAbove_5]
    simp only [qR_rentAbove_52, jR_rentAbove_52, jR_rentAbove_5, w0, w1, w2i, w2r, w3, w4, w5_0, w5_1, w5_2, w5_3, w5_4, w5_5, w5_6, w5_7, w5_8, w6_0, w6_1, w7_0, w7_1, w7_2, w7_3, w7_4, w7_5, w8_0, w8_1, w9_0, w9_1, w9_2, w10_0, w10_1, w10_2, w10_3, w10_4, w10_5, w11, w12_0, w12_1, w12_2, w12_3, w12_4, w12_5, w13_0, w13_1, w13_2, w13_3, w13_4, w13_5, w14, w15i, w15r, w16, w17, w18, w19i, w19z, w19l, w20, w21, w22, w23, w24, w25, w26, w27, w28_1, w28_2, w28_3, w28_4, w28_5, w28_6, w29, w30i, w30z, w31, w32, w33, w34, w35, w36, w37_1, w37_2, w37_3, w37_4, w37_5, w37_6, isO_O, set1_0, set1_1i, set1_1r, set1_1n, set1_1l, set1_s, set2_0, set2_1i, set2_1r, set2_1n, set2_1l, set2_s, ldv_i, ldv_l, ldv_r, ldv_s, ldi_i, ldi_s, fK_0, fK_s, gfc_O, fS_0, fS_s, uH_s, uH_n, uH_u, tl_s, tl_n, b1_0, b1_1, ite_true, ite_false, if_true, if_false, List.length_nil, List.length_cons, Nat.zero_le, Nat.zero_add, Nat.reduceAdd, Nat.reduceLeDiff, Nat.reduceLT, Nat.reduceEqDiff, Nat.reduceMul, Nat.add_left_cancel_iff, not_false_eq_true, h22, h24, hc, nI_andn, C_isIn, z01, bit1 (show andn r o < 2 ^ 31 by omega) (show i < 31 by omega), R_movesAbove h22 h25 ho ha i8, rIc_n i8 (show 8 < 2 ^ 31 by decide), nI_1]
    have ih := ih (i + 1) (by omega)
    by_cases hb : (andn r o).testBit i = true
    · rw [if_neg (fun z => z hb)]
      rw [raF, if_pos hb] at ih
      exact ih
    · rw [if_pos hb]
      rw [raF, if_neg hb] at ih
      exact ih
theorem R_rentAbove {a : Nat} (h22 : h 22 = rO be (nI r) (nI o) (nI m)) (h24 : h 24 = aI 8 ak) (h25 : h 25 = aJ 72 ro) (hr : r < 256) (ho : o < 256) (hm : m ≤ 8) (ha : a < 8) : WpM 6 [.ref 22, .int (nI a)] h Q = Q (some (.long (raF ro r o be ak a m))) h := by
  rw [eR_rentAbove]
  simp only [qR_rentAbove_0, w0, w1, w2i, w2r, w3, w4, w5_0, w5_1, w5_2, w5_3, w5_4, w5_5, w5_6, w5_7, w5_8, w6_0, w6_1, w7_0, w7_1, w7_2, w7_3, w7_4, w7_5, w8_0, w8_1, w9_0, w9_1, w9_2, w10_0, w10_1, w10_2, w10_3, w10_4, w10_5, w11, w12_0, w12_1, w12_2, w12_3, w12_4, w12_5, w13_0, w13_1, w13_2, w13_3, w13_4, w13_5, w14, w15i, w15r, w16, w17, w18, w19i, w19z, w19l, w20, w21, w22, w23, w24, w25, w26, w27, w28_1, w28_2, w28_3, w28_4, w28_5, w28_6, w29, w30i, w30z, w31, w32, w33, w34, w35, w36, w37_1, w37_2, w37_3, w37_4, w37_5, w37_6, isO_O, set1_0, set1_1i, set1_1r, set1_1n, set1_1l, set1_s, set2_0, set2_1i, set2_1r, set2_1n, set2_1l, set2_s, ldv_i, ldv_l, ldv_r, ldv_s, ldi_i, ldi_s, fK_0, fK_s, gfc_O, fS_0, fS_s, uH_s, uH_n, uH_u, tl_s, tl_n, b1_0, b1_1, ite_true, ite_false, if_true, if_false, List.length_nil, List.length_cons, Nat.zero_le, Nat.zero_add, Nat.reduceAdd, Nat.reduceLeDiff, Nat.reduceLT, Nat.reduceEqDiff, Nat.reduceMul, Nat.add_left_cancel_iff, not_false_eq_true]
  exact R_rentAbove_loop h22 h24 h25 hr ho hm ha m 0 (by omega)
theorem R_solve_loop (hr : r < 256) (ho : o < 256) (hm : m ≤ 8) : ∀ (e i : Nat) (h : AH), i + e = m → h 22 = rO be (nI r) (nI o) (nI m) → h 23 = aJ 8 (abF ab ro r o be ak m i) → h 24 = aI 8 ak → h 25 = aJ 72 ro → Wp none 2 qR_solve_57 [some (.ref 22), some (.ref t), some (.int (nI i))] [] h Q = Q none (uH h 23 (aJ 8 (abF ab ro r o be ak m m))) := by
  intro e
  induction e with
  | zero =>
    intro i h hi h22 h23 h24 h25
    have e : i = m := by omega
    subst e
    have hc : nI i ≤ nI i := nI_le (Nat.le_refl i) (by omega)
    simp only [qR_solve_57, qR_solve_94, jR_solve_94, w0, w1, w2i, w2r, w3, w4, w5_0, w5_1, w5_2, w5_3, w5_4, w5_5, w5_6, w5_7, w5_8, w6_0, w6_1, w7_0, w7_1, w7_2, w7_3, w7_4, w7_5, w8_0, w8_1, w9_0, w9_1, w9_2, w10_0, w10_1, w10_2, w10_3, w10_4, w10_5, w11, w12_0, w12_1, w12_2, w12_3, w12_4, w12_5, w13_0, w13_1, w13_2, w13_3, w13_4, w13_5, w14, w15i, w15r, w16, w17, w18, w19i, w19z, w19l, w20, w21, w22, w23, w24, w25, w26, w27, w28_1, w28_2, w28_3, w28_4, w28_5, w28_6, w29, w30i, w30z, w31, w32, w33, w34, w35, w36, w37_1, w37_2, w37_3, w37_4, w37_5, w37_6, isO_O, set1_0, set1_1i, set1_1r, set1_1n, set1_1l, set1_s, set2_0, set2_1i, set2_1r, set2_1n, set2_1l, set2_s, ldv_i, ldv_l, ldv_r, ldv_s, ldi_i, ldi_s, fK_0, fK_s, gfc_O, fS_0, fS_s, uH_s, uH_n, uH_u, tl_s, tl_n, b1_0, b1_1, ite_true, ite_false, if_true, if_false, List.length_nil, List.length_cons, Nat.zero_le, Nat.zero_add, Nat.reduceAdd, Nat.reduceLeDiff, Nat.reduceLT, Nat.reduceEqDiff, Nat.reduceMul, Nat.add_left_cancel_iff, not_false_eq_true, h22, hc]
    rw [uH_id h h23]
  | succ e ih =>
    intro i h hi h22 h23 h24 h25
    have hc : ¬ nI m ≤ nI i := nI_ge (by omega) (by omega)
    have i8 : i < 8 := by omega
    rw [qR_solve_57]
    simp only [qR_solve_86, jR_solve_86, qR_solve_87, jR_solve_87, jR_solve_57, w0, w1, w2i, w2r, w3, w4, w5_0, w5_1, w5_2, w5_3, w5_4, w5_5, w5_6, w5_7, w5_8, w6_0, w6_1, w7_0, w7_1, w7_2, w7_3, w7_4, w7_5, w8_0, w8_1, w9_0, w9_1, w9_2, w10_0, w10_1, w10_2, w10_3, w10_4, w10_5, w11, w12_0, w12_1, w12_2, w12_3, w12_4, w12_5, w13_0, w13_1, w13_2, w13_3, w13_4, w13_5, w14, w15i, w15r, w16, w17, w18, w19i, w19z, w19l, w20, w21, w22, w23, w24, w25, w26, w27, w28_1, w28_2, w28_3, w28_4, w28_5, w28_6, w29, w30i, w30z, w31, w32, w33, w34, w35, w36, w37_1, w37_2, w37_3, w37_4, w37_5, w37_6, isO_O, set1_0, set1_1i, set1_1r, set1_1n, set1_1l, set1_s, set2_0, set2_1i, set2_1r, set2_1n, set2_1l, set2_s, ldv_i, ldv_l, ldv_r, ldv_s, ldi_i, ldi_s, fK_0, fK_s, gfc_O, fS_0, fS_s, uH_s, uH_n, uH_u, tl_s, tl_n, b1_0, b1_1, ite_true, ite_false, if_true, if_false, List.length_nil, List.length_cons, Nat.zero_le, Nat.zero_add, Nat.reduceAdd, Nat.reduceLeDiff, Nat.reduceLT, Nat.reduceEqDiff, Nat.reduceMul, Nat.add_left_cancel_iff, not_false_eq_true, h22, h23, hc, R_reaches h22 hr i8, z01, R_rentAbove h22 h24 h25 hr ho hm i8, wJc_n i8 (show 8 < 2 ^ 31 by decide), nI_1]
    by_cases hb : r.testBit i = true
    · rw [if_neg (fun z => z hb)]
      rw [ih (i + 1) _ (by omega) (by rw [uH_n _ _ (by omega)]; exact h22) (by rw [uH_s, abF, if_pos hb]) (by rw [uH_n _ _ (by omega)]; exact h24) (by rw [uH_n _ _ (by omega)]; exact h25), uH_u]
    · rw [if_pos hb]
      rw [ih (i + 1) _ (by omega) (by rw [uH_n _ _ (by omega)]; exact h22) (by rw [uH_s, abF, if_neg hb]) (by rw [uH_n _ _ (by omega)]; exact h24) (by rw [uH_n _ _ (by omega)]; exact h25), uH_u]
theorem T_reachedSet_n (h0 : h t = tO t (nI m) pu ye) (h1 : h (t + 1) = aI 8 ki) (h5 : h (t + 5) = aI 64 sh) (hm : m ≤ 8) : WpM 36 [.ref t] h Q = Q (some (.int (nI (rcF ki sh m)))) h := T_reachedSet (fxB ki) (fun a _ => by simp [fxB]) (bsF sh m) (adB sh) (fun a b _ _ => by simp [adB]) (fun a => rfl) h0 h1 h5 hm
theorem T_fixedSet_n (h0 : h t = tO t (nI m) pu ye) (h1 : h (t + 1) = aI 8 ki) (hm : m ≤ 8) : WpM 35 [.ref t] h Q = Q (some (.int (nI (fxN ki m)))) h := T_fixedSet (fxB ki) (fun a _ => by simp [fxB]) h0 h1 hm
/-- the open houses -/
def opN (ki sh : Nat → Int32) (m : Nat) : Nat := andn (rcF ki sh m) (fxN ki m)
/-- the rows when they are solved, and what is below -/
def slR (ro : Nat → Int64) (ki sh : Nat → Int32) (m : Nat) : (Nat → Int64) × Int64 := coF (flO ro sh (opN ki sh m) m m) (opN ki sh m) m m
theorem R_solve (ht : t + 6 < 22) (h22 : h 22 = rO be re op sz) (h23 : h 23 = aJ 8 ab) (h24 : h 24 = aI 8 ak) (h25 : h 25 = aJ 72 ro) (h0 : h t = tO t (nI m) pu ye) (h1 : h (t + 1) = aI 8 ki) (h2 : h (t + 2) = aI 8 as) (h5 : h (t + 5) = aI 64 sh) (hm : m ≤ 8) : WpM 2 [.ref 22, .ref t] h Q = Q none (uH (uH (uH (uH h 22 (rO (slR ro ki sh m).2 (nI (rcF ki sh m)) (nI (opN ki sh m)) (nI m))) 25 (aJ 72 (slR ro ki sh m).1)) 24 (aI 8 (va_cpy as ak 0 0 8))) 23 (aJ 8 (abF ab (slR ro ki sh m).1 (rcF ki sh m) (opN ki sh m) (slR ro ki sh m).2 (va_cpy as ak 0 0 8) m m))) := by
  have hr : rcF ki sh m < 256 := rcF_lt ki sh hm
  have ho : opN ki sh m < 256 := andn_lt (k := 8) hr
  have t22 : ¬ t = 22 := by omega
  have t25 : ¬ t = 25 := by omega
  have t122 : ¬ t + 1 = 22 := by omega
  have t222 : ¬ t + 2 = 22 := by omega
  have t225 : ¬ t + 2 = 25 := by omega
  have t522 : ¬ t + 5 = 22 := by omega
  rw [eR_solve]
  have a0 : ∀ c, (uH h 22 c) t = tO t (nI m) pu ye := fun c => by rw [uH_n _ _ t22]; exact h0
  have a1 : ∀ c, (uH h 22 c) (t + 1) = aI 8 ki := fun c => by rw [uH_n _ _ t122]; exact h1
  have a5 : ∀ c, (uH h 22 c) (t + 5) = aI 64 sh := fun c => by rw [uH_n _ _ t522]; exact h5
  have a25 : ∀ c, (uH h 22 c) 25 = aJ 72 ro := fun c => by rw [uH_n _ _ (by decide)]; exact h25
  simp only [qR_solve_0, w0, w1, w2i, w2r, w3, w4, w5_0, w5_1, w5_2, w5_3, w5_4, w5_5, w5_6, w5_7, w5_8, w6_0, w6_1, w7_0, w7_1, w7_2, w7_3, w7_4, w7_5, w8_0, w8_1, w9_0, w9_1, w9_2, w10_0, w10_1, w10_2, w10_3, w10_4, w10_5, w11, w12_0, w12_1, w12_2, w12_3, w12_4, w12_5, w13_0, w13_1, w13_2, w13_3, w13_4, w13_5, w14, w15i, w15r, w16, w17, w18, w19i, w19z, w19l, w20, w21, w22, w23, w24, w25, w26, w27, w28_1, w28_2, w28_3, w28_4, w28_5, w28_6, w29, w30i, w30z, w31, w32, w33, w34, w35, w36, w37_1, w37_2, w37_3, w37_4, w37_5, w37_6, isO_O, set1_0, set1_1i, set1_1r, set1_1n, set1_1l, set1_s, set2_0, set2_1i, set2_1r, set2_1n, set2_1l, set2_s, ldv_i, ldv_l, ldv_r, ldv_s, ldi_i, ldi_s, fK_0, fK_s, gfc_O, fS_0, fS_s, uH_s, uH_n, uH_u, tl_s, tl_n, b1_0, b1_1, ite_true, ite_false, if_true, if_false, List.length_nil, List.length_cons, Nat.zero_le, Nat.zero_add, Nat.reduceAdd, Nat.reduceLeDiff, Nat.reduceLT, Nat.reduceEqDiff, Nat.reduceMul, Nat.add_left_cancel_iff, not_false_eq_true, h22, h0, pfc_0, a0, T_reachedSet_n (a0 _) (a1 _) (a5 _) hm, T_fixedSet_n (a0 _) (a1 _) hm, nI_andn, R_fillRows ht (uH_s _ _ _) (a25 _) (a0 _) (a5 _) ho hm]
  rw [show andn (rcF ki sh m) (fxN ki m) = opN ki sh m from rfl]
  rw [R_fillRows ht (uH_s _ _ _) (a25 _) (a0 _) (a5 _) ho hm]
  simp only [w0, w1, w2i, w2r, w3, w4, w5_0, w5_1, w5_2, w5_3, w5_4, w5_5, w5_6, w5_7, w5_8, w6_0, w6_1, w7_0, w7_1, w7_2, w7_3, w7_4, w7_5, w8_0, w8_1, w9_0, w9_1, w9_2, w10_0, w10_1, w10_2, w10_3, w10_4, w10_5, w11, w12_0, w12_1, w12_2, w12_3, w12_4, w12_5, w13_0, w13_1, w13_2, w13_3, w13_4, w13_5, w14, w15i, w15r, w16, w17, w18, w19i, w19z, w19l, w20, w21, w22, w23, w24, w25, w26, w27, w28_1, w28_2, w28_3, w28_4, w28_5, w28_6, w29, w30i, w30z, w31, w32, w33, w34, w35, w36, w37_1, w37_2, w37_3, w37_4, w37_5, w37_6, isO_O, set1_0, set1_1i, set1_1r, set1_1n, set1_1l, set1_s, set2_0, set2_1i, set2_1r, set2_1n, set2_1l, set2_s, ldv_i, ldv_l, ldv_r, ldv_s, ldi_i, ldi_s, fK_0, fK_s, gfc_O, fS_0, fS_s, uH_s, uH_n, uH_u, tl_s, tl_n, b1_0, b1_1, ite_true, ite_false, if_true, if_false, List.length_nil, List.length_cons, Nat.zero_le, Nat.zero_add, Nat.reduceAdd, Nat.reduceLeDiff, Nat.reduceLT, Nat.reduceEqDiff, Nat.reduceMul, Nat.add_left_cancel_iff, not_false_eq_true]
  rw [R_clearRows (by rw [uH_n _ _ (by decide), uH_s]) (uH_s _ _ _) ho hm]
  simp only [w0, w1, w2i, w2r, w3, w4, w5_0, w5_1, w5_2, w5_3, w5_4, w5_5, w5_6, w5_7, w5_8, w6_0, w6_1, w7_0, w7_1, w7_2, w7_3, w7_4, w7_5, w8_0, w8_1, w9_0, w9_1, w9_2, w10_0, w10_1, w10_2, w10_3, w10_4, w10_5, w11, w12_0, w12_1, w12_2, w12_3, w12_4, w12_5, w13_0, w13_1, w13_2, w13_3, w13_4, w13_5, w14, w15i, w15r, w16, w17, w18, w19i, w19z, w19l, w20, w21, w22, w23, w24, w25, w26, w27, w28_1, w28_2, w28_3, w28_4, w28_5, w28_6, w29, w30i, w30z, w31, w32, w33, w34, w35, w36, w37_1, w37_2, w37_3, w37_4, w37_5, w37_6, isO_O, set1_0, set1_1i, set1_1r, set1_1n, set1_1l, set1_s, set2_0, set2_1i, set2_1r, set2_1n, set2_1l, set2_s, ldv_i, ldv_l, ldv_r, ldv_s, ldi_i, ldi_s, fK_0, fK_s, gfc_O, fS_0, fS_s, uH_s, uH_n, uH_u, tl_s, tl_n, b1_0, b1_1, ite_true, ite_false, if_true, if_false, List.length_nil, List.length_cons, Nat.zero_le, Nat.zero_add, Nat.reduceAdd, Nat.reduceLeDiff, Nat.reduceLT, Nat.reduceEqDiff, Nat.reduceMul, Nat.add_left_cancel_iff, not_false_eq_true, h0, h2, t22, t25, t222, t225, h24, cp8]
  rw [show coF (flO ro sh (opN ki sh m) m m) (opN ki sh m) m m = slR ro ki sh m from rfl]
  have hz := R_solve_loop (Q := Q) (t := t) (ab := ab) (ak := va_cpy as ak 0 0 8) (ro := (slR ro ki sh m).1) (be := (slR ro ki sh m).2) hr ho hm m 0
  rw [show nI 0 = 0 from rfl] at hz
  rw [hz _ (by omega) (by rw [uH_n _ _ (by decide), uH_s]) (by rw [uH_n _ _ (by decide), uH_n _ _ (by decide), uH_n _ _ (by decide), uH_n _ _ (by decide)]; exact h23) (by rw [uH_s]) (by rw [uH_n _ _ (by decide), uH_n _ _ (by decide), uH_s])]
  refine congrArg (Q none) ?_
  funext q
  simp only [uH]
  by_cases q23 : q = 23
  · simp [q23]
  · by_cases q24 : q = 24
    · simp [q24]
    · by_cases q25 : q = 25
      · simp [q25]
      · by_cases q22 : q = 22
        · simp [q22]
        · simp [q22, q23, q24, q25]
end RENTS
end
section
/-! Rents: other askings, incomes, near -/
section RENTS2
variable {h : AH} {Q : Option Value → AH → Prop} {t : Nat} {n pu ye : Int32} {ki as ow ca sh ah ak : Nat → Int32} {be : Int64} {re op sz : Int32} {ab ro : Nat → Int64} {r o m : Nat}
theorem R_reprice_loop {f : Nat} {more v : Int32} (hr : r < 256) (ho : o < 256) (hm : m ≤ 8) (hf : f < 8) : ∀ (e i : Nat) (h : AH), i + e = m → h 22 = rO be (nI r) (nI o) (nI m) → h 23 = aJ 8 (rpF ab ro r o be f more i) → h 25 = aJ 72 ro → Wp none 9 qR_reprice_12 [some (.ref 22), some (.int (nI f)), some (.int v), some (.int more), some (.int (nI i))] [] h Q = Wp none 9 qR_reprice_56 [some (.ref 22), some (.int (nI f)), some (.int v), some (.int more), some (.int (nI m))] [] (uH h 23 (aJ 8 (rpF ab ro r o be f more m))) Q := by
  intro e
  induction e with
  | zero =>
    intro i h hi h22 h23 h25
    have e : i = m := by omega
    subst e
    have hc : nI i ≤ nI i := nI_le (Nat.le_refl i) (by omega)
    rw [qR_reprice_12]
    simp only [jR_reprice_56, w0, w1, w2i, w2r, w3, w4, w5_0, w5_1, w5_2, w5_3, w5_4, w5_5, w5_6, w5_7, w5_8, w6_0, w6_1, w7_0, w7_1, w7_2, w7_3, w7_4, w7_5, w8_0, w8_1, w9_0, w9_1, w9_2, w10_0, w10_1, w10_2, w10_3, w10_4, w10_5, w11, w12_0, w12_1, w12_2, w12_3, w12_4, w12_5, w13_0, w13_1, w13_2, w13_3, w13_4, w13_5, w14, w15i, w15r, w16, w17, w18, w19i, w19z, w19l, w20, w21, w22, w23, w24, w25, w26, w27, w28_1, w28_2, w28_3, w28_4, w28_5, w28_6, w29, w30i, w30z, w31, w32, w33, w34, w35, w36, w37_1, w37_2, w37_3, w37_4, w37_5, w37_6, isO_O, set1_0, set1_1i, set1_1r, set1_1n, set1_1l, set1_s, set2_0, set2_1i, set2_1r, set2_1n, set2_1l, set2_s, ldv_i, ldv_l, ldv_r, ldv_s, ldi_i, ldi_s, fK_0, fK_s, gfc_O, fS_0, fS_s, uH_s, uH_n, uH_u, tl_s, tl_n, b1_0, b1_1, ite_true, ite_false, if_true, if_false, List.length_nil, List.length_cons, Nat.zero_le, Nat.zero_add, Nat.reduceAdd, Nat.reduceLeDiff, Nat.reduceLT, Nat.reduceEqDiff, Nat.reduceMul, Nat.add_left_cancel_iff, not_false_eq_true, h22, hc]
    rw [uH_id h h23]
  | succ e ih =>
    intro i h hi h22 h23 h25
    have hc : ¬ nI m ≤ nI i := nI_ge (by omega) (by omega)
    have i8 : i < 8 := by omega
    rw [qR_reprice_12]
    simp only [qR_reprice_50, jR_reprice_50, jR_reprice_12, w0, w1, w2i, w2r, w3, w4, w5_0, w5_1, w5_2, w5_3, w5_4, w5_5, w5_6, w5_7, w5_8, w6_0, w6_1, w7_0, w7_1, w7_2, w7_3, w7_4, w7_5, w8_0, w8_1, w9_0, w9_1, w9_2, w10_0, w10_1, w10_2, w10_3, w10_4, w10_5, w11, w12_0, w12_1, w12_2, w12_3, w12_4, w12_5, w13_0, w13_1, w13_2, w13_3, w13_4, w13_5, w14, w15i, w15r, w16, w17, w18, w19i, w19z, w19l, w20, w21, w22, w23, w24, w25, w26, w27, w28_1, w28_2, w28_3, w28_4, w28_5, w28_6, w29, w30i, w30z, w31, w32, w33, w34, w35, w36, w37_1, w37_2, w37_3, w37_4, w37_5, w37_6, isO_O, set1_0, set1_1i, set1_1r, set1_1n, set1_1l, set1_s, set2_0, set2_1i, set2_1r, set2_1n, set2_1l, set2_s, ldv_i, ldv_l, ldv_r, ldv_s, ldi_i, ldi_s, fK_0, fK_s, gfc_O, fS_0, fS_s, uH_s, uH_n, uH_u, tl_s, tl_n, b1_0, b1_1, ite_true, ite_false, if_true, if_false, List.length_nil, List.length_cons, Nat.zero_le, Nat.zero_add, Nat.reduceAdd, Nat.reduceLeDiff, Nat.reduceLT, Nat.reduceEqDiff, Nat.reduceMul, Nat.add_left_cancel_iff, not_false_eq_true, h22, h23, hc, R_reaches h22 hr i8, z01, R_movesAbove h22 h25 ho i8 hf, rJc_n i8 (show 8 < 2 ^ 31 by decide), wJc_n i8 (show 8 < 2 ^ 31 by decide), nI_1]
    by_cases hb : r.testBit i = true
    · rw [if_neg (fun z => z hb)]
      rw [ih (i + 1) _ (by omega) (by rw [uH_n _ _ (by omega)]; exact h22) (by rw [uH_s, rpF, if_pos hb]) (by rw [uH_n _ _ (by omega)]; exact h25), uH_u]
    · rw [if_pos hb]
      rw [ih (i + 1) h (by omega) h22 (by rw [rpF, if_neg hb]; exact h23) h25]
theorem R_reprice {f : Nat} {v : Int32} (h22 : h 22 = rO be (nI r) (nI o) (nI m)) (h23 : h 23 = aJ 8 ab) (h24 : h 24 = aI 8 ak) (h25 : h 25 = aJ 72 ro) (hr : r < 256) (ho : o < 256) (hm : m ≤ 8) (hf : f < 8) : WpM 9 [.ref 22, .int (nI f), .int v] h Q = Q none (uH (uH h 23 (aJ 8 (rpF ab ro r o be f (v - ak f) m))) 24 (aI 8 (upd ak f v))) := by
  rw [eR_reprice]
  simp only [qR_reprice_0, w0, w1, w2i, w2r, w3, w4, w5_0, w5_1, w5_2, w5_3, w5_4, w5_5, w5_6, w5_7, w5_8, w6_0, w6_1, w7_0, w7_1, w7_2, w7_3, w7_4, w7_5, w8_0, w8_1, w9_0, w9_1, w9_2, w10_0, w10_1, w10_2, w10_3, w10_4, w10_5, w11, w12_0, w12_1, w12_2, w12_3, w12_4, w12_5, w13_0, w13_1, w13_2, w13_3, w13_4, w13_5, w14, w15i, w15r, w16, w17, w18, w19i, w19z, w19l, w20, w21, w22, w23, w24, w25, w26, w27, w28_1, w28_2, w28_3, w28_4, w28_5, w28_6, w29, w30i, w30z, w31, w32, w33, w34, w35, w36, w37_1, w37_2, w37_3, w37_4, w37_5, w37_6, isO_O, set1_0, set1_1i, set1_1r, set1_1n, set1_1l, set1_s, set2_0, set2_1i, set2_1r, set2_1n, set2_1l, set2_s, ldv_i, ldv_l, ldv_r, ldv_s, ldi_i, ldi_s, fK_0, fK_s, gfc_O, fS_0, fS_s, uH_s, uH_n, uH_u, tl_s, tl_n, b1_0, b1_1, ite_true, ite_false, if_true, if_false, List.length_nil, List.length_cons, Nat.zero_le, Nat.zero_add, Nat.reduceAdd, Nat.reduceLeDiff, Nat.reduceLT, Nat.reduceEqDiff, Nat.reduceMul, Nat.add_left_cancel_iff, not_false_eq_true, h22, h24, rIc_n hf (show 8 < 2 ^ 31 by decide)]
  have e := R_reprice_loop (Q := Q) (more := v - ak f) (v := v) hr ho hm hf m 0 h (by omega) h22 h23 h25
  rw [show nI 0 = 0 from rfl] at e
  rw [e]
  simp only [qR_reprice_56, w0, w1, w2i, w2r, w3, w4, w5_0, w5_1, w5_2, w5_3, w5_4, w5_5, w5_6, w5_7, w5_8, w6_0, w6_1, w7_0, w7_1, w7_2, w7_3, w7_4, w7_5, w8_0, w8_1, w9_0, w9_1, w9_2, w10_0, w10_1, w10_2, w10_3, w10_4, w10_5, w11, w12_0, w12_1, w12_2, w12_3, w12_4, w12_5, w13_0, w13_1, w13_2, w13_3, w13_4, w13_5, w14, w15i, w15r, w16, w17, w18, w19i, w19z, w19l, w20, w21, w22, w23, w24, w25, w26, w27, w28_1, w28_2, w28_3, w28_4, w28_5, w28_6, w29, w30i, w30z, w31, w32, w33, w34, w35, w36, w37_1, w37_2, w37_3, w37_4, w37_5, w37_6, isO_O, set1_0, set1_1i, set1_1r, set1_1n, set1_1l, set1_s, set2_0, set2_1i, set2_1r, set2_1n, set2_1l, set2_s, ldv_i, ldv_l, ldv_r, ldv_s, ldi_i, ldi_s, fK_0, fK_s, gfc_O, fS_0, fS_s, uH_s, uH_n, uH_u, tl_s, tl_n, b1_0, b1_1, ite_true, ite_false, if_true, if_false, List.length_nil, List.length_cons, Nat.zero_le, Nat.zero_add, Nat.reduceAdd, Nat.reduceLeDiff, Nat.reduceLT, Nat.reduceEqDiff, Nat.reduceMul, Nat.add_left_cancel_iff, not_false_eq_true, h22, h24, wIc_n hf (show 8 < 2 ^ 31 by decide)]
theorem R_income_loop {w : Int32} (h22 : h 22 = rO be (nI r) op (nI m)) (h23 : h 23 = aJ 8 ab) (h0 : h t = tO t (nI m) pu ye) (h3 : h (t + 3) = aI 8 ow) (hr : r < 256) (hm : m ≤ 8) : ∀ (e i : Nat), i + e = m → Wp none 10 qR_incomeAbove_5 [some (.ref 22), some (.ref t), some (.int w), some (.long (icF ab r be ow pu w i)), none, some (.int (nI i))] [] h Q = Q (some (.long (icF ab r be ow pu w m))) h := by
  intro e
  induction e with
  | zero =>
    intro i hi
    have e : i = m := by omega
    subst e
    have hc : nI i ≤ nI i := nI_le (Nat.le_refl i) (by omega)
    simp only [qR_incomeAbove_5, qR_incomeAbove_71, jR_incomeAbove_71, w0, w1, w2i, w2r, w3, w4, w5_0, w5_1, w5_2, w5_3, w5_4, w5_5, w5_6, w5_7, w5_8, w6_0, w6_1, w7_0, w7_1, w7_2, w7_3, w7_4, w7_5, w8_0, w8_1, w9_0, w9_1, w9_2, w10_0, w10_1, w10_2, w10_3, w10_4, w10_5, w11, w12_0, w12_1, w12_2, w12_3, w12_4, w12_5, w13_0, w13_1, w13_2, w13_3, w13_4, w13_5, w14, w15i, w15r, w16, w17, w18, w19i, w19z, w19l, w20, w21, w22, w23, w24, w25, w26, w27, w28_1, w28_2, w28_3, w28_4, w28_5, w28_6, w29, w30i, w30z, w31, w32, w33, w34, w35, w36, w37_1, w37_2, w37_3, w37_4, w37_5, w37_6, isO_O, set1_0, set1_1i, set1_1r, set1_1n, set1_1l, set1_s, set2_0, set2_1i, set2_1r, set2_1n, set2_1l, set2_s, ldv_i, ldv_l, ldv_r, ldv_s, ldi_i, ldi_s, fK_0, fK_s, gfc_O, fS_0, fS_s, uH_s, uH_n, uH_u, tl_s, tl_n, b1_0, b1_1, ite_true, ite_false, if_true, if_false, List.length_nil, List.length_cons, Nat.zero_le, Nat.zero_add, Nat.reduceAdd, Nat.reduceLeDiff, Nat.reduceLT, Nat.reduceEqDiff, Nat.reduceMul, Nat.add_left_cancel_iff, not_false_eq_true, h22, hc]
  | succ e ih =>
    intro i hi
    have hc : ¬ nI m ≤ nI i := nI_ge (by omega) (by omega)
    have i8 : i < 8 := by omega
    rw [qR_incomeAbove_5]
    simp only [qR_incomeAbove_65, jR_incomeAbove_65, jR_incomeAbove_5, w0, w1, w2i, w2r, w3, w4, w5_0, w5_1, w5_2, w5_3, w5_4, w5_5, w5_6, w5_7, w5_8, w6_0, w6_1, w7_0, w7_1, w7_2, w7_3, w7_4, w7_5, w8_0, w8_1, w9_0, w9_1, w9_2, w10_0, w10_1, w10_2, w10_3, w10_4, w10_5, w11, w12_0, w12_1, w12_2, w12_3, w12_4, w12_5, w13_0, w13_1, w13_2, w13_3, w13_4, w13_5, w14, w15i, w15r, w16, w17, w18, w19i, w19z, w19l, w20, w21, w22, w23, w24, w25, w26, w27, w28_1, w28_2, w28_3, w28_4, w28_5, w28_6, w29, w30i, w30z, w31, w32, w33, w34, w35, w36, w37_1, w37_2, w37_3, w37_4, w37_5, w37_6, isO_O, set1_0, set1_1i, set1_1r, set1_1n, set1_1l, set1_s, set2_0, set2_1i, set2_1r, set2_1n, set2_1l, set2_s, ldv_i, ldv_l, ldv_r, ldv_s, ldi_i, ldi_s, fK_0, fK_s, gfc_O, fS_0, fS_s, uH_s, uH_n, uH_u, tl_s, tl_n, b1_0, b1_1, ite_true, ite_false, if_true, if_false, List.length_nil, List.length_cons, Nat.zero_le, Nat.zero_add, Nat.reduceAdd, Nat.reduceLeDiff, Nat.reduceLT, Nat.reduceEqDiff, Nat.reduceMul, Nat.add_left_cancel_iff, not_false_eq_true, h22, h23, h0, h3, hc, R_reaches h22 hr i8, z01, rIc_n i8 (show 8 < 2 ^ 31 by decide), rJc_n i8 (show 8 < 2 ^ 31 by decide), lg_cmp_gt, ne_eq, nI_1]
    have ih := ih (i + 1) (by omega)
    by_cases h1 : ow i = w
    · rw [if_neg (fun z => z h1)]
      by_cases hb : r.testBit i = true
      · rw [if_neg (fun z => z hb)]
        by_cases hg : pu.toInt64 * be < ab i
        · rw [if_pos hg]
          rw [icF, if_neg (fun z => by have := z.2.2; rw [fa_le64] at this; rw [fa_lt64] at hg; omega)] at ih
          exact ih
        · rw [if_neg hg]
          rw [icF, if_pos ⟨h1, hb, by rw [fa_lt64] at hg; rw [fa_le64]; omega⟩] at ih
          exact ih
      · rw [if_pos hb]
        rw [icF, if_neg (fun z => hb z.2.1)] at ih
        exact ih
    · rw [if_pos h1]
      rw [icF, if_neg (fun z => h1 z.1)] at ih
      exact ih
theorem R_incomeAbove {w : Int32} (h22 : h 22 = rO be (nI r) op (nI m)) (h23 : h 23 = aJ 8 ab) (h0 : h t = tO t (nI m) pu ye) (h3 : h (t + 3) = aI 8 ow) (hr : r < 256) (hm : m ≤ 8) : WpM 10 [.ref 22, .ref t, .int w] h Q = Q (some (.long (icF ab r be ow pu w m))) h := by
  rw [eR_incomeAbove]
  simp only [qR_incomeAbove_0, w0, w1, w2i, w2r, w3, w4, w5_0, w5_1, w5_2, w5_3, w5_4, w5_5, w5_6, w5_7, w5_8, w6_0, w6_1, w7_0, w7_1, w7_2, w7_3, w7_4, w7_5, w8_0, w8_1, w9_0, w9_1, w9_2, w10_0, w10_1, w10_2, w10_3, w10_4, w10_5, w11, w12_0, w12_1, w12_2, w12_3, w12_4, w12_5, w13_0, w13_1, w13_2, w13_3, w13_4, w13_5, w14, w15i, w15r, w16, w17, w18, w19i, w19z, w19l, w20, w21, w22, w23, w24, w25, w26, w27, w28_1, w28_2, w28_3, w28_4, w28_5, w28_6, w29, w30i, w30z, w31, w32, w33, w34, w35, w36, w37_1, w37_2, w37_3, w37_4, w37_5, w37_6, isO_O, set1_0, set1_1i, set1_1r, set1_1n, set1_1l, set1_s, set2_0, set2_1i, set2_1r, set2_1n, set2_1l, set2_s, ldv_i, ldv_l, ldv_r, ldv_s, ldi_i, ldi_s, fK_0, fK_s, gfc_O, fS_0, fS_s, uH_s, uH_n, uH_u, tl_s, tl_n, b1_0, b1_1, ite_true, ite_false, if_true, if_false, List.length_nil, List.length_cons, Nat.zero_le, Nat.zero_add, Nat.reduceAdd, Nat.reduceLeDiff, Nat.reduceLT, Nat.reduceEqDiff, Nat.reduceMul, Nat.add_left_cancel_iff, not_false_eq_true]
  exact R_income_loop h22 h23 h0 h3 hr hm m 0 (by omega)
theorem R_areNear_loop {pe : Int32} (h22 : h 22 = rO be (nI r) op (nI m)) (h23 : h 23 = aJ 8 ab) (h0 : h t = tO t (nI m) pu ye) (h2 : h (t + 2) = aI 8 as) (hr : r < 256) (hm : m ≤ 8) : ∀ (e i : Nat), i + e = m → Wp none 11 qR_areNear_2 [some (.ref 22), some (.ref t), some (.int pe), some (.int (nI i))] [] h Q = ((∃ z : Int32, (z = 1 ∧ ∀ k, i ≤ k → k < m → anF ab r be as pe k) ∧ Q (some (.int z)) h) ∨ (∃ z : Int32, (z = 0 ∧ ∃ k, i ≤ k ∧ k < m ∧ ¬ anF ab r be as pe k) ∧ Q (some (.int z)) h)) := by
  intro e
  induction e with
  | zero =>
    intro i hi
    have e : i = m := by omega
    subst e
    have hc : nI i ≤ nI i := nI_le (Nat.le_refl i) (by omega)
    simp only [qR_areNear_2, qR_areNear_59, jR_areNear_59, w0, w1, w2i, w2r, w3, w4, w5_0, w5_1, w5_2, w5_3, w5_4, w5_5, w5_6, w5_7, w5_8, w6_0, w6_1, w7_0, w7_1, w7_2, w7_3, w7_4, w7_5, w8_0, w8_1, w9_0, w9_1, w9_2, w10_0, w10_1, w10_2, w10_3, w10_4, w10_5, w11, w12_0, w12_1, w12_2, w12_3, w12_4, w12_5, w13_0, w13_1, w13_2, w13_3, w13_4, w13_5, w14, w15i, w15r, w16, w17, w18, w19i, w19z, w19l, w20, w21, w22, w23, w24, w25, w26, w27, w28_1, w28_2, w28_3, w28_4, w28_5, w28_6, w29, w30i, w30z, w31, w32, w33, w34, w35, w36, w37_1, w37_2, w37_3, w37_4, w37_5, w37_6, isO_O, set1_0, set1_1i, set1_1r, set1_1n, set1_1l, set1_s, set2_0, set2_1i, set2_1r, set2_1n, set2_1l, set2_s, ldv_i, ldv_l, ldv_r, ldv_s, ldi_i, ldi_s, fK_0, fK_s, gfc_O, fS_0, fS_s, uH_s, uH_n, uH_u, tl_s, tl_n, b1_0, b1_1, ite_true, ite_false, if_true, if_false, List.length_nil, List.length_cons, Nat.zero_le, Nat.zero_add, Nat.reduceAdd, Nat.reduceLeDiff, Nat.reduceLT, Nat.reduceEqDiff, Nat.reduceMul, Nat.add_left_cancel_iff, not_false_eq_true, h22, hc]
    apply propext
    constructor
    · intro z; exact Or.inl ⟨1, ⟨rfl, fun k h1 h2 => by omega⟩, z⟩
    · rintro (⟨z, ⟨rfl, -⟩, hq⟩ | ⟨z, ⟨rfl, k, h1, h2, -⟩, hq⟩)
      · exact hq
      · omega
  | succ e ih =>
    intro i hi
    have hc : ¬ nI m ≤ nI i := nI_ge (by omega) (by omega)
    have i8 : i < 8 := by omega
    rw [qR_areNear_2]
    simp only [qR_areNear_53, jR_areNear_53, jR_areNear_2, w0, w1, w2i, w2r, w3, w4, w5_0, w5_1, w5_2, w5_3, w5_4, w5_5, w5_6, w5_7, w5_8, w6_0, w6_1, w7_0, w7_1, w7_2, w7_3, w7_4, w7_5, w8_0, w8_1, w9_0, w9_1, w9_2, w10_0, w10_1, w10_2, w10_3, w10_4, w10_5, w11, w12_0, w12_1, w12_2, w12_3, w12_4, w12_5, w13_0, w13_1, w13_2, w13_3, w13_4, w13_5, w14, w15i, w15r, w16, w17, w18, w19i, w19z, w19l, w20, w21, w22, w23, w24, w25, w26, w27, w28_1, w28_2, w28_3, w28_4, w28_5, w28_6, w29, w30i, w30z, w31, w32, w33, w34, w35, w36, w37_1, w37_2, w37_3, w37_4, w37_5, w37_6, isO_O, set1_0, set1_1i, set1_1r, set1_1n, set1_1l, set1_s, set2_0, set2_1i, set2_1r, set2_1n, set2_1l, set2_s, ldv_i, ldv_l, ldv_r, ldv_s, ldi_i, ldi_s, fK_0, fK_s, gfc_O, fS_0, fS_s, uH_s, uH_n, uH_u, tl_s, tl_n, b1_0, b1_1, ite_true, ite_false, if_true, if_false, List.length_nil, List.length_cons, Nat.zero_le, Nat.zero_add, Nat.reduceAdd, Nat.reduceLeDiff, Nat.reduceLT, Nat.reduceEqDiff, Nat.reduceMul, Nat.add_left_cancel_iff, not_false_eq_true, h22, h23, h0, h2, hc, R_reaches h22 hr i8, z01, rIc_n i8 (show 8 < 2 ^ 31 by decide), rJc_n i8 (show 8 < 2 ^ 31 by decide), lg_cmp_le, nI_1]
    rw [ih (i + 1) (by omega)]
    by_cases ha : anF ab r be as pe i
    · have e1 : (∀ k, i + 1 ≤ k → k < m → anF ab r be as pe k) ↔ (∀ k, i ≤ k → k < m → anF ab r be as pe k) := by
        constructor
        · intro hh k h1 h2
          rcases Nat.lt_or_ge i k with h3 | h3
          · exact hh k h3 h2
          · have : k = i := by omega
            subst this; exact ha
        · intro hh k h1 h2; exact hh k (by omega) h2
      have e2 : (∃ k, i + 1 ≤ k ∧ k < m ∧ ¬ anF ab r be as pe k) ↔ (∃ k, i ≤ k ∧ k < m ∧ ¬ anF ab r be as pe k) := by
        constructor
        · rintro ⟨k, h1, h2, h3⟩; exact ⟨k, by omega, h2, h3⟩
        · rintro ⟨k, h1, h2, h3⟩
          rcases Nat.lt_or_ge i k with h4 | h4
          · exact ⟨k, h4, h2, h3⟩
          · have : k = i := by omega
            subst this; exact absurd ha h3
      rw [e1, e2]
      by_cases hb : r.testBit i = true
      · rw [if_neg (fun z => z hb), if_pos (ha hb)]
      · rw [if_pos hb]
    · have hb : r.testBit i = true := Classical.byContradiction fun z => ha (fun y => absurd y z)
      have hn : ¬ (if 0 < (as i).toInt64 * be - ab i then (as i).toInt64 * be - ab i else -((as i).toInt64 * be - ab i)) ≤ pe.toInt64 * be := fun z => ha (fun _ => z)
      rw [if_neg (fun z => z hb), if_neg hn]
      apply propext
      constructor
      · intro z; exact Or.inr ⟨0, ⟨rfl, i, Nat.le_refl i, by omega, ha⟩, z⟩
      · rintro (⟨z, ⟨rfl, hh⟩, hq⟩ | ⟨z, ⟨rfl, -⟩, hq⟩)
        · exact absurd (hh i (Nat.le_refl i) (by omega)) ha
        · exact hq
def nrB (ab : Nat → Int64) (r : Nat) (be : Int64) (as : Nat → Int32) (pe : Int32) (m : Nat) : Prop := ∀ k, k < m → anF ab r be as pe k
theorem R_areNear_1 {pe : Int32} (h22 : h 22 = rO be (nI r) op (nI m)) (h23 : h 23 = aJ 8 ab) (h0 : h t = tO t (nI m) pu ye) (h2 : h (t + 2) = aI 8 as) (hr : r < 256) (hm : m ≤ 8) (hn : nrB ab r be as pe m) : WpM 11 [.ref 22, .ref t, .int pe] h Q = Q (some (.int 1)) h := by
  rw [eR_areNear]
  simp only [qR_areNear_0, w0, w1, w2i, w2r, w3, w4, w5_0, w5_1, w5_2, w5_3, w5_4, w5_5, w5_6, w5_7, w5_8, w6_0, w6_1, w7_0, w7_1, w7_2, w7_3, w7_4, w7_5, w8_0, w8_1, w9_0, w9_1, w9_2, w10_0, w10_1, w10_2, w10_3, w10_4, w10_5, w11, w12_0, w12_1, w12_2, w12_3, w12_4, w12_5, w13_0, w13_1, w13_2, w13_3, w13_4, w13_5, w14, w15i, w15r, w16, w17, w18, w19i, w19z, w19l, w20, w21, w22, w23, w24, w25, w26, w27, w28_1, w28_2, w28_3, w28_4, w28_5, w28_6, w29, w30i, w30z, w31, w32, w33, w34, w35, w36, w37_1, w37_2, w37_3, w37_4, w37_5, w37_6, isO_O, set1_0, set1_1i, set1_1r, set1_1n, set1_1l, set1_s, set2_0, set2_1i, set2_1r, set2_1n, set2_1l, set2_s, ldv_i, ldv_l, ldv_r, ldv_s, ldi_i, ldi_s, fK_0, fK_s, gfc_O, fS_0, fS_s, uH_s, uH_n, uH_u, tl_s, tl_n, b1_0, b1_1, ite_true, ite_false, if_true, if_false, List.length_nil, List.length_cons, Nat.zero_le, Nat.zero_add, Nat.reduceAdd, Nat.reduceLeDiff, Nat.reduceLT, Nat.reduceEqDiff, Nat.reduceMul, Nat.add_left_cancel_iff, not_false_eq_true]
  have e := R_areNear_loop (Q := Q) (pe := pe) h22 h23 h0 h2 hr hm m 0 (by omega)
  rw [show nI 0 = 0 from rfl] at e
  rw [e]
  apply propext
  constructor
  · rintro (⟨z, ⟨rfl, -⟩, hq⟩ | ⟨z, ⟨rfl, k, h1, h2, h3⟩, hq⟩)
    · exact hq
    · exact absurd (hn k h2) h3
  · intro hq; exact Or.inl ⟨1, ⟨rfl, fun k _ h => hn k h⟩, hq⟩
theorem R_areNear_0 {pe : Int32} (h22 : h 22 = rO be (nI r) op (nI m)) (h23 : h 23 = aJ 8 ab) (h0 : h t = tO t (nI m) pu ye) (h2 : h (t + 2) = aI 8 as) (hr : r < 256) (hm : m ≤ 8) (hn : ¬ nrB ab r be as pe m) : WpM 11 [.ref 22, .ref t, .int pe] h Q = Q (some (.int 0)) h := by
  rw [eR_areNear]
  simp only [qR_areNear_0, w0, w1, w2i, w2r, w3, w4, w5_0, w5_1, w5_2, w5_3, w5_4, w5_5, w5_6, w5_7, w5_8, w6_0, w6_1, w7_0, w7_1, w7_2, w7_3, w7_4, w7_5, w8_0, w8_1, w9_0, w9_1, w9_2, w10_0, w10_1, w10_2, w10_3, w10_4, w10_5, w11, w12_0, w12_1, w12_2, w12_3, w12_4, w12_5, w13_0, w13_1, w13_2, w13_3, w13_4, w13_5, w14, w15i, w15r, w16, w17, w18, w19i, w19z, w19l, w20, w21, w22, w23, w24, w25, w26, w27, w28_1, w28_2, w28_3, w28_4, w28_5, w28_6, w29, w30i, w30z, w31, w32, w33, w34, w35, w36, w37_1, w37_2, w37_3, w37_4, w37_5, w37_6, isO_O, set1_0, set1_1i, set1_1r, set1_1n, set1_1l, set1_s, set2_0, set2_1i, set2_1r, set2_1n, set2_1l, set2_s, ldv_i, ldv_l, ldv_r, ldv_s, ldi_i, ldi_s, fK_0, fK_s, gfc_O, fS_0, fS_s, uH_s, uH_n, uH_u, tl_s, tl_n, b1_0, b1_1, ite_true, ite_false, if_true, if_false, List.length_nil, List.length_cons, Nat.zero_le, Nat.zero_add, Nat.reduceAdd, Nat.reduceLeDiff, Nat.reduceLT, Nat.reduceEqDiff, Nat.reduceMul, Nat.add_left_cancel_iff, not_false_eq_true]
  have e := R_areNear_loop (Q := Q) (pe := pe) h22 h23 h0 h2 hr hm m 0 (by omega)
  rw [show nI 0 = 0 from rfl] at e
  rw [e]
  apply propext
  constructor
  · rintro (⟨z, ⟨rfl, hh⟩, hq⟩ | ⟨z, ⟨rfl, -⟩, hq⟩)
    · exact absurd (fun k h => hh k (Nat.zero_le k) h) hn
    · exact hq
  · intro hq
    refine Or.inr ⟨0, ⟨rfl, ?_⟩, hq⟩
    exact Classical.byContradiction fun z => hn (fun k hk => Classical.byContradiction fun y => z ⟨k, Nat.zero_le k, hk, y⟩)
end RENTS2
end
