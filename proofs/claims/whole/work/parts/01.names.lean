-- ===== PART A: goes FIRST, ahead of the names: the tables' words, and 'selects' of the private methods out of them =====
/-- a private method of a class that the tables say can be made, by its rows of tables_1 -/
def lw_okq (q : MethodName × Nat) : Prop := (q.1.cls ≠ "java/lang/invoke/MethodHandle" ∧ q.1.cls ≠ "java/lang/invoke/VarHandle") ∧ Cond.instantiable q.1.cls q.2 ∈ tables_1 ∧ Cond.privateMethod q.1 ∈ tables_1 ∧ Cond.instanceMethod q.1 ∈ tables_1
theorem lw_p0 : lw_okq (⟨"MeanTown$Town", "besideSet", "(I)I"⟩, 9) := ⟨⟨by decide +kernel, by decide +kernel⟩, List.mem_of_getElem? (i := 19) (by decide +kernel), List.mem_of_getElem? (i := 241) (by decide +kernel), List.mem_of_getElem? (i := 242) (by decide +kernel)⟩
theorem lw_p1 : lw_okq (⟨"MeanTown$Tape", "readHouses", "(LMeanTown$Town;)I"⟩, 3) := ⟨⟨by decide +kernel, by decide +kernel⟩, List.mem_of_getElem? (i := 97) (by decide +kernel), List.mem_of_getElem? (i := 281) (by decide +kernel), List.mem_of_getElem? (i := 282) (by decide +kernel)⟩
theorem lw_p2 : lw_okq (⟨"MeanTown$Tape", "nextSign", "()I"⟩, 3) := ⟨⟨by decide +kernel, by decide +kernel⟩, List.mem_of_getElem? (i := 97) (by decide +kernel), List.mem_of_getElem? (i := 285) (by decide +kernel), List.mem_of_getElem? (i := 286) (by decide +kernel)⟩
theorem lw_p3 : lw_okq (⟨"MeanTown$Tape", "faultHere", "()I"⟩, 3) := ⟨⟨by decide +kernel, by decide +kernel⟩, List.mem_of_getElem? (i := 97) (by decide +kernel), List.mem_of_getElem? (i := 292) (by decide +kernel), List.mem_of_getElem? (i := 293) (by decide +kernel)⟩
theorem lw_p4 : lw_okq (⟨"MeanTown$Tape", "readNumber", "()I"⟩, 3) := ⟨⟨by decide +kernel, by decide +kernel⟩, List.mem_of_getElem? (i := 97) (by decide +kernel), List.mem_of_getElem? (i := 296) (by decide +kernel), List.mem_of_getElem? (i := 297) (by decide +kernel)⟩
theorem lw_p5 : lw_okq (⟨"MeanTown$Tape", "readShares", "(LMeanTown$Town;)I"⟩, 3) := ⟨⟨by decide +kernel, by decide +kernel⟩, List.mem_of_getElem? (i := 97) (by decide +kernel), List.mem_of_getElem? (i := 307) (by decide +kernel), List.mem_of_getElem? (i := 308) (by decide +kernel)⟩
theorem lw_p6 : lw_okq (⟨"MeanTown$Tape", "readDigit", "(I)I"⟩, 3) := ⟨⟨by decide +kernel, by decide +kernel⟩, List.mem_of_getElem? (i := 97) (by decide +kernel), List.mem_of_getElem? (i := 311) (by decide +kernel), List.mem_of_getElem? (i := 312) (by decide +kernel)⟩
theorem lw_p7 : lw_okq (⟨"MeanTown$Rents", "fillRows", "(LMeanTown$Town;)V"⟩, 7) := ⟨⟨by decide +kernel, by decide +kernel⟩, List.mem_of_getElem? (i := 66) (by decide +kernel), List.mem_of_getElem? (i := 351) (by decide +kernel), List.mem_of_getElem? (i := 352) (by decide +kernel)⟩
theorem lw_p8 : lw_okq (⟨"MeanTown$Rents", "clearRows", "()V"⟩, 7) := ⟨⟨by decide +kernel, by decide +kernel⟩, List.mem_of_getElem? (i := 66) (by decide +kernel), List.mem_of_getElem? (i := 358) (by decide +kernel), List.mem_of_getElem? (i := 359) (by decide +kernel)⟩
theorem lw_p9 : lw_okq (⟨"MeanTown$Rents", "clearRow", "(IIJ)V"⟩, 7) := ⟨⟨by decide +kernel, by decide +kernel⟩, List.mem_of_getElem? (i := 66) (by decide +kernel), List.mem_of_getElem? (i := 362) (by decide +kernel), List.mem_of_getElem? (i := 363) (by decide +kernel)⟩
theorem lw_p10 : lw_okq (⟨"MeanTown$Rents", "rentAbove", "(I)J"⟩, 7) := ⟨⟨by decide +kernel, by decide +kernel⟩, List.mem_of_getElem? (i := 66) (by decide +kernel), List.mem_of_getElem? (i := 371) (by decide +kernel), List.mem_of_getElem? (i := 372) (by decide +kernel)⟩
theorem lw_p11 : lw_okq (⟨"MeanTown", "trialLessNow", "(II)J"⟩, 9) := ⟨⟨by decide +kernel, by decide +kernel⟩, List.mem_of_getElem? (i := 11) (by decide +kernel), List.mem_of_getElem? (i := 410) (by decide +kernel), List.mem_of_getElem? (i := 411) (by decide +kernel)⟩
theorem lw_p12 : lw_okq (⟨"MeanTown$Town", "askingAfter", "(I)I"⟩, 9) := ⟨⟨by decide +kernel, by decide +kernel⟩, List.mem_of_getElem? (i := 19) (by decide +kernel), List.mem_of_getElem? (i := 432) (by decide +kernel), List.mem_of_getElem? (i := 433) (by decide +kernel)⟩
theorem lw_p13 : lw_okq (⟨"MeanTown", "fillIncomes", "(II)V"⟩, 9) := ⟨⟨by decide +kernel, by decide +kernel⟩, List.mem_of_getElem? (i := 11) (by decide +kernel), List.mem_of_getElem? (i := 467) (by decide +kernel), List.mem_of_getElem? (i := 468) (by decide +kernel)⟩
theorem lw_p14 : lw_okq (⟨"MeanTown", "isRest", "(I)Z"⟩, 9) := ⟨⟨by decide +kernel, by decide +kernel⟩, List.mem_of_getElem? (i := 11) (by decide +kernel), List.mem_of_getElem? (i := 471) (by decide +kernel), List.mem_of_getElem? (i := 472) (by decide +kernel)⟩
theorem lw_p15 : lw_okq (⟨"MeanTown", "isCheapWhenBought", "(IIII)Z"⟩, 9) := ⟨⟨by decide +kernel, by decide +kernel⟩, List.mem_of_getElem? (i := 11) (by decide +kernel), List.mem_of_getElem? (i := 479) (by decide +kernel), List.mem_of_getElem? (i := 480) (by decide +kernel)⟩
def lw_privs_1 : List (MethodName × Nat) := [(⟨"MeanTown$Town", "besideSet", "(I)I"⟩, 9), (⟨"MeanTown$Tape", "readHouses", "(LMeanTown$Town;)I"⟩, 3), (⟨"MeanTown$Tape", "nextSign", "()I"⟩, 3), (⟨"MeanTown$Tape", "faultHere", "()I"⟩, 3), (⟨"MeanTown$Tape", "readNumber", "()I"⟩, 3), (⟨"MeanTown$Tape", "readShares", "(LMeanTown$Town;)I"⟩, 3), (⟨"MeanTown$Tape", "readDigit", "(I)I"⟩, 3), (⟨"MeanTown$Rents", "fillRows", "(LMeanTown$Town;)V"⟩, 7), (⟨"MeanTown$Rents", "clearRows", "()V"⟩, 7), (⟨"MeanTown$Rents", "clearRow", "(IIJ)V"⟩, 7), (⟨"MeanTown$Rents", "rentAbove", "(I)J"⟩, 7), (⟨"MeanTown", "trialLessNow", "(II)J"⟩, 9), (⟨"MeanTown$Town", "askingAfter", "(I)I"⟩, 9), (⟨"MeanTown", "fillIncomes", "(II)V"⟩, 9), (⟨"MeanTown", "isRest", "(I)Z"⟩, 9), (⟨"MeanTown", "isCheapWhenBought", "(IIII)Z"⟩, 9)]
theorem lw_r1 : ∀ q ∈ lw_privs_1, lw_okq q := List.forall_mem_cons.mpr ⟨lw_p0, List.forall_mem_cons.mpr ⟨lw_p1, List.forall_mem_cons.mpr ⟨lw_p2, List.forall_mem_cons.mpr ⟨lw_p3, List.forall_mem_cons.mpr ⟨lw_p4, List.forall_mem_cons.mpr ⟨lw_p5, List.forall_mem_cons.mpr ⟨lw_p6, List.forall_mem_cons.mpr ⟨lw_p7, List.forall_mem_cons.mpr ⟨lw_p8, List.forall_mem_cons.mpr ⟨lw_p9, List.forall_mem_cons.mpr ⟨lw_p10, List.forall_mem_cons.mpr ⟨lw_p11, List.forall_mem_cons.mpr ⟨lw_p12, List.forall_mem_cons.mpr ⟨lw_p13, List.forall_mem_cons.mpr ⟨lw_p14, List.forall_mem_cons.mpr ⟨lw_p15, fun _ h => absurd h List.not_mem_nil⟩⟩⟩⟩⟩⟩⟩⟩⟩⟩⟩⟩⟩⟩⟩⟩
theorem lw_p16 : lw_okq (⟨"MeanTown", "refusal", "(IIII)I"⟩, 9) := ⟨⟨by decide +kernel, by decide +kernel⟩, List.mem_of_getElem? (i := 11) (by decide +kernel), List.mem_of_getElem? (i := 495) (by decide +kernel), List.mem_of_getElem? (i := 496) (by decide +kernel)⟩
theorem lw_p17 : lw_okq (⟨"MeanTownModel", "comes", "(II)V"⟩, 32) := ⟨⟨by decide +kernel, by decide +kernel⟩, List.mem_of_getElem? (i := 538) (by decide +kernel), List.mem_of_getElem? (i := 650) (by decide +kernel), List.mem_of_getElem? (i := 651) (by decide +kernel)⟩
theorem lw_p18 : lw_okq (⟨"MeanTownModel", "areTwo", "(II)Z"⟩, 32) := ⟨⟨by decide +kernel, by decide +kernel⟩, List.mem_of_getElem? (i := 538) (by decide +kernel), List.mem_of_getElem? (i := 658) (by decide +kernel), List.mem_of_getElem? (i := 659) (by decide +kernel)⟩
theorem lw_p19 : lw_okq (⟨"MeanTownModel", "isHouse", "(I)Z"⟩, 32) := ⟨⟨by decide +kernel, by decide +kernel⟩, List.mem_of_getElem? (i := 538) (by decide +kernel), List.mem_of_getElem? (i := 662) (by decide +kernel), List.mem_of_getElem? (i := 663) (by decide +kernel)⟩
theorem lw_p20 : lw_okq (⟨"MeanTownModel", "puts", "(III)V"⟩, 32) := ⟨⟨by decide +kernel, by decide +kernel⟩, List.mem_of_getElem? (i := 538) (by decide +kernel), List.mem_of_getElem? (i := 667) (by decide +kernel), List.mem_of_getElem? (i := 668) (by decide +kernel)⟩
theorem lw_p21 : lw_okq (⟨"MeanTownModel", "weight", "(I)I"⟩, 32) := ⟨⟨by decide +kernel, by decide +kernel⟩, List.mem_of_getElem? (i := 538) (by decide +kernel), List.mem_of_getElem? (i := 688) (by decide +kernel), List.mem_of_getElem? (i := 689) (by decide +kernel)⟩
theorem lw_p22 : lw_okq (⟨"MeanTownModel", "reached", "()I"⟩, 32) := ⟨⟨by decide +kernel, by decide +kernel⟩, List.mem_of_getElem? (i := 538) (by decide +kernel), List.mem_of_getElem? (i := 692) (by decide +kernel), List.mem_of_getElem? (i := 693) (by decide +kernel)⟩
theorem lw_p23 : lw_okq (⟨"MeanTownModel", "isFixed", "(I)Z"⟩, 32) := ⟨⟨by decide +kernel, by decide +kernel⟩, List.mem_of_getElem? (i := 538) (by decide +kernel), List.mem_of_getElem? (i := 696) (by decide +kernel), List.mem_of_getElem? (i := 697) (by decide +kernel)⟩
theorem lw_p24 : lw_okq (⟨"MeanTownModel", "readHouses", "()I"⟩, 32) := ⟨⟨by decide +kernel, by decide +kernel⟩, List.mem_of_getElem? (i := 538) (by decide +kernel), List.mem_of_getElem? (i := 719) (by decide +kernel), List.mem_of_getElem? (i := 720) (by decide +kernel)⟩
theorem lw_p25 : lw_okq (⟨"MeanTownModel", "here", "()I"⟩, 32) := ⟨⟨by decide +kernel, by decide +kernel⟩, List.mem_of_getElem? (i := 538) (by decide +kernel), List.mem_of_getElem? (i := 723) (by decide +kernel), List.mem_of_getElem? (i := 724) (by decide +kernel)⟩
theorem lw_p26 : lw_okq (⟨"MeanTownModel", "number", "(I)I"⟩, 32) := ⟨⟨by decide +kernel, by decide +kernel⟩, List.mem_of_getElem? (i := 538) (by decide +kernel), List.mem_of_getElem? (i := 730) (by decide +kernel), List.mem_of_getElem? (i := 731) (by decide +kernel)⟩
theorem lw_p27 : lw_okq (⟨"MeanTownModel", "has", "(I)Z"⟩, 32) := ⟨⟨by decide +kernel, by decide +kernel⟩, List.mem_of_getElem? (i := 538) (by decide +kernel), List.mem_of_getElem? (i := 736) (by decide +kernel), List.mem_of_getElem? (i := 737) (by decide +kernel)⟩
theorem lw_p28 : lw_okq (⟨"MeanTownModel", "readPairs", "(I)V"⟩, 32) := ⟨⟨by decide +kernel, by decide +kernel⟩, List.mem_of_getElem? (i := 538) (by decide +kernel), List.mem_of_getElem? (i := 740) (by decide +kernel), List.mem_of_getElem? (i := 741) (by decide +kernel)⟩
theorem lw_p29 : lw_okq (⟨"MeanTownModel", "must", "(II)I"⟩, 32) := ⟨⟨by decide +kernel, by decide +kernel⟩, List.mem_of_getElem? (i := 538) (by decide +kernel), List.mem_of_getElem? (i := 744) (by decide +kernel), List.mem_of_getElem? (i := 745) (by decide +kernel)⟩
theorem lw_p30 : lw_okq (⟨"MeanTownModel", "solves", "(I)V"⟩, 32) := ⟨⟨by decide +kernel, by decide +kernel⟩, List.mem_of_getElem? (i := 538) (by decide +kernel), List.mem_of_getElem? (i := 753) (by decide +kernel), List.mem_of_getElem? (i := 754) (by decide +kernel)⟩
theorem lw_p31 : lw_okq (⟨"MeanTownModel", "clears", "(IJ)V"⟩, 32) := ⟨⟨by decide +kernel, by decide +kernel⟩, List.mem_of_getElem? (i := 538) (by decide +kernel), List.mem_of_getElem? (i := 757) (by decide +kernel), List.mem_of_getElem? (i := 758) (by decide +kernel)⟩
def lw_privs_2 : List (MethodName × Nat) := [(⟨"MeanTown", "refusal", "(IIII)I"⟩, 9), (⟨"MeanTownModel", "comes", "(II)V"⟩, 32), (⟨"MeanTownModel", "areTwo", "(II)Z"⟩, 32), (⟨"MeanTownModel", "isHouse", "(I)Z"⟩, 32), (⟨"MeanTownModel", "puts", "(III)V"⟩, 32), (⟨"MeanTownModel", "weight", "(I)I"⟩, 32), (⟨"MeanTownModel", "reached", "()I"⟩, 32), (⟨"MeanTownModel", "isFixed", "(I)Z"⟩, 32), (⟨"MeanTownModel", "readHouses", "()I"⟩, 32), (⟨"MeanTownModel", "here", "()I"⟩, 32), (⟨"MeanTownModel", "number", "(I)I"⟩, 32), (⟨"MeanTownModel", "has", "(I)Z"⟩, 32), (⟨"MeanTownModel", "readPairs", "(I)V"⟩, 32), (⟨"MeanTownModel", "must", "(II)I"⟩, 32), (⟨"MeanTownModel", "solves", "(I)V"⟩, 32), (⟨"MeanTownModel", "clears", "(IJ)V"⟩, 32)]
theorem lw_r2 : ∀ q ∈ lw_privs_2, lw_okq q := List.forall_mem_cons.mpr ⟨lw_p16, List.forall_mem_cons.mpr ⟨lw_p17, List.forall_mem_cons.mpr ⟨lw_p18, List.forall_mem_cons.mpr ⟨lw_p19, List.forall_mem_cons.mpr ⟨lw_p20, List.forall_mem_cons.mpr ⟨lw_p21, List.forall_mem_cons.mpr ⟨lw_p22, List.forall_mem_cons.mpr ⟨lw_p23, List.forall_mem_cons.mpr ⟨lw_p24, List.forall_mem_cons.mpr ⟨lw_p25, List.forall_mem_cons.mpr ⟨lw_p26, List.forall_mem_cons.mpr ⟨lw_p27, List.forall_mem_cons.mpr ⟨lw_p28, List.forall_mem_cons.mpr ⟨lw_p29, List.forall_mem_cons.mpr ⟨lw_p30, List.forall_mem_cons.mpr ⟨lw_p31, fun _ h => absurd h List.not_mem_nil⟩⟩⟩⟩⟩⟩⟩⟩⟩⟩⟩⟩⟩⟩⟩⟩
theorem lw_p32 : lw_okq (⟨"MeanTownModel", "isKnown", "(I)Z"⟩, 32) := ⟨⟨by decide +kernel, by decide +kernel⟩, List.mem_of_getElem? (i := 538) (by decide +kernel), List.mem_of_getElem? (i := 761) (by decide +kernel), List.mem_of_getElem? (i := 762) (by decide +kernel)⟩
theorem lw_p33 : lw_okq (⟨"MeanTownModel", "keeps", "()V"⟩, 32) := ⟨⟨by decide +kernel, by decide +kernel⟩, List.mem_of_getElem? (i := 538) (by decide +kernel), List.mem_of_getElem? (i := 783) (by decide +kernel), List.mem_of_getElem? (i := 784) (by decide +kernel)⟩
theorem lw_p34 : lw_okq (⟨"MeanTownModel", "differs", "(IIJJZ)J"⟩, 32) := ⟨⟨by decide +kernel, by decide +kernel⟩, List.mem_of_getElem? (i := 538) (by decide +kernel), List.mem_of_getElem? (i := 787) (by decide +kernel), List.mem_of_getElem? (i := 788) (by decide +kernel)⟩
theorem lw_p35 : lw_okq (⟨"MeanTownModel", "goesOn", "([I)V"⟩, 32) := ⟨⟨by decide +kernel, by decide +kernel⟩, List.mem_of_getElem? (i := 538) (by decide +kernel), List.mem_of_getElem? (i := 800) (by decide +kernel), List.mem_of_getElem? (i := 801) (by decide +kernel)⟩
theorem lw_p36 : lw_okq (⟨"MeanTownModel", "incomeOf", "(I)J"⟩, 32) := ⟨⟨by decide +kernel, by decide +kernel⟩, List.mem_of_getElem? (i := 538) (by decide +kernel), List.mem_of_getElem? (i := 812) (by decide +kernel), List.mem_of_getElem? (i := 813) (by decide +kernel)⟩
theorem lw_p37 : lw_okq (⟨"MeanTownModel", "lay", "([II)I"⟩, 32) := ⟨⟨by decide +kernel, by decide +kernel⟩, List.mem_of_getElem? (i := 538) (by decide +kernel), List.mem_of_getElem? (i := 832) (by decide +kernel), List.mem_of_getElem? (i := 833) (by decide +kernel)⟩
theorem lw_p38 : lw_okq (⟨"MeanTownModel", "gives", "(I[I)I"⟩, 32) := ⟨⟨by decide +kernel, by decide +kernel⟩, List.mem_of_getElem? (i := 538) (by decide +kernel), List.mem_of_getElem? (i := 840) (by decide +kernel), List.mem_of_getElem? (i := 841) (by decide +kernel)⟩
theorem lw_p39 : lw_okq (⟨"MeanTownModel", "why", "(IIII)I"⟩, 32) := ⟨⟨by decide +kernel, by decide +kernel⟩, List.mem_of_getElem? (i := 538) (by decide +kernel), List.mem_of_getElem? (i := 854) (by decide +kernel), List.mem_of_getElem? (i := 855) (by decide +kernel)⟩
theorem lw_p40 : lw_okq (⟨"MeanTownModel", "comesTo", "(IIJ)V"⟩, 32) := ⟨⟨by decide +kernel, by decide +kernel⟩, List.mem_of_getElem? (i := 538) (by decide +kernel), List.mem_of_getElem? (i := 862) (by decide +kernel), List.mem_of_getElem? (i := 863) (by decide +kernel)⟩
def lw_privs_3 : List (MethodName × Nat) := [(⟨"MeanTownModel", "isKnown", "(I)Z"⟩, 32), (⟨"MeanTownModel", "keeps", "()V"⟩, 32), (⟨"MeanTownModel", "differs", "(IIJJZ)J"⟩, 32), (⟨"MeanTownModel", "goesOn", "([I)V"⟩, 32), (⟨"MeanTownModel", "incomeOf", "(I)J"⟩, 32), (⟨"MeanTownModel", "lay", "([II)I"⟩, 32), (⟨"MeanTownModel", "gives", "(I[I)I"⟩, 32), (⟨"MeanTownModel", "why", "(IIII)I"⟩, 32), (⟨"MeanTownModel", "comesTo", "(IIJ)V"⟩, 32)]
theorem lw_r3 : ∀ q ∈ lw_privs_3, lw_okq q := List.forall_mem_cons.mpr ⟨lw_p32, List.forall_mem_cons.mpr ⟨lw_p33, List.forall_mem_cons.mpr ⟨lw_p34, List.forall_mem_cons.mpr ⟨lw_p35, List.forall_mem_cons.mpr ⟨lw_p36, List.forall_mem_cons.mpr ⟨lw_p37, List.forall_mem_cons.mpr ⟨lw_p38, List.forall_mem_cons.mpr ⟨lw_p39, List.forall_mem_cons.mpr ⟨lw_p40, fun _ h => absurd h List.not_mem_nil⟩⟩⟩⟩⟩⟩⟩⟩⟩
def lw_privs : List (MethodName × Nat) := lw_privs_1 ++ (lw_privs_2 ++ (lw_privs_3))
def lw_tbl : List Cond := k2_sels lw_privs ++ tables_1
theorem lw_privs_ok : ∀ q ∈ lw_privs, lw_okq q := by
  show ∀ q ∈ lw_privs_1 ++ (lw_privs_2 ++ (lw_privs_3)), lw_okq q
  exact List.forall_mem_append.mpr ⟨lw_r1, List.forall_mem_append.mpr ⟨lw_r2, lw_r3⟩⟩
-- ===== end of PART A; then your names; then what follows =====
/-! ===== BEGIN printed: names, fields, word lists, decode rows ===== -/
def RX0 : String := "MeanTown$Rents"
def TX0 : u_T := fun k => match k with
  | 0 => ("MeanTown$Rents", "above", "[J", true)
  | 1 => ("MeanTown$Rents", "below", "J", false)
  | 2 => ("MeanTown$Rents", "reached", "I", false)
  | 3 => ("MeanTown$Rents", "open", "I", false)
  | 4 => ("MeanTown$Rents", "size", "I", false)
  | 5 => ("MeanTown$Rents", "asked", "[I", true)
  | _ => ("MeanTown$Rents", "rows", "[J", true)
def tyX0 : Nat → FieldType := fun k => match k with
  | 0 => .array .long
  | 1 => .long
  | 2 => .int
  | 3 => .int
  | 4 => .int
  | 5 => .array .int
  | _ => .array .long
abbrev wsX00 : List Cond := u_ws RX0 TX0 7
theorem nmX0 : ∀ a, a < 7 → ∀ b, b < 7 → a ≠ b → (TX0 a).2.1 ≠ (TX0 b).2.1 := by decide +kernel
theorem tyX0_ok : ∀ k, k < 7 → parseFieldDescriptor (TX0 k).2.2.1 = some (tyX0 k) := by decide +kernel
abbrev cX0_init : ByteArray := prog_2_method_1_code
def yX0_init : MethodName := ⟨RX0, "<init>", "()V"⟩
abbrev cX0_reaches : ByteArray := prog_2_method_2_code
def yX0_reaches : MethodName := ⟨RX0, "reaches", "(I)Z"⟩
abbrev cX0_solve : ByteArray := prog_2_method_3_code
def yX0_solve : MethodName := ⟨RX0, "solve", "(LMeanTown$Town;)V"⟩
abbrev cX0_fillRows : ByteArray := prog_2_method_4_code
def yX0_fillRows : MethodName := ⟨RX0, "fillRows", "(LMeanTown$Town;)V"⟩
abbrev cX0_clearRows : ByteArray := prog_2_method_5_code
def yX0_clearRows : MethodName := ⟨RX0, "clearRows", "()V"⟩
abbrev cX0_clearRow : ByteArray := prog_2_method_6_code
def yX0_clearRow : MethodName := ⟨RX0, "clearRow", "(IIJ)V"⟩
abbrev cX0_rentAbove : ByteArray := prog_2_method_7_code
def yX0_rentAbove : MethodName := ⟨RX0, "rentAbove", "(I)J"⟩
abbrev cX0_movesAbove : ByteArray := prog_2_method_8_code
def yX0_movesAbove : MethodName := ⟨RX0, "movesAbove", "(II)J"⟩
abbrev cX0_stepsAbove : ByteArray := prog_2_method_9_code
def yX0_stepsAbove : MethodName := ⟨RX0, "stepsAbove", "(I)J"⟩
abbrev cX0_reprice : ByteArray := prog_2_method_10_code
def yX0_reprice : MethodName := ⟨RX0, "reprice", "(II)V"⟩
abbrev cX0_incomeAbove : ByteArray := prog_2_method_11_code
def yX0_incomeAbove : MethodName := ⟨RX0, "incomeAbove", "(LMeanTown$Town;I)J"⟩
abbrev cX0_areNear : ByteArray := prog_2_method_12_code
def yX0_areNear : MethodName := ⟨RX0, "areNear", "(LMeanTown$Town;I)Z"⟩
def RX1 : String := "MeanTown$Sheet"
def TX1 : u_T := fun k => match k with
  | 0 => ("MeanTown$Sheet", "isThere", "Z", false)
  | 1 => ("MeanTown$Sheet", "lane", "I", false)
  | 2 => ("MeanTown$Sheet", "length", "I", false)
  | _ => ("MeanTown$Sheet", "items", "[J", true)
def tyX1 : Nat → FieldType := fun k => match k with
  | 0 => .boolean
  | 1 => .int
  | 2 => .int
  | _ => .array .long
abbrev wsX10 : List Cond := u_ws RX1 TX1 4
theorem nmX1 : ∀ a, a < 4 → ∀ b, b < 4 → a ≠ b → (TX1 a).2.1 ≠ (TX1 b).2.1 := by decide +kernel
theorem tyX1_ok : ∀ k, k < 4 → parseFieldDescriptor (TX1 k).2.2.1 = some (tyX1 k) := by decide +kernel
abbrev cX1_init : ByteArray := prog_3_method_1_code
def yX1_init : MethodName := ⟨RX1, "<init>", "()V"⟩
abbrev cX1_renew : ByteArray := prog_3_method_2_code
def yX1_renew : MethodName := ⟨RX1, "renew", "(II)V"⟩
abbrev cX1_holds : ByteArray := prog_3_method_3_code
def yX1_holds : MethodName := ⟨RX1, "holds", "(II)Z"⟩
def RX2 : String := "MeanTown$Tape"
def TX2 : u_T := fun k => match k with
  | 0 => ("MeanTown$Tape", "bytes", "[B", true)
  | 1 => ("MeanTown$Tape", "length", "I", false)
  | _ => ("MeanTown$Tape", "at", "I", false)
def tyX2 : Nat → FieldType := fun k => match k with
  | 0 => .array .byte
  | 1 => .int
  | _ => .int
abbrev wsX20 : List Cond := u_ws RX2 TX2 3
theorem nmX2 : ∀ a, a < 3 → ∀ b, b < 3 → a ≠ b → (TX2 a).2.1 ≠ (TX2 b).2.1 := by decide +kernel
theorem tyX2_ok : ∀ k, k < 3 → parseFieldDescriptor (TX2 k).2.2.1 = some (tyX2 k) := by decide +kernel
abbrev cX2_init : ByteArray := prog_4_method_1_code
def yX2_init : MethodName := ⟨RX2, "<init>", "()V"⟩
abbrev cX2_append : ByteArray := prog_4_method_2_code
def yX2_append : MethodName := ⟨RX2, "append", "(JI)V"⟩
abbrev cX2_readTown : ByteArray := prog_4_method_3_code
def yX2_readTown : MethodName := ⟨RX2, "readTown", "(LMeanTown$Town;)I"⟩
abbrev cX2_readHouses : ByteArray := prog_4_method_4_code
def yX2_readHouses : MethodName := ⟨RX2, "readHouses", "(LMeanTown$Town;)I"⟩
abbrev cX2_readShares : ByteArray := prog_4_method_5_code
def yX2_readShares : MethodName := ⟨RX2, "readShares", "(LMeanTown$Town;)I"⟩
abbrev cX2_faultHere : ByteArray := prog_4_method_6_code
def yX2_faultHere : MethodName := ⟨RX2, "faultHere", "()I"⟩
abbrev cX2_pairPlace : ByteArray := prog_4_method_7_code
def yX2_pairPlace : MethodName := ⟨RX2, "pairPlace", "(II)I"⟩
abbrev cX2_nextSign : ByteArray := prog_4_method_8_code
def yX2_nextSign : MethodName := ⟨RX2, "nextSign", "()I"⟩
abbrev cX2_kindOf : ByteArray := prog_4_method_9_code
def yX2_kindOf : MethodName := ⟨RX2, "kindOf", "(I)I"⟩
abbrev cX2_digitOf : ByteArray := prog_4_method_10_code
def yX2_digitOf : MethodName := ⟨RX2, "digitOf", "(II)I"⟩
abbrev cX2_readDigit : ByteArray := prog_4_method_11_code
def yX2_readDigit : MethodName := ⟨RX2, "readDigit", "(I)I"⟩
abbrev cX2_readNumber : ByteArray := prog_4_method_12_code
def yX2_readNumber : MethodName := ⟨RX2, "readNumber", "()I"⟩
def RX3 : String := "MeanTown$Town"
def TX3 : u_T := fun k => match k with
  | 0 => ("MeanTown$Town", "size", "I", false)
  | 1 => ("MeanTown$Town", "kinds", "[I", true)
  | 2 => ("MeanTown$Town", "asks", "[I", true)
  | 3 => ("MeanTown$Town", "owners", "[I", true)
  | 4 => ("MeanTown$Town", "caps", "[I", true)
  | 5 => ("MeanTown$Town", "shares", "[I", true)
  | 6 => ("MeanTown$Town", "purse", "I", false)
  | 7 => ("MeanTown$Town", "years", "I", false)
  | _ => ("MeanTown$Town", "askedAhead", "[I", true)
def tyX3 : Nat → FieldType := fun k => match k with
  | 0 => .int
  | 1 => .array .int
  | 2 => .array .int
  | 3 => .array .int
  | 4 => .array .int
  | 5 => .array .int
  | 6 => .int
  | 7 => .int
  | _ => .array .int
abbrev wsX30 : List Cond := u_ws RX3 TX3 9
theorem nmX3 : ∀ a, a < 9 → ∀ b, b < 9 → a ≠ b → (TX3 a).2.1 ≠ (TX3 b).2.1 := by decide +kernel
theorem tyX3_ok : ∀ k, k < 9 → parseFieldDescriptor (TX3 k).2.2.1 = some (tyX3 k) := by decide +kernel
abbrev cX3_init : ByteArray := prog_5_method_1_code
def yX3_init : MethodName := ⟨RX3, "<init>", "()V"⟩
abbrev cX3_has : ByteArray := prog_5_method_2_code
def yX3_has : MethodName := ⟨RX3, "has", "(I)Z"⟩
abbrev cX3_hasTwo : ByteArray := prog_5_method_3_code
def yX3_hasTwo : MethodName := ⟨RX3, "hasTwo", "(II)Z"⟩
abbrev cX3_isFixed : ByteArray := prog_5_method_4_code
def yX3_isFixed : MethodName := ⟨RX3, "isFixed", "(I)Z"⟩
abbrev cX3_build : ByteArray := prog_5_method_5_code
def yX3_build : MethodName := ⟨RX3, "build", "(II)I"⟩
abbrev cX3_shareOf : ByteArray := prog_5_method_6_code
def yX3_shareOf : MethodName := ⟨RX3, "shareOf", "(II)I"⟩
abbrev cX3_putShare : ByteArray := prog_5_method_7_code
def yX3_putShare : MethodName := ⟨RX3, "putShare", "(III)V"⟩
abbrev cX3_pullDown : ByteArray := prog_5_method_8_code
def yX3_pullDown : MethodName := ⟨RX3, "pullDown", "(I)V"⟩
abbrev cX3_clear : ByteArray := prog_5_method_9_code
def yX3_clear : MethodName := ⟨RX3, "clear", "()V"⟩
abbrev cX3_weight : ByteArray := prog_5_method_10_code
def yX3_weight : MethodName := ⟨RX3, "weight", "(I)I"⟩
abbrev cX3_pairs : ByteArray := prog_5_method_11_code
def yX3_pairs : MethodName := ⟨RX3, "pairs", "()I"⟩
abbrev cX3_fixedSet : ByteArray := prog_5_method_12_code
def yX3_fixedSet : MethodName := ⟨RX3, "fixedSet", "()I"⟩
abbrev cX3_reachedSet : ByteArray := prog_5_method_13_code
def yX3_reachedSet : MethodName := ⟨RX3, "reachedSet", "()I"⟩
abbrev cX3_besideSet : ByteArray := prog_5_method_14_code
def yX3_besideSet : MethodName := ⟨RX3, "besideSet", "(I)I"⟩
abbrev cX3_passYear : ByteArray := prog_5_method_15_code
def yX3_passYear : MethodName := ⟨RX3, "passYear", "()I"⟩
abbrev cX3_askingAfter : ByteArray := prog_5_method_16_code
def yX3_askingAfter : MethodName := ⟨RX3, "askingAfter", "(I)I"⟩
abbrev cX3_takeFrom : ByteArray := prog_5_method_17_code
def yX3_takeFrom : MethodName := ⟨RX3, "takeFrom", "(LMeanTown$Town;)V"⟩
def RX4 : String := "MeanTown"
def TX4 : u_T := fun k => match k with
  | 0 => ("MeanTown", "now", "LMeanTown$Town;", true)
  | 1 => ("MeanTown", "kept", "LMeanTown$Town;", true)
  | 2 => ("MeanTown", "trial", "LMeanTown$Town;", true)
  | 3 => ("MeanTown", "rents", "LMeanTown$Rents;", true)
  | 4 => ("MeanTown", "tape", "LMeanTown$Tape;", true)
  | 5 => ("MeanTown", "sheets", "[LMeanTown$Sheet;", true)
  | 6 => ("MeanTown", "firstIncomes", "[J", true)
  | 7 => ("MeanTown", "secondIncomes", "[J", true)
  | _ => ("MeanTown", "isKept", "Z", false)
def tyX4 : Nat → FieldType := fun k => match k with
  | 0 => .object "MeanTown$Town"
  | 1 => .object "MeanTown$Town"
  | 2 => .object "MeanTown$Town"
  | 3 => .object "MeanTown$Rents"
  | 4 => .object "MeanTown$Tape"
  | 5 => .array (.object "MeanTown$Sheet")
  | 6 => .array .long
  | 7 => .array .long
  | _ => .boolean
abbrev wsX40 : List Cond := u_ws RX4 TX4 9
theorem nmX4 : ∀ a, a < 9 → ∀ b, b < 9 → a ≠ b → (TX4 a).2.1 ≠ (TX4 b).2.1 := by decide +kernel
theorem tyX4_ok : ∀ k, k < 9 → parseFieldDescriptor (TX4 k).2.2.1 = some (tyX4 k) := by decide +kernel
abbrev cX4_init : ByteArray := prog_1_method_1_code
def yX4_init : MethodName := ⟨RX4, "<init>", "()V"⟩
abbrev cX4_house : ByteArray := prog_1_method_2_code
def yX4_house : MethodName := ⟨RX4, "house", "(II)I"⟩
abbrev cX4_share : ByteArray := prog_1_method_3_code
def yX4_share : MethodName := ⟨RX4, "share", "(III)I"⟩
abbrev cX4_ask : ByteArray := prog_1_method_4_code
def yX4_ask : MethodName := ⟨RX4, "ask", "(II)I"⟩
abbrev cX4_set : ByteArray := prog_1_method_5_code
def yX4_set : MethodName := ⟨RX4, "set", "(III)I"⟩
abbrev cX4_purse : ByteArray := prog_1_method_6_code
def yX4_purse : MethodName := ⟨RX4, "purse", "(I)I"⟩
abbrev cX4_told : ByteArray := prog_1_method_7_code
def yX4_told : MethodName := ⟨RX4, "told", "(II)I"⟩
abbrev cX4_type : ByteArray := prog_1_method_8_code
def yX4_type : MethodName := ⟨RX4, "type", "(JI)I"⟩
abbrev cX4_town : ByteArray := prog_1_method_9_code
def yX4_town : MethodName := ⟨RX4, "town", "()I"⟩
abbrev cX4_count : ByteArray := prog_1_method_10_code
def yX4_count : MethodName := ⟨RX4, "count", "(I)I"⟩
abbrev cX4_rent : ByteArray := prog_1_method_11_code
def yX4_rent : MethodName := ⟨RX4, "rent", "(II)J"⟩
abbrev cX4_moves : ByteArray := prog_1_method_12_code
def yX4_moves : MethodName := ⟨RX4, "moves", "(III)J"⟩
abbrev cX4_walk : ByteArray := prog_1_method_13_code
def yX4_walk : MethodName := ⟨RX4, "walk", "(II)J"⟩
abbrev cX4_change : ByteArray := prog_1_method_14_code
def yX4_change : MethodName := ⟨RX4, "change", "(IIIII)J"⟩
abbrev cX4_pulled : ByteArray := prog_1_method_15_code
def yX4_pulled : MethodName := ⟨RX4, "pulled", "(III)J"⟩
abbrev cX4_year : ByteArray := prog_1_method_16_code
def yX4_year : MethodName := ⟨RX4, "year", "()I"⟩
abbrev cX4_near : ByteArray := prog_1_method_17_code
def yX4_near : MethodName := ⟨RX4, "near", "(I)I"⟩
abbrev cX4_income : ByteArray := prog_1_method_18_code
def yX4_income : MethodName := ⟨RX4, "income", "(II)J"⟩
abbrev cX4_best : ByteArray := prog_1_method_19_code
def yX4_best : MethodName := ⟨RX4, "best", "(I)I"⟩
abbrev cX4_rests : ByteArray := prog_1_method_20_code
def yX4_rests : MethodName := ⟨RX4, "rests", "(III)I"⟩
abbrev cX4_bought : ByteArray := prog_1_method_21_code
def yX4_bought : MethodName := ⟨RX4, "bought", "(III)I"⟩
abbrev cX4_image : ByteArray := prog_1_method_22_code
def yX4_image : MethodName := ⟨RX4, "image", "()I"⟩
abbrev cX4_restore : ByteArray := prog_1_method_23_code
def yX4_restore : MethodName := ⟨RX4, "restore", "()I"⟩
abbrev cX4_book : ByteArray := prog_1_method_24_code
def yX4_book : MethodName := ⟨RX4, "book", "(III)I"⟩
abbrev cX4_film : ByteArray := prog_1_method_25_code
def yX4_film : MethodName := ⟨RX4, "film", "(III)I"⟩
abbrev cX4_sheet : ByteArray := prog_1_method_26_code
def yX4_sheet : MethodName := ⟨RX4, "sheet", "(III)I"⟩
abbrev cX4_drop : ByteArray := prog_1_method_27_code
def yX4_drop : MethodName := ⟨RX4, "drop", "(I)I"⟩
abbrev cX4_item : ByteArray := prog_1_method_28_code
def yX4_item : MethodName := ⟨RX4, "item", "(IIIJ)I"⟩
abbrev cX4_copy : ByteArray := prog_1_method_29_code
def yX4_copy : MethodName := ⟨RX4, "copy", "(IIIII)I"⟩
abbrev cX4_isPence : ByteArray := prog_1_method_30_code
def yX4_isPence : MethodName := ⟨RX4, "isPence", "(I)Z"⟩
abbrev cX4_isShare : ByteArray := prog_1_method_31_code
def yX4_isShare : MethodName := ⟨RX4, "isShare", "(I)Z"⟩
abbrev cX4_isOwner : ByteArray := prog_1_method_32_code
def yX4_isOwner : MethodName := ⟨RX4, "isOwner", "(I)Z"⟩
abbrev cX4_isPart : ByteArray := prog_1_method_33_code
def yX4_isPart : MethodName := ⟨RX4, "isPart", "(I)Z"⟩
abbrev cX4_isSheet : ByteArray := prog_1_method_34_code
def yX4_isSheet : MethodName := ⟨RX4, "isSheet", "(I)Z"⟩
abbrev cX4_isLane : ByteArray := prog_1_method_35_code
def yX4_isLane : MethodName := ⟨RX4, "isLane", "(I)Z"⟩
abbrev cX4_isIn : ByteArray := prog_1_method_36_code
def yX4_isIn : MethodName := ⟨RX4, "isIn", "(II)Z"⟩
abbrev cX4_areSigns : ByteArray := prog_1_method_37_code
def yX4_areSigns : MethodName := ⟨RX4, "areSigns", "(JI)Z"⟩
abbrev cX4_byteOf : ByteArray := prog_1_method_38_code
def yX4_byteOf : MethodName := ⟨RX4, "byteOf", "(JI)I"⟩
abbrev cX4_lowestBits : ByteArray := prog_1_method_39_code
def yX4_lowestBits : MethodName := ⟨RX4, "lowestBits", "(IJ)J"⟩
abbrev cX4_lowest : ByteArray := prog_1_method_40_code
def yX4_lowest : MethodName := ⟨RX4, "lowest", "(JJI)J"⟩
abbrev cX4_commonDivisor : ByteArray := prog_1_method_41_code
def yX4_commonDivisor : MethodName := ⟨RX4, "commonDivisor", "(JJ)J"⟩
abbrev cX4_trialLessNow : ByteArray := prog_1_method_42_code
def yX4_trialLessNow : MethodName := ⟨RX4, "trialLessNow", "(II)J"⟩
abbrev cX4_fillIncomes : ByteArray := prog_1_method_43_code
def yX4_fillIncomes : MethodName := ⟨RX4, "fillIncomes", "(II)V"⟩
abbrev cX4_isRest : ByteArray := prog_1_method_44_code
def yX4_isRest : MethodName := ⟨RX4, "isRest", "(I)Z"⟩
abbrev cX4_isCheapWhenBought : ByteArray := prog_1_method_45_code
def yX4_isCheapWhenBought : MethodName := ⟨RX4, "isCheapWhenBought", "(IIII)Z"⟩
abbrev cX4_refusal : ByteArray := prog_1_method_46_code
def yX4_refusal : MethodName := ⟨RX4, "refusal", "(IIII)I"⟩
def RX5 : String := "MeanTownModel"
def TX5 : u_T := fun k => match k with
  | 0 => ("MeanTownModel", "houses", "I", false)
  | 1 => ("MeanTownModel", "kinds", "[I", true)
  | 2 => ("MeanTownModel", "asks", "[I", true)
  | 3 => ("MeanTownModel", "owners", "[I", true)
  | 4 => ("MeanTownModel", "caps", "[I", true)
  | 5 => ("MeanTownModel", "shares", "[I", true)
  | 6 => ("MeanTownModel", "purse", "I", false)
  | 7 => ("MeanTownModel", "years", "I", false)
  | 8 => ("MeanTownModel", "bought", "I", false)
  | 9 => ("MeanTownModel", "tape", "[I", true)
  | 10 => ("MeanTownModel", "taped", "I", false)
  | 11 => ("MeanTownModel", "at", "I", false)
  | 12 => ("MeanTownModel", "wrong", "Z", false)
  | 13 => ("MeanTownModel", "read", "[I", true)
  | 14 => ("MeanTownModel", "readShares", "[I", true)
  | 15 => ("MeanTownModel", "rows", "[J", true)
  | 16 => ("MeanTownModel", "sums", "[J", true)
  | 17 => ("MeanTownModel", "above", "[J", true)
  | 18 => ("MeanTownModel", "below", "J", false)
  | 19 => ("MeanTownModel", "known", "I", false)
  | 20 => ("MeanTownModel", "price", "I", false)
  | 21 => ("MeanTownModel", "kept", "[I", true)
  | 22 => ("MeanTownModel", "then", "[I", true)
  | 23 => ("MeanTownModel", "tried", "[I", true)
  | 24 => ("MeanTownModel", "firsts", "[J", true)
  | 25 => ("MeanTownModel", "seconds", "[J", true)
  | 26 => ("MeanTownModel", "image", "[I", true)
  | 27 => ("MeanTownModel", "isImage", "Z", false)
  | 28 => ("MeanTownModel", "lanes", "[I", true)
  | 29 => ("MeanTownModel", "sizes", "[I", true)
  | 30 => ("MeanTownModel", "items", "[J", true)
  | _ => ("MeanTownModel", "moved", "[J", true)
def tyX5 : Nat → FieldType := fun k => match k with
  | 0 => .int
  | 1 => .array .int
  | 2 => .array .int
  | 3 => .array .int
  | 4 => .array .int
  | 5 => .array .int
  | 6 => .int
  | 7 => .int
  | 8 => .int
  | 9 => .array .int
  | 10 => .int
  | 11 => .int
  | 12 => .boolean
  | 13 => .array .int
  | 14 => .array .int
  | 15 => .array .long
  | 16 => .array .long
  | 17 => .array .long
  | 18 => .long
  | 19 => .int
  | 20 => .int
  | 21 => .array .int
  | 22 => .array .int
  | 23 => .array .int
  | 24 => .array .long
  | 25 => .array .long
  | 26 => .array .int
  | 27 => .boolean
  | 28 => .array .int
  | 29 => .array .int
  | 30 => .array .long
  | _ => .array .long
abbrev wsX50 : List Cond := u_ws RX5 TX5 32
theorem nmX5 : ∀ a, a < 32 → ∀ b, b < 32 → a ≠ b → (TX5 a).2.1 ≠ (TX5 b).2.1 := by decide +kernel
theorem tyX5_ok : ∀ k, k < 32 → parseFieldDescriptor (TX5 k).2.2.1 = some (tyX5 k) := by decide +kernel
abbrev cX5_in : ByteArray := prog_7_method_2_code
def yX5_in : MethodName := ⟨RX5, "in", "(JJJ)Z"⟩
abbrev cX5_init : ByteArray := prog_7_method_3_code
def yX5_init : MethodName := ⟨RX5, "<init>", "()V"⟩
abbrev cX5_isHouse : ByteArray := prog_7_method_4_code
def yX5_isHouse : MethodName := ⟨RX5, "isHouse", "(I)Z"⟩
abbrev cX5_areTwo : ByteArray := prog_7_method_5_code
def yX5_areTwo : MethodName := ⟨RX5, "areTwo", "(II)Z"⟩
abbrev cX5_comes : ByteArray := prog_7_method_6_code
def yX5_comes : MethodName := ⟨RX5, "comes", "(II)V"⟩
abbrev cX5_house : ByteArray := prog_7_method_7_code
def yX5_house : MethodName := ⟨RX5, "house", "(II)I"⟩
abbrev cX5_puts : ByteArray := prog_7_method_8_code
def yX5_puts : MethodName := ⟨RX5, "puts", "(III)V"⟩
abbrev cX5_share : ByteArray := prog_7_method_9_code
def yX5_share : MethodName := ⟨RX5, "share", "(III)I"⟩
abbrev cX5_ask : ByteArray := prog_7_method_10_code
def yX5_ask : MethodName := ⟨RX5, "ask", "(II)I"⟩
abbrev cX5_set : ByteArray := prog_7_method_11_code
def yX5_set : MethodName := ⟨RX5, "set", "(III)I"⟩
abbrev cX5_purse : ByteArray := prog_7_method_12_code
def yX5_purse : MethodName := ⟨RX5, "purse", "(I)I"⟩
abbrev cX5_weight : ByteArray := prog_7_method_13_code
def yX5_weight : MethodName := ⟨RX5, "weight", "(I)I"⟩
abbrev cX5_isFixed : ByteArray := prog_7_method_14_code
def yX5_isFixed : MethodName := ⟨RX5, "isFixed", "(I)Z"⟩
abbrev cX5_reached : ByteArray := prog_7_method_15_code
def yX5_reached : MethodName := ⟨RX5, "reached", "()I"⟩
abbrev cX5_told : ByteArray := prog_7_method_16_code
def yX5_told : MethodName := ⟨RX5, "told", "(II)I"⟩
abbrev cX5_count : ByteArray := prog_7_method_17_code
def yX5_count : MethodName := ⟨RX5, "count", "(I)I"⟩
abbrev cX5_size : ByteArray := prog_7_method_18_code
def yX5_size : MethodName := ⟨RX5, "size", "(I)I"⟩
abbrev cX5_type : ByteArray := prog_7_method_19_code
def yX5_type : MethodName := ⟨RX5, "type", "(JI)I"⟩
abbrev cX5_here : ByteArray := prog_7_method_20_code
def yX5_here : MethodName := ⟨RX5, "here", "()I"⟩
abbrev cX5_has : ByteArray := prog_7_method_21_code
def yX5_has : MethodName := ⟨RX5, "has", "(I)Z"⟩
abbrev cX5_must : ByteArray := prog_7_method_22_code
def yX5_must : MethodName := ⟨RX5, "must", "(II)I"⟩
abbrev cX5_number : ByteArray := prog_7_method_23_code
def yX5_number : MethodName := ⟨RX5, "number", "(I)I"⟩
abbrev cX5_kindOf : ByteArray := prog_7_method_24_code
def yX5_kindOf : MethodName := ⟨RX5, "kindOf", "(I)I"⟩
abbrev cX5_readHouses : ByteArray := prog_7_method_25_code
def yX5_readHouses : MethodName := ⟨RX5, "readHouses", "()I"⟩
abbrev cX5_readPairs : ByteArray := prog_7_method_26_code
def yX5_readPairs : MethodName := ⟨RX5, "readPairs", "(I)V"⟩
abbrev cX5_town : ByteArray := prog_7_method_27_code
def yX5_town : MethodName := ⟨RX5, "town", "()I"⟩
abbrev cX5_solves : ByteArray := prog_7_method_28_code
def yX5_solves : MethodName := ⟨RX5, "solves", "(I)V"⟩
abbrev cX5_clears : ByteArray := prog_7_method_29_code
def yX5_clears : MethodName := ⟨RX5, "clears", "(IJ)V"⟩
abbrev cX5_lowest : ByteArray := prog_7_method_30_code
def yX5_lowest : MethodName := ⟨RX5, "lowest", "(JJI)J"⟩
abbrev cX5_isKnown : ByteArray := prog_7_method_31_code
def yX5_isKnown : MethodName := ⟨RX5, "isKnown", "(I)Z"⟩
abbrev cX5_rent : ByteArray := prog_7_method_32_code
def yX5_rent : MethodName := ⟨RX5, "rent", "(II)J"⟩
abbrev cX5_moves : ByteArray := prog_7_method_33_code
def yX5_moves : MethodName := ⟨RX5, "moves", "(III)J"⟩
abbrev cX5_walk : ByteArray := prog_7_method_34_code
def yX5_walk : MethodName := ⟨RX5, "walk", "(II)J"⟩
abbrev cX5_differs : ByteArray := prog_7_method_35_code
def yX5_differs : MethodName := ⟨RX5, "differs", "(IIJJZ)J"⟩
abbrev cX5_keeps : ByteArray := prog_7_method_36_code
def yX5_keeps : MethodName := ⟨RX5, "keeps", "()V"⟩
abbrev cX5_change : ByteArray := prog_7_method_37_code
def yX5_change : MethodName := ⟨RX5, "change", "(IIIII)J"⟩
abbrev cX5_pulled : ByteArray := prog_7_method_38_code
def yX5_pulled : MethodName := ⟨RX5, "pulled", "(III)J"⟩
abbrev cX5_goesOn : ByteArray := prog_7_method_39_code
def yX5_goesOn : MethodName := ⟨RX5, "goesOn", "([I)V"⟩
abbrev cX5_year : ByteArray := prog_7_method_40_code
def yX5_year : MethodName := ⟨RX5, "year", "()I"⟩
abbrev cX5_near : ByteArray := prog_7_method_41_code
def yX5_near : MethodName := ⟨RX5, "near", "(I)I"⟩
abbrev cX5_incomeOf : ByteArray := prog_7_method_42_code
def yX5_incomeOf : MethodName := ⟨RX5, "incomeOf", "(I)J"⟩
abbrev cX5_income : ByteArray := prog_7_method_43_code
def yX5_income : MethodName := ⟨RX5, "income", "(II)J"⟩
abbrev cX5_best : ByteArray := prog_7_method_44_code
def yX5_best : MethodName := ⟨RX5, "best", "(I)I"⟩
abbrev cX5_rests : ByteArray := prog_7_method_45_code
def yX5_rests : MethodName := ⟨RX5, "rests", "(III)I"⟩
abbrev cX5_bought : ByteArray := prog_7_method_46_code
def yX5_bought : MethodName := ⟨RX5, "bought", "(III)I"⟩
abbrev cX5_lay : ByteArray := prog_7_method_47_code
def yX5_lay : MethodName := ⟨RX5, "lay", "([II)I"⟩
abbrev cX5_gives : ByteArray := prog_7_method_48_code
def yX5_gives : MethodName := ⟨RX5, "gives", "(I[I)I"⟩
abbrev cX5_image : ByteArray := prog_7_method_49_code
def yX5_image : MethodName := ⟨RX5, "image", "()I"⟩
abbrev cX5_restore : ByteArray := prog_7_method_50_code
def yX5_restore : MethodName := ⟨RX5, "restore", "()I"⟩
abbrev cX5_isSheet : ByteArray := prog_7_method_51_code
def yX5_isSheet : MethodName := ⟨RX5, "isSheet", "(I)Z"⟩
abbrev cX5_isLane : ByteArray := prog_7_method_52_code
def yX5_isLane : MethodName := ⟨RX5, "isLane", "(I)Z"⟩
abbrev cX5_why : ByteArray := prog_7_method_53_code
def yX5_why : MethodName := ⟨RX5, "why", "(IIII)I"⟩
abbrev cX5_book : ByteArray := prog_7_method_54_code
def yX5_book : MethodName := ⟨RX5, "book", "(III)I"⟩
abbrev cX5_comesTo : ByteArray := prog_7_method_55_code
def yX5_comesTo : MethodName := ⟨RX5, "comesTo", "(IIJ)V"⟩
abbrev cX5_film : ByteArray := prog_7_method_56_code
def yX5_film : MethodName := ⟨RX5, "film", "(III)I"⟩
abbrev cX5_sheet : ByteArray := prog_7_method_57_code
def yX5_sheet : MethodName := ⟨RX5, "sheet", "(III)I"⟩
abbrev cX5_drop : ByteArray := prog_7_method_58_code
def yX5_drop : MethodName := ⟨RX5, "drop", "(I)I"⟩
abbrev cX5_item : ByteArray := prog_7_method_59_code
def yX5_item : MethodName := ⟨RX5, "item", "(IIIJ)I"⟩
abbrev cX5_copy : ByteArray := prog_7_method_60_code
def yX5_copy : MethodName := ⟨RX5, "copy", "(IIIII)I"⟩
def RJ6 : String := "java/lang/Integer"
def TJ6 : u_T := fun k => match k with
  | _ => ("", "", "", false)
def tyJ6 : Nat → FieldType := fun k => match k with
  | _ => .int
abbrev wsJ60 : List Cond := u_ws RJ6 TJ6 0
theorem nmJ6 : ∀ a, a < 0 → ∀ b, b < 0 → a ≠ b → (TJ6 a).2.1 ≠ (TJ6 b).2.1 := by decide +kernel
theorem tyJ6_ok : ∀ k, k < 0 → parseFieldDescriptor (TJ6 k).2.2.1 = some (tyJ6 k) := by decide +kernel
abbrev cJ6_bitCount_0f7a4 : ByteArray := prog_8_method_49_code
def yJ6_bitCount_0f7a4 : MethodName := ⟨RJ6, "bitCount", "(I)I"⟩
def RJ9 : String := "java/lang/Math"
def TJ9 : u_T := fun k => match k with
  | _ => ("", "", "", false)
def tyJ9 : Nat → FieldType := fun k => match k with
  | _ => .int
abbrev wsJ90 : List Cond := u_ws RJ9 TJ9 0
theorem nmJ9 : ∀ a, a < 0 → ∀ b, b < 0 → a ≠ b → (TJ9 a).2.1 ≠ (TJ9 b).2.1 := by decide +kernel
theorem tyJ9_ok : ∀ k, k < 0 → parseFieldDescriptor (TJ9 k).2.2.1 = some (tyJ9 k) := by decide +kernel
abbrev cJ9_abs_067f4 : ByteArray := prog_9_method_61_code
def yJ9_abs_067f4 : MethodName := ⟨RJ9, "abs", "(J)J"⟩
abbrev cJ9_max_7cf53 : ByteArray := prog_9_method_65_code
def yJ9_max_7cf53 : MethodName := ⟨RJ9, "max", "(II)I"⟩
abbrev cJ9_min_7cf53 : ByteArray := prog_9_method_69_code
def yJ9_min_7cf53 : MethodName := ⟨RJ9, "min", "(II)I"⟩
def RJ10 : String := "java/lang/System"
def TJ10 : u_T := fun k => match k with
  | _ => ("", "", "", false)
def tyJ10 : Nat → FieldType := fun k => match k with
  | _ => .int
abbrev wsJ100 : List Cond := u_ws RJ10 TJ10 0
theorem nmJ10 : ∀ a, a < 0 → ∀ b, b < 0 → a ≠ b → (TJ10 a).2.1 ≠ (TJ10 b).2.1 := by decide +kernel
theorem tyJ10_ok : ∀ k, k < 0 → parseFieldDescriptor (TJ10 k).2.2.1 = some (tyJ10 k) := by decide +kernel
def RL : String := "MeanTownLaw"
abbrev cL_law : ByteArray := code
def yL_law : MethodName := ⟨RL, "law", "([I)Z"⟩
abbrev vwCl : List vw_C := [(RX0, TX0, 7), (RX1, TX1, 4), (RX2, TX2, 3), (RX3, TX3, 9), (RX4, TX4, 9), (RX5, TX5, 32)]
