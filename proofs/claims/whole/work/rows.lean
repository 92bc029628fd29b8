section
-- ===== PART A: goes FIRST, ahead of the names: the tables' words, and 'selects' of the private methods out of them =====
/-- a private method of a class that the tables say can be made, by its rows of tables_1 -/
def lw_okq (q : MethodName × Nat) : Prop := (q.1.cls ≠ "java/lang/invoke/MethodHandle" ∧ q.1.cls ≠ "java/lang/invoke/VarHandle") ∧ Cond.instantiable q.1.cls q.2 ∈ tables_1 ∧ Cond.privateMethod q.1 ∈ tables_1 ∧ Cond.instanceMethod q.1 ∈ tables_1
theorem lw_p0 : lw_okq (⟨"SandDots", "found", "(I)I"⟩, 12) := ⟨⟨by decide +kernel, by decide +kernel⟩, List.mem_of_getElem? (i := 17) (by decide +kernel), List.mem_of_getElem? (i := 283) (by decide +kernel), List.mem_of_getElem? (i := 284) (by decide +kernel)⟩
theorem lw_p1 : lw_okq (⟨"SandDots", "done", "(I)I"⟩, 12) := ⟨⟨by decide +kernel, by decide +kernel⟩, List.mem_of_getElem? (i := 17) (by decide +kernel), List.mem_of_getElem? (i := 292) (by decide +kernel), List.mem_of_getElem? (i := 293) (by decide +kernel)⟩
theorem lw_p2 : lw_okq (⟨"SandDots$Sheet", "narrowed", "(I)I"⟩, 3) := ⟨⟨by decide +kernel, by decide +kernel⟩, List.mem_of_getElem? (i := 216) (by decide +kernel), List.mem_of_getElem? (i := 317) (by decide +kernel), List.mem_of_getElem? (i := 318) (by decide +kernel)⟩
theorem lw_p3 : lw_okq (⟨"SandDots", "tellChart", "(I)V"⟩, 12) := ⟨⟨by decide +kernel, by decide +kernel⟩, List.mem_of_getElem? (i := 17) (by decide +kernel), List.mem_of_getElem? (i := 351) (by decide +kernel), List.mem_of_getElem? (i := 352) (by decide +kernel)⟩
theorem lw_p4 : lw_okq (⟨"SandDots$Mender", "mayTellMore", "(J)Z"⟩, 10) := ⟨⟨by decide +kernel, by decide +kernel⟩, List.mem_of_getElem? (i := 27) (by decide +kernel), List.mem_of_getElem? (i := 409) (by decide +kernel), List.mem_of_getElem? (i := 410) (by decide +kernel)⟩
theorem lw_p5 : lw_okq (⟨"SandDots$Mender", "lookThrough", "(IJ)V"⟩, 10) := ⟨⟨by decide +kernel, by decide +kernel⟩, List.mem_of_getElem? (i := 27) (by decide +kernel), List.mem_of_getElem? (i := 422) (by decide +kernel), List.mem_of_getElem? (i := 423) (by decide +kernel)⟩
theorem lw_p6 : lw_okq (⟨"SandDots$Tokens", "place", "(IIZ)V"⟩, 7) := ⟨⟨by decide +kernel, by decide +kernel⟩, List.mem_of_getElem? (i := 107) (by decide +kernel), List.mem_of_getElem? (i := 464) (by decide +kernel), List.mem_of_getElem? (i := 465) (by decide +kernel)⟩
theorem lw_p7 : lw_okq (⟨"SandDots$Tokens", "name", "(ILSandDots$Tape;)V"⟩, 7) := ⟨⟨by decide +kernel, by decide +kernel⟩, List.mem_of_getElem? (i := 107) (by decide +kernel), List.mem_of_getElem? (i := 468) (by decide +kernel), List.mem_of_getElem? (i := 469) (by decide +kernel)⟩
theorem lw_p8 : lw_okq (⟨"SandDots$Tokens", "joined", "(ILSandDots$Tape;II)I"⟩, 7) := ⟨⟨by decide +kernel, by decide +kernel⟩, List.mem_of_getElem? (i := 107) (by decide +kernel), List.mem_of_getElem? (i := 472) (by decide +kernel), List.mem_of_getElem? (i := 473) (by decide +kernel)⟩
theorem lw_p9 : lw_okq (⟨"SandDots$RuleReader", "readRule", "(LSandDots$RuleSet;)Z"⟩, 5) := ⟨⟨by decide +kernel, by decide +kernel⟩, List.mem_of_getElem? (i := 101) (by decide +kernel), List.mem_of_getElem? (i := 480) (by decide +kernel), List.mem_of_getElem? (i := 481) (by decide +kernel)⟩
theorem lw_p10 : lw_okq (⟨"SandDots$RuleReader", "faultHere", "(I)Z"⟩, 5) := ⟨⟨by decide +kernel, by decide +kernel⟩, List.mem_of_getElem? (i := 101) (by decide +kernel), List.mem_of_getElem? (i := 488) (by decide +kernel), List.mem_of_getElem? (i := 489) (by decide +kernel)⟩
theorem lw_p11 : lw_okq (⟨"SandDots$RuleReader", "take", "(I)Z"⟩, 5) := ⟨⟨by decide +kernel, by decide +kernel⟩, List.mem_of_getElem? (i := 101) (by decide +kernel), List.mem_of_getElem? (i := 496) (by decide +kernel), List.mem_of_getElem? (i := 497) (by decide +kernel)⟩
theorem lw_p12 : lw_okq (⟨"SandDots$RuleReader", "readTest", "(LSandDots$RuleSet;)Z"⟩, 5) := ⟨⟨by decide +kernel, by decide +kernel⟩, List.mem_of_getElem? (i := 101) (by decide +kernel), List.mem_of_getElem? (i := 505) (by decide +kernel), List.mem_of_getElem? (i := 506) (by decide +kernel)⟩
theorem lw_p13 : lw_okq (⟨"SandDots$RuleReader", "takeNumber", "(II)Z"⟩, 5) := ⟨⟨by decide +kernel, by decide +kernel⟩, List.mem_of_getElem? (i := 101) (by decide +kernel), List.mem_of_getElem? (i := 513) (by decide +kernel), List.mem_of_getElem? (i := 514) (by decide +kernel)⟩
theorem lw_p14 : lw_okq (⟨"SandDots$Bodies", "fastSize", "(I)I"⟩, 2) := ⟨⟨by decide +kernel, by decide +kernel⟩, List.mem_of_getElem? (i := 176) (by decide +kernel), List.mem_of_getElem? (i := 661) (by decide +kernel), List.mem_of_getElem? (i := 662) (by decide +kernel)⟩
theorem lw_p15 : lw_okq (⟨"SandDots$Bodies", "begin", "(I)V"⟩, 2) := ⟨⟨by decide +kernel, by decide +kernel⟩, List.mem_of_getElem? (i := 176) (by decide +kernel), List.mem_of_getElem? (i := 665) (by decide +kernel), List.mem_of_getElem? (i := 666) (by decide +kernel)⟩
def lw_privs_1 : List (MethodName × Nat) := [(⟨"SandDots", "found", "(I)I"⟩, 12), (⟨"SandDots", "done", "(I)I"⟩, 12), (⟨"SandDots$Sheet", "narrowed", "(I)I"⟩, 3), (⟨"SandDots", "tellChart", "(I)V"⟩, 12), (⟨"SandDots$Mender", "mayTellMore", "(J)Z"⟩, 10), (⟨"SandDots$Mender", "lookThrough", "(IJ)V"⟩, 10), (⟨"SandDots$Tokens", "place", "(IIZ)V"⟩, 7), (⟨"SandDots$Tokens", "name", "(ILSandDots$Tape;)V"⟩, 7), (⟨"SandDots$Tokens", "joined", "(ILSandDots$Tape;II)I"⟩, 7), (⟨"SandDots$RuleReader", "readRule", "(LSandDots$RuleSet;)Z"⟩, 5), (⟨"SandDots$RuleReader", "faultHere", "(I)Z"⟩, 5), (⟨"SandDots$RuleReader", "take", "(I)Z"⟩, 5), (⟨"SandDots$RuleReader", "readTest", "(LSandDots$RuleSet;)Z"⟩, 5), (⟨"SandDots$RuleReader", "takeNumber", "(II)Z"⟩, 5), (⟨"SandDots$Bodies", "fastSize", "(I)I"⟩, 2), (⟨"SandDots$Bodies", "begin", "(I)V"⟩, 2)]
theorem lw_r1 : ∀ q ∈ lw_privs_1, lw_okq q := List.forall_mem_cons.mpr ⟨lw_p0, List.forall_mem_cons.mpr ⟨lw_p1, List.forall_mem_cons.mpr ⟨lw_p2, List.forall_mem_cons.mpr ⟨lw_p3, List.forall_mem_cons.mpr ⟨lw_p4, List.forall_mem_cons.mpr ⟨lw_p5, List.forall_mem_cons.mpr ⟨lw_p6, List.forall_mem_cons.mpr ⟨lw_p7, List.forall_mem_cons.mpr ⟨lw_p8, List.forall_mem_cons.mpr ⟨lw_p9, List.forall_mem_cons.mpr ⟨lw_p10, List.forall_mem_cons.mpr ⟨lw_p11, List.forall_mem_cons.mpr ⟨lw_p12, List.forall_mem_cons.mpr ⟨lw_p13, List.forall_mem_cons.mpr ⟨lw_p14, List.forall_mem_cons.mpr ⟨lw_p15, fun _ h => absurd h List.not_mem_nil⟩⟩⟩⟩⟩⟩⟩⟩⟩⟩⟩⟩⟩⟩⟩⟩
theorem lw_p16 : lw_okq (⟨"SandDots$Bodies", "evenSize", "(I)I"⟩, 2) := ⟨⟨by decide +kernel, by decide +kernel⟩, List.mem_of_getElem? (i := 176) (by decide +kernel), List.mem_of_getElem? (i := 669) (by decide +kernel), List.mem_of_getElem? (i := 670) (by decide +kernel)⟩
theorem lw_p17 : lw_okq (⟨"SandDots$Bodies", "lentSize", "(I)I"⟩, 2) := ⟨⟨by decide +kernel, by decide +kernel⟩, List.mem_of_getElem? (i := 176) (by decide +kernel), List.mem_of_getElem? (i := 673) (by decide +kernel), List.mem_of_getElem? (i := 674) (by decide +kernel)⟩
theorem lw_p18 : lw_okq (⟨"SandDots$Bodies", "fastMark", "(I)I"⟩, 2) := ⟨⟨by decide +kernel, by decide +kernel⟩, List.mem_of_getElem? (i := 176) (by decide +kernel), List.mem_of_getElem? (i := 678) (by decide +kernel), List.mem_of_getElem? (i := 679) (by decide +kernel)⟩
theorem lw_p19 : lw_okq (⟨"SandDots$Bodies", "lentMark", "(I)I"⟩, 2) := ⟨⟨by decide +kernel, by decide +kernel⟩, List.mem_of_getElem? (i := 176) (by decide +kernel), List.mem_of_getElem? (i := 682) (by decide +kernel), List.mem_of_getElem? (i := 683) (by decide +kernel)⟩
theorem lw_p20 : lw_okq (⟨"SandDots$Bodies", "oddSize", "(I)I"⟩, 2) := ⟨⟨by decide +kernel, by decide +kernel⟩, List.mem_of_getElem? (i := 176) (by decide +kernel), List.mem_of_getElem? (i := 686) (by decide +kernel), List.mem_of_getElem? (i := 687) (by decide +kernel)⟩
theorem lw_p21 : lw_okq (⟨"SandDots$Bodies", "oddMark", "(I)I"⟩, 2) := ⟨⟨by decide +kernel, by decide +kernel⟩, List.mem_of_getElem? (i := 176) (by decide +kernel), List.mem_of_getElem? (i := 694) (by decide +kernel), List.mem_of_getElem? (i := 695) (by decide +kernel)⟩
theorem lw_p22 : lw_okq (⟨"SandDots", "sheetsThere", "()I"⟩, 12) := ⟨⟨by decide +kernel, by decide +kernel⟩, List.mem_of_getElem? (i := 17) (by decide +kernel), List.mem_of_getElem? (i := 711) (by decide +kernel), List.mem_of_getElem? (i := 712) (by decide +kernel)⟩
theorem lw_p23 : lw_okq (⟨"SandDotsModel", "found", "(I)I"⟩, 30) := ⟨⟨by decide +kernel, by decide +kernel⟩, List.mem_of_getElem? (i := 721) (by decide +kernel), List.mem_of_getElem? (i := 831) (by decide +kernel), List.mem_of_getElem? (i := 832) (by decide +kernel)⟩
theorem lw_p24 : lw_okq (⟨"SandDotsModel", "lay", "(I)V"⟩, 30) := ⟨⟨by decide +kernel, by decide +kernel⟩, List.mem_of_getElem? (i := 721) (by decide +kernel), List.mem_of_getElem? (i := 862) (by decide +kernel), List.mem_of_getElem? (i := 863) (by decide +kernel)⟩
theorem lw_p25 : lw_okq (⟨"SandDotsModel", "step", "()V"⟩, 30) := ⟨⟨by decide +kernel, by decide +kernel⟩, List.mem_of_getElem? (i := 721) (by decide +kernel), List.mem_of_getElem? (i := 907) (by decide +kernel), List.mem_of_getElem? (i := 908) (by decide +kernel)⟩
theorem lw_p26 : lw_okq (⟨"SandDotsModel", "byteAt", "(I)I"⟩, 30) := ⟨⟨by decide +kernel, by decide +kernel⟩, List.mem_of_getElem? (i := 721) (by decide +kernel), List.mem_of_getElem? (i := 911) (by decide +kernel), List.mem_of_getElem? (i := 912) (by decide +kernel)⟩
theorem lw_p27 : lw_okq (⟨"SandDotsModel", "readRule", "()V"⟩, 30) := ⟨⟨by decide +kernel, by decide +kernel⟩, List.mem_of_getElem? (i := 721) (by decide +kernel), List.mem_of_getElem? (i := 921) (by decide +kernel), List.mem_of_getElem? (i := 922) (by decide +kernel)⟩
theorem lw_p28 : lw_okq (⟨"SandDotsModel", "word", "()J"⟩, 30) := ⟨⟨by decide +kernel, by decide +kernel⟩, List.mem_of_getElem? (i := 721) (by decide +kernel), List.mem_of_getElem? (i := 925) (by decide +kernel), List.mem_of_getElem? (i := 926) (by decide +kernel)⟩
theorem lw_p29 : lw_okq (⟨"SandDotsModel", "bad", "(I)V"⟩, 30) := ⟨⟨by decide +kernel, by decide +kernel⟩, List.mem_of_getElem? (i := 721) (by decide +kernel), List.mem_of_getElem? (i := 930) (by decide +kernel), List.mem_of_getElem? (i := 931) (by decide +kernel)⟩
theorem lw_p30 : lw_okq (⟨"SandDotsModel", "need", "(Z)V"⟩, 30) := ⟨⟨by decide +kernel, by decide +kernel⟩, List.mem_of_getElem? (i := 721) (by decide +kernel), List.mem_of_getElem? (i := 934) (by decide +kernel), List.mem_of_getElem? (i := 935) (by decide +kernel)⟩
theorem lw_p31 : lw_okq (⟨"SandDotsModel", "readTest", "(I)V"⟩, 30) := ⟨⟨by decide +kernel, by decide +kernel⟩, List.mem_of_getElem? (i := 721) (by decide +kernel), List.mem_of_getElem? (i := 938) (by decide +kernel), List.mem_of_getElem? (i := 939) (by decide +kernel)⟩
def lw_privs_2 : List (MethodName × Nat) := [(⟨"SandDots$Bodies", "evenSize", "(I)I"⟩, 2), (⟨"SandDots$Bodies", "lentSize", "(I)I"⟩, 2), (⟨"SandDots$Bodies", "fastMark", "(I)I"⟩, 2), (⟨"SandDots$Bodies", "lentMark", "(I)I"⟩, 2), (⟨"SandDots$Bodies", "oddSize", "(I)I"⟩, 2), (⟨"SandDots$Bodies", "oddMark", "(I)I"⟩, 2), (⟨"SandDots", "sheetsThere", "()I"⟩, 12), (⟨"SandDotsModel", "found", "(I)I"⟩, 30), (⟨"SandDotsModel", "lay", "(I)V"⟩, 30), (⟨"SandDotsModel", "step", "()V"⟩, 30), (⟨"SandDotsModel", "byteAt", "(I)I"⟩, 30), (⟨"SandDotsModel", "readRule", "()V"⟩, 30), (⟨"SandDotsModel", "word", "()J"⟩, 30), (⟨"SandDotsModel", "bad", "(I)V"⟩, 30), (⟨"SandDotsModel", "need", "(Z)V"⟩, 30), (⟨"SandDotsModel", "readTest", "(I)V"⟩, 30)]
theorem lw_r2 : ∀ q ∈ lw_privs_2, lw_okq q := List.forall_mem_cons.mpr ⟨lw_p16, List.forall_mem_cons.mpr ⟨lw_p17, List.forall_mem_cons.mpr ⟨lw_p18, List.forall_mem_cons.mpr ⟨lw_p19, List.forall_mem_cons.mpr ⟨lw_p20, List.forall_mem_cons.mpr ⟨lw_p21, List.forall_mem_cons.mpr ⟨lw_p22, List.forall_mem_cons.mpr ⟨lw_p23, List.forall_mem_cons.mpr ⟨lw_p24, List.forall_mem_cons.mpr ⟨lw_p25, List.forall_mem_cons.mpr ⟨lw_p26, List.forall_mem_cons.mpr ⟨lw_p27, List.forall_mem_cons.mpr ⟨lw_p28, List.forall_mem_cons.mpr ⟨lw_p29, List.forall_mem_cons.mpr ⟨lw_p30, List.forall_mem_cons.mpr ⟨lw_p31, fun _ h => absurd h List.not_mem_nil⟩⟩⟩⟩⟩⟩⟩⟩⟩⟩⟩⟩⟩⟩⟩⟩
theorem lw_p32 : lw_okq (⟨"SandDotsModel", "numberIn", "(II)I"⟩, 30) := ⟨⟨by decide +kernel, by decide +kernel⟩, List.mem_of_getElem? (i := 721) (by decide +kernel), List.mem_of_getElem? (i := 946) (by decide +kernel), List.mem_of_getElem? (i := 947) (by decide +kernel)⟩
theorem lw_p33 : lw_okq (⟨"SandDotsModel", "isTrue", "(I)Z"⟩, 30) := ⟨⟨by decide +kernel, by decide +kernel⟩, List.mem_of_getElem? (i := 721) (by decide +kernel), List.mem_of_getElem? (i := 962) (by decide +kernel), List.mem_of_getElem? (i := 963) (by decide +kernel)⟩
theorem lw_p34 : lw_okq (⟨"SandDotsModel", "isRule", "(I)Z"⟩, 30) := ⟨⟨by decide +kernel, by decide +kernel⟩, List.mem_of_getElem? (i := 721) (by decide +kernel), List.mem_of_getElem? (i := 970) (by decide +kernel), List.mem_of_getElem? (i := 971) (by decide +kernel)⟩
theorem lw_p35 : lw_okq (⟨"SandDotsModel", "holdsIn", "(II)I"⟩, 30) := ⟨⟨by decide +kernel, by decide +kernel⟩, List.mem_of_getElem? (i := 721) (by decide +kernel), List.mem_of_getElem? (i := 983) (by decide +kernel), List.mem_of_getElem? (i := 984) (by decide +kernel)⟩
theorem lw_p36 : lw_okq (⟨"SandDotsModel", "worthOf", "(I)I"⟩, 30) := ⟨⟨by decide +kernel, by decide +kernel⟩, List.mem_of_getElem? (i := 721) (by decide +kernel), List.mem_of_getElem? (i := 987) (by decide +kernel), List.mem_of_getElem? (i := 988) (by decide +kernel)⟩
theorem lw_p37 : lw_okq (⟨"SandDotsModel", "cameSo", "(I)I"⟩, 30) := ⟨⟨by decide +kernel, by decide +kernel⟩, List.mem_of_getElem? (i := 721) (by decide +kernel), List.mem_of_getElem? (i := 991) (by decide +kernel), List.mem_of_getElem? (i := 992) (by decide +kernel)⟩
theorem lw_p38 : lw_okq (⟨"SandDotsModel", "sized", "(I)I"⟩, 30) := ⟨⟨by decide +kernel, by decide +kernel⟩, List.mem_of_getElem? (i := 721) (by decide +kernel), List.mem_of_getElem? (i := 1014) (by decide +kernel), List.mem_of_getElem? (i := 1015) (by decide +kernel)⟩
theorem lw_p39 : lw_okq (⟨"SandDotsModel", "oddSize", "(I)I"⟩, 30) := ⟨⟨by decide +kernel, by decide +kernel⟩, List.mem_of_getElem? (i := 721) (by decide +kernel), List.mem_of_getElem? (i := 1018) (by decide +kernel), List.mem_of_getElem? (i := 1019) (by decide +kernel)⟩
theorem lw_p40 : lw_okq (⟨"SandDotsModel", "began", "(I)V"⟩, 30) := ⟨⟨by decide +kernel, by decide +kernel⟩, List.mem_of_getElem? (i := 721) (by decide +kernel), List.mem_of_getElem? (i := 1022) (by decide +kernel), List.mem_of_getElem? (i := 1023) (by decide +kernel)⟩
theorem lw_p41 : lw_okq (⟨"SandDotsModel", "marked", "(I)I"⟩, 30) := ⟨⟨by decide +kernel, by decide +kernel⟩, List.mem_of_getElem? (i := 721) (by decide +kernel), List.mem_of_getElem? (i := 1026) (by decide +kernel), List.mem_of_getElem? (i := 1027) (by decide +kernel)⟩
def lw_privs_3 : List (MethodName × Nat) := [(⟨"SandDotsModel", "numberIn", "(II)I"⟩, 30), (⟨"SandDotsModel", "isTrue", "(I)Z"⟩, 30), (⟨"SandDotsModel", "isRule", "(I)Z"⟩, 30), (⟨"SandDotsModel", "holdsIn", "(II)I"⟩, 30), (⟨"SandDotsModel", "worthOf", "(I)I"⟩, 30), (⟨"SandDotsModel", "cameSo", "(I)I"⟩, 30), (⟨"SandDotsModel", "sized", "(I)I"⟩, 30), (⟨"SandDotsModel", "oddSize", "(I)I"⟩, 30), (⟨"SandDotsModel", "began", "(I)V"⟩, 30), (⟨"SandDotsModel", "marked", "(I)I"⟩, 30)]
theorem lw_r3 : ∀ q ∈ lw_privs_3, lw_okq q := List.forall_mem_cons.mpr ⟨lw_p32, List.forall_mem_cons.mpr ⟨lw_p33, List.forall_mem_cons.mpr ⟨lw_p34, List.forall_mem_cons.mpr ⟨lw_p35, List.forall_mem_cons.mpr ⟨lw_p36, List.forall_mem_cons.mpr ⟨lw_p37, List.forall_mem_cons.mpr ⟨lw_p38, List.forall_mem_cons.mpr ⟨lw_p39, List.forall_mem_cons.mpr ⟨lw_p40, List.forall_mem_cons.mpr ⟨lw_p41, fun _ h => absurd h List.not_mem_nil⟩⟩⟩⟩⟩⟩⟩⟩⟩⟩
def lw_privs : List (MethodName × Nat) := lw_privs_1 ++ (lw_privs_2 ++ (lw_privs_3))
def lw_tbl : List Cond := k2_sels lw_privs ++ tables_1
theorem lw_privs_ok : ∀ q ∈ lw_privs, lw_okq q := by
  show ∀ q ∈ lw_privs_1 ++ (lw_privs_2 ++ (lw_privs_3)), lw_okq q
  exact List.forall_mem_append.mpr ⟨lw_r1, List.forall_mem_append.mpr ⟨lw_r2, lw_r3⟩⟩
end
section
def RX0 : String := "SandDots$Bodies"
def TX0 : u_T := fun k => match k with
  | 0 => ("SandDots$Bodies", "begun", "[I", true)
  | _ => ("SandDots$Bodies", "traced", "I", false)
def tyX0 : Nat → FieldType := fun k => match k with
  | 0 => .array .int
  | _ => .int
abbrev wsX00 : List Cond := u_ws RX0 TX0 2
theorem nmX0 : ∀ a, a < 2 → ∀ b, b < 2 → a ≠ b → (TX0 a).2.1 ≠ (TX0 b).2.1 := by decide +kernel
theorem tyX0_ok : ∀ k, k < 2 → parseFieldDescriptor (TX0 k).2.2.1 = some (tyX0 k) := by decide +kernel
abbrev cX0_init : ByteArray := prog_2_method_1_code
def yX0_init : MethodName := ⟨RX0, "<init>", "()V"⟩
abbrev cX0_emptyTrace : ByteArray := prog_2_method_2_code
def yX0_emptyTrace : MethodName := ⟨RX0, "emptyTrace", "()V"⟩
abbrev cX0_traced : ByteArray := prog_2_method_3_code
def yX0_traced : MethodName := ⟨RX0, "traced", "(I)I"⟩
abbrev cX0_sizeOf : ByteArray := prog_2_method_4_code
def yX0_sizeOf : MethodName := ⟨RX0, "sizeOf", "(I)I"⟩
abbrev cX0_markOf : ByteArray := prog_2_method_5_code
def yX0_markOf : MethodName := ⟨RX0, "markOf", "(I)I"⟩
abbrev cX0_lentSize : ByteArray := prog_2_method_6_code
def yX0_lentSize : MethodName := ⟨RX0, "lentSize", "(I)I"⟩
abbrev cX0_evenSize : ByteArray := prog_2_method_7_code
def yX0_evenSize : MethodName := ⟨RX0, "evenSize", "(I)I"⟩
abbrev cX0_fastSize : ByteArray := prog_2_method_8_code
def yX0_fastSize : MethodName := ⟨RX0, "fastSize", "(I)I"⟩
abbrev cX0_oddSize : ByteArray := prog_2_method_9_code
def yX0_oddSize : MethodName := ⟨RX0, "oddSize", "(I)I"⟩
abbrev cX0_lentMark : ByteArray := prog_2_method_10_code
def yX0_lentMark : MethodName := ⟨RX0, "lentMark", "(I)I"⟩
abbrev cX0_fastMark : ByteArray := prog_2_method_11_code
def yX0_fastMark : MethodName := ⟨RX0, "fastMark", "(I)I"⟩
abbrev cX0_oddMark : ByteArray := prog_2_method_12_code
def yX0_oddMark : MethodName := ⟨RX0, "oddMark", "(I)I"⟩
abbrev cX0_begin : ByteArray := prog_2_method_13_code
def yX0_begin : MethodName := ⟨RX0, "begin", "(I)V"⟩
def RX1 : String := "SandDots$Book"
def TX1 : u_T := fun k => match k with
  | 0 => ("SandDots$Book", "charts", "[J", true)
  | 1 => ("SandDots$Book", "ends", "[I", true)
  | 2 => ("SandDots$Book", "all", "[I", true)
  | 3 => ("SandDots$Book", "held", "[I", true)
  | _ => ("SandDots$Book", "size", "I", false)
def tyX1 : Nat → FieldType := fun k => match k with
  | 0 => .array .long
  | 1 => .array .int
  | 2 => .array .int
  | 3 => .array .int
  | _ => .int
abbrev wsX10 : List Cond := u_ws RX1 TX1 5
theorem nmX1 : ∀ a, a < 5 → ∀ b, b < 5 → a ≠ b → (TX1 a).2.1 ≠ (TX1 b).2.1 := by decide +kernel
theorem tyX1_ok : ∀ k, k < 5 → parseFieldDescriptor (TX1 k).2.2.1 = some (tyX1 k) := by decide +kernel
abbrev cX1_init : ByteArray := prog_3_method_1_code
def yX1_init : MethodName := ⟨RX1, "<init>", "()V"⟩
abbrev cX1_isEnd : ByteArray := prog_3_method_2_code
def yX1_isEnd : MethodName := ⟨RX1, "isEnd", "(I)Z"⟩
abbrev cX1_isFull : ByteArray := prog_3_method_3_code
def yX1_isFull : MethodName := ⟨RX1, "isFull", "()Z"⟩
abbrev cX1_write : ByteArray := prog_3_method_4_code
def yX1_write : MethodName := ⟨RX1, "write", "(JI)V"⟩
abbrev cX1_holdAgainst : ByteArray := prog_3_method_5_code
def yX1_holdAgainst : MethodName := ⟨RX1, "holdAgainst", "(LSandDots$RuleSet;I)V"⟩
abbrev cX1_answerTo : ByteArray := prog_3_method_6_code
def yX1_answerTo : MethodName := ⟨RX1, "answerTo", "(I)I"⟩
abbrev cX1_worthHeld : ByteArray := prog_3_method_7_code
def yX1_worthHeld : MethodName := ⟨RX1, "worthHeld", "()I"⟩
abbrev cX1_casesKnown : ByteArray := prog_3_method_8_code
def yX1_casesKnown : MethodName := ⟨RX1, "casesKnown", "()I"⟩
abbrev cX1_casesYes : ByteArray := prog_3_method_9_code
def yX1_casesYes : MethodName := ⟨RX1, "casesYes", "()I"⟩
def RX2 : String := "SandDots$Charts"
def TX2 : u_T := fun k => match k with
  | _ => ("", "", "", false)
def tyX2 : Nat → FieldType := fun k => match k with
  | _ => .int
abbrev wsX20 : List Cond := u_ws RX2 TX2 0
theorem nmX2 : ∀ a, a < 0 → ∀ b, b < 0 → a ≠ b → (TX2 a).2.1 ≠ (TX2 b).2.1 := by decide +kernel
theorem tyX2_ok : ∀ k, k < 0 → parseFieldDescriptor (TX2 k).2.2.1 = some (tyX2 k) := by decide +kernel
abbrev cX2_ofCode : ByteArray := prog_4_method_2_code
def yX2_ofCode : MethodName := ⟨RX2, "ofCode", "(I)J"⟩
abbrev cX2_daughterOf : ByteArray := prog_4_method_3_code
def yX2_daughterOf : MethodName := ⟨RX2, "daughterOf", "(II)I"⟩
abbrev cX2_figureAt : ByteArray := prog_4_method_4_code
def yX2_figureAt : MethodName := ⟨RX2, "figureAt", "(JI)I"⟩
abbrev cX2_withFigure : ByteArray := prog_4_method_5_code
def yX2_withFigure : MethodName := ⟨RX2, "withFigure", "(JII)J"⟩
abbrev cX2_firstAbove : ByteArray := prog_4_method_6_code
def yX2_firstAbove : MethodName := ⟨RX2, "firstAbove", "(I)I"⟩
abbrev cX2_timesSeen : ByteArray := prog_4_method_7_code
def yX2_timesSeen : MethodName := ⟨RX2, "timesSeen", "(JIII)I"⟩
abbrev cX2_endsOfPoint : ByteArray := prog_4_method_8_code
def yX2_endsOfPoint : MethodName := ⟨RX2, "endsOfPoint", "(J)I"⟩
abbrev cX2_wayUp : ByteArray := prog_4_method_9_code
def yX2_wayUp : MethodName := ⟨RX2, "wayUp", "(JI)I"⟩
def RX3 : String := "SandDots$Figures"
def TX3 : u_T := fun k => match k with
  | _ => ("", "", "", false)
def tyX3 : Nat → FieldType := fun k => match k with
  | _ => .int
abbrev wsX30 : List Cond := u_ws RX3 TX3 0
theorem nmX3 : ∀ a, a < 0 → ∀ b, b < 0 → a ≠ b → (TX3 a).2.1 ≠ (TX3 b).2.1 := by decide +kernel
theorem tyX3_ok : ∀ k, k < 0 → parseFieldDescriptor (TX3 k).2.2.1 = some (tyX3 k) := by decide +kernel
abbrev cX3_isFigure : ByteArray := prog_5_method_2_code
def yX3_isFigure : MethodName := ⟨RX3, "isFigure", "(I)Z"⟩
abbrev cX3_dots : ByteArray := prog_5_method_3_code
def yX3_dots : MethodName := ⟨RX3, "dots", "(I)I"⟩
abbrev cX3_isEven : ByteArray := prog_5_method_4_code
def yX3_isEven : MethodName := ⟨RX3, "isEven", "(I)Z"⟩
abbrev cX3_toldKind : ByteArray := prog_5_method_5_code
def yX3_toldKind : MethodName := ⟨RX3, "toldKind", "(I)I"⟩
abbrev cX3_isOfKind : ByteArray := prog_5_method_6_code
def yX3_isOfKind : MethodName := ⟨RX3, "isOfKind", "(II)Z"⟩
abbrev cX3_row : ByteArray := prog_5_method_7_code
def yX3_row : MethodName := ⟨RX3, "row", "(II)I"⟩
def RX4 : String := "SandDots$Mender"
def TX4 : u_T := fun k => match k with
  | 0 => ("SandDots$Mender", "lower", "[J", true)
  | 1 => ("SandDots$Mender", "upper", "[J", true)
  | 2 => ("SandDots$Mender", "upperAlone", "J", true)
  | 3 => ("SandDots$Mender", "looked", "Z", false)
  | 4 => ("SandDots$Mender", "drawn", "J", false)
  | 5 => ("SandDots$Mender", "untorn", "J", false)
  | 6 => ("SandDots$Mender", "fits", "I", false)
  | 7 => ("SandDots$Mender", "strokes", "I", false)
  | 8 => ("SandDots$Mender", "mended", "I", false)
  | _ => ("SandDots$Mender", "firstWrong", "I", false)
def tyX4 : Nat → FieldType := fun k => match k with
  | 0 => .array .long
  | 1 => .array .long
  | 2 => .long
  | 3 => .boolean
  | 4 => .long
  | 5 => .long
  | 6 => .int
  | 7 => .int
  | 8 => .int
  | _ => .int
abbrev wsX40 : List Cond := u_ws RX4 TX4 10
theorem nmX4 : ∀ a, a < 10 → ∀ b, b < 10 → a ≠ b → (TX4 a).2.1 ≠ (TX4 b).2.1 := by decide +kernel
theorem tyX4_ok : ∀ k, k < 10 → parseFieldDescriptor (TX4 k).2.2.1 = some (tyX4 k) := by decide +kernel
abbrev cX4_init : ByteArray := prog_6_method_1_code
def yX4_init : MethodName := ⟨RX4, "<init>", "()V"⟩
abbrev cX4_fillWithCharts : ByteArray := prog_6_method_2_code
def yX4_fillWithCharts : MethodName := ⟨RX4, "fillWithCharts", "([JI)V"⟩
abbrev cX4_lookAt : ByteArray := prog_6_method_3_code
def yX4_lookAt : MethodName := ⟨RX4, "lookAt", "(JJ)V"⟩
abbrev cX4_mayTellMore : ByteArray := prog_6_method_4_code
def yX4_mayTellMore : MethodName := ⟨RX4, "mayTellMore", "(J)Z"⟩
abbrev cX4_lookThrough : ByteArray := prog_6_method_5_code
def yX4_lookThrough : MethodName := ⟨RX4, "lookThrough", "(IJ)V"⟩
abbrev cX4_agreesUpTo : ByteArray := prog_6_method_6_code
def yX4_agreesUpTo : MethodName := ⟨RX4, "agreesUpTo", "(IJ)Z"⟩
abbrev cX4_answerTo : ByteArray := prog_6_method_7_code
def yX4_answerTo : MethodName := ⟨RX4, "answerTo", "(I)I"⟩
def RX5 : String := "SandDots$RuleReader"
def TX5 : u_T := fun k => match k with
  | 0 => ("SandDots$RuleReader", "tokens", "LSandDots$Tokens;", true)
  | 1 => ("SandDots$RuleReader", "next", "I", false)
  | 2 => ("SandDots$RuleReader", "number", "I", false)
  | 3 => ("SandDots$RuleReader", "faultNumber", "I", false)
  | _ => ("SandDots$RuleReader", "faultPlace", "I", false)
def tyX5 : Nat → FieldType := fun k => match k with
  | 0 => .object "SandDots$Tokens"
  | 1 => .int
  | 2 => .int
  | 3 => .int
  | _ => .int
abbrev wsX50 : List Cond := u_ws RX5 TX5 5
theorem nmX5 : ∀ a, a < 5 → ∀ b, b < 5 → a ≠ b → (TX5 a).2.1 ≠ (TX5 b).2.1 := by decide +kernel
theorem tyX5_ok : ∀ k, k < 5 → parseFieldDescriptor (TX5 k).2.2.1 = some (tyX5 k) := by decide +kernel
abbrev cX5_init : ByteArray := prog_7_method_1_code
def yX5_init : MethodName := ⟨RX5, "<init>", "()V"⟩
abbrev cX5_readInto : ByteArray := prog_7_method_2_code
def yX5_readInto : MethodName := ⟨RX5, "readInto", "(LSandDots$RuleSet;LSandDots$Tape;)Z"⟩
abbrev cX5_readRule : ByteArray := prog_7_method_3_code
def yX5_readRule : MethodName := ⟨RX5, "readRule", "(LSandDots$RuleSet;)Z"⟩
abbrev cX5_readTest : ByteArray := prog_7_method_4_code
def yX5_readTest : MethodName := ⟨RX5, "readTest", "(LSandDots$RuleSet;)Z"⟩
abbrev cX5_take : ByteArray := prog_7_method_5_code
def yX5_take : MethodName := ⟨RX5, "take", "(I)Z"⟩
abbrev cX5_takeNumber : ByteArray := prog_7_method_6_code
def yX5_takeNumber : MethodName := ⟨RX5, "takeNumber", "(II)Z"⟩
abbrev cX5_faultHere : ByteArray := prog_7_method_7_code
def yX5_faultHere : MethodName := ⟨RX5, "faultHere", "(I)Z"⟩
def RX6 : String := "SandDots$RuleSet"
def TX6 : u_T := fun k => match k with
  | 0 => ("SandDots$RuleSet", "words", "[I", true)
  | 1 => ("SandDots$RuleSet", "firsts", "[I", true)
  | 2 => ("SandDots$RuleSet", "seconds", "[I", true)
  | 3 => ("SandDots$RuleSet", "tests", "[I", true)
  | 4 => ("SandDots$RuleSet", "numbers", "[I", true)
  | _ => ("SandDots$RuleSet", "size", "I", false)
def tyX6 : Nat → FieldType := fun k => match k with
  | 0 => .array .int
  | 1 => .array .int
  | 2 => .array .int
  | 3 => .array .int
  | 4 => .array .int
  | _ => .int
abbrev wsX60 : List Cond := u_ws RX6 TX6 6
theorem nmX6 : ∀ a, a < 6 → ∀ b, b < 6 → a ≠ b → (TX6 a).2.1 ≠ (TX6 b).2.1 := by decide +kernel
theorem tyX6_ok : ∀ k, k < 6 → parseFieldDescriptor (TX6 k).2.2.1 = some (tyX6 k) := by decide +kernel
abbrev cX6_init : ByteArray := prog_8_method_1_code
def yX6_init : MethodName := ⟨RX6, "<init>", "()V"⟩
abbrev cX6_isFull : ByteArray := prog_8_method_2_code
def yX6_isFull : MethodName := ⟨RX6, "isFull", "()Z"⟩
abbrev cX6_beginRule : ByteArray := prog_8_method_3_code
def yX6_beginRule : MethodName := ⟨RX6, "beginRule", "()V"⟩
abbrev cX6_addTest : ByteArray := prog_8_method_4_code
def yX6_addTest : MethodName := ⟨RX6, "addTest", "(III)V"⟩
abbrev cX6_endRule : ByteArray := prog_8_method_5_code
def yX6_endRule : MethodName := ⟨RX6, "endRule", "(I)V"⟩
abbrev cX6_hasRule : ByteArray := prog_8_method_6_code
def yX6_hasRule : MethodName := ⟨RX6, "hasRule", "(I)Z"⟩
abbrev cX6_numberSaid : ByteArray := prog_8_method_7_code
def yX6_numberSaid : MethodName := ⟨RX6, "numberSaid", "(I)I"⟩
abbrev cX6_firstThatHolds : ByteArray := prog_8_method_8_code
def yX6_firstThatHolds : MethodName := ⟨RX6, "firstThatHolds", "(J)I"⟩
abbrev cX6_isTrueOf : ByteArray := prog_8_method_9_code
def yX6_isTrueOf : MethodName := ⟨RX6, "isTrueOf", "(IJ)Z"⟩
abbrev cX6_testIsTrue : ByteArray := prog_8_method_10_code
def yX6_testIsTrue : MethodName := ⟨RX6, "testIsTrue", "(IIIJ)Z"⟩
def RX7 : String := "SandDots$Sheet"
def TX7 : u_T := fun k => match k with
  | 0 => ("SandDots$Sheet", "items", "[I", true)
  | 1 => ("SandDots$Sheet", "lane", "I", false)
  | _ => ("SandDots$Sheet", "size", "I", false)
def tyX7 : Nat → FieldType := fun k => match k with
  | 0 => .array .int
  | 1 => .int
  | _ => .int
abbrev wsX70 : List Cond := u_ws RX7 TX7 3
theorem nmX7 : ∀ a, a < 3 → ∀ b, b < 3 → a ≠ b → (TX7 a).2.1 ≠ (TX7 b).2.1 := by decide +kernel
theorem tyX7_ok : ∀ k, k < 3 → parseFieldDescriptor (TX7 k).2.2.1 = some (tyX7 k) := by decide +kernel
abbrev cX7_init : ByteArray := prog_9_method_1_code
def yX7_init : MethodName := ⟨RX7, "<init>", "()V"⟩
abbrev cX7_isLane : ByteArray := prog_9_method_2_code
def yX7_isLane : MethodName := ⟨RX7, "isLane", "(I)Z"⟩
abbrev cX7_isMissing : ByteArray := prog_9_method_3_code
def yX7_isMissing : MethodName := ⟨RX7, "isMissing", "()Z"⟩
abbrev cX7_begin : ByteArray := prog_9_method_4_code
def yX7_begin : MethodName := ⟨RX7, "begin", "(II)V"⟩
abbrev cX7_forget : ByteArray := prog_9_method_5_code
def yX7_forget : MethodName := ⟨RX7, "forget", "()V"⟩
abbrev cX7_hasItems : ByteArray := prog_9_method_6_code
def yX7_hasItems : MethodName := ⟨RX7, "hasItems", "(II)Z"⟩
abbrev cX7_findingOf : ByteArray := prog_9_method_7_code
def yX7_findingOf : MethodName := ⟨RX7, "findingOf", "(II)I"⟩
abbrev cX7_put : ByteArray := prog_9_method_8_code
def yX7_put : MethodName := ⟨RX7, "put", "(II)I"⟩
abbrev cX7_narrowed : ByteArray := prog_9_method_9_code
def yX7_narrowed : MethodName := ⟨RX7, "narrowed", "(I)I"⟩
abbrev cX7_areWithin : ByteArray := prog_9_method_10_code
def yX7_areWithin : MethodName := ⟨RX7, "areWithin", "(IIII)Z"⟩
abbrev cX7_oddOnes : ByteArray := prog_9_method_11_code
def yX7_oddOnes : MethodName := ⟨RX7, "oddOnes", "(I)I"⟩
abbrev cX7_drawnRows : ByteArray := prog_9_method_12_code
def yX7_drawnRows : MethodName := ⟨RX7, "drawnRows", "(I)J"⟩
abbrev cX7_untornRows : ByteArray := prog_9_method_13_code
def yX7_untornRows : MethodName := ⟨RX7, "untornRows", "(I)J"⟩
def RX8 : String := "SandDots$Tape"
def TX8 : u_T := fun k => match k with
  | 0 => ("SandDots$Tape", "bytes", "[I", true)
  | _ => ("SandDots$Tape", "used", "I", false)
def tyX8 : Nat → FieldType := fun k => match k with
  | 0 => .array .int
  | _ => .int
abbrev wsX80 : List Cond := u_ws RX8 TX8 2
theorem nmX8 : ∀ a, a < 2 → ∀ b, b < 2 → a ≠ b → (TX8 a).2.1 ≠ (TX8 b).2.1 := by decide +kernel
theorem tyX8_ok : ∀ k, k < 2 → parseFieldDescriptor (TX8 k).2.2.1 = some (tyX8 k) := by decide +kernel
abbrev cX8_init : ByteArray := prog_10_method_1_code
def yX8_init : MethodName := ⟨RX8, "<init>", "()V"⟩
abbrev cX8_hasRoom : ByteArray := prog_10_method_2_code
def yX8_hasRoom : MethodName := ⟨RX8, "hasRoom", "(I)Z"⟩
abbrev cX8_append : ByteArray := prog_10_method_3_code
def yX8_append : MethodName := ⟨RX8, "append", "(JI)V"⟩
abbrev cX8_byteAt : ByteArray := prog_10_method_4_code
def yX8_byteAt : MethodName := ⟨RX8, "byteAt", "(I)I"⟩
def RX9 : String := "SandDots$Tokens"
def TX9 : u_T := fun k => match k with
  | 0 => ("SandDots$Tokens", "starts", "[I", true)
  | 1 => ("SandDots$Tokens", "lengths", "[I", true)
  | 2 => ("SandDots$Tokens", "sorts", "[I", true)
  | 3 => ("SandDots$Tokens", "kinds", "[I", true)
  | 4 => ("SandDots$Tokens", "values", "[I", true)
  | 5 => ("SandDots$Tokens", "size", "I", false)
  | _ => ("SandDots$Tokens", "end", "I", false)
def tyX9 : Nat → FieldType := fun k => match k with
  | 0 => .array .int
  | 1 => .array .int
  | 2 => .array .int
  | 3 => .array .int
  | 4 => .array .int
  | 5 => .int
  | _ => .int
abbrev wsX90 : List Cond := u_ws RX9 TX9 7
theorem nmX9 : ∀ a, a < 7 → ∀ b, b < 7 → a ≠ b → (TX9 a).2.1 ≠ (TX9 b).2.1 := by decide +kernel
theorem tyX9_ok : ∀ k, k < 7 → parseFieldDescriptor (TX9 k).2.2.1 = some (tyX9 k) := by decide +kernel
abbrev cX9_init : ByteArray := prog_11_method_1_code
def yX9_init : MethodName := ⟨RX9, "<init>", "()V"⟩
abbrev cX9_cut : ByteArray := prog_11_method_2_code
def yX9_cut : MethodName := ⟨RX9, "cut", "(LSandDots$Tape;)V"⟩
abbrev cX9_place : ByteArray := prog_11_method_3_code
def yX9_place : MethodName := ⟨RX9, "place", "(IIZ)V"⟩
abbrev cX9_name : ByteArray := prog_11_method_4_code
def yX9_name : MethodName := ⟨RX9, "name", "(ILSandDots$Tape;)V"⟩
abbrev cX9_joined : ByteArray := prog_11_method_5_code
def yX9_joined : MethodName := ⟨RX9, "joined", "(ILSandDots$Tape;II)I"⟩
abbrev cX9_sortOf : ByteArray := prog_11_method_6_code
def yX9_sortOf : MethodName := ⟨RX9, "sortOf", "(I)I"⟩
abbrev cX9_kindOf : ByteArray := prog_11_method_7_code
def yX9_kindOf : MethodName := ⟨RX9, "kindOf", "(I)I"⟩
abbrev cX9_valueOf : ByteArray := prog_11_method_8_code
def yX9_valueOf : MethodName := ⟨RX9, "valueOf", "(I)I"⟩
abbrev cX9_startOf : ByteArray := prog_11_method_9_code
def yX9_startOf : MethodName := ⟨RX9, "startOf", "(I)I"⟩
def RX10 : String := "SandDots"
def TX10 : u_T := fun k => match k with
  | 0 => ("SandDots", "sheets", "[LSandDots$Sheet;", true)
  | 1 => ("SandDots", "mender", "LSandDots$Mender;", true)
  | 2 => ("SandDots", "tape", "LSandDots$Tape;", true)
  | 3 => ("SandDots", "reader", "LSandDots$RuleReader;", true)
  | 4 => ("SandDots", "book", "LSandDots$Book;", true)
  | 5 => ("SandDots", "bodies", "LSandDots$Bodies;", true)
  | 6 => ("SandDots", "ruleSet", "LSandDots$RuleSet;", false)
  | 7 => ("SandDots", "spareSet", "LSandDots$RuleSet;", false)
  | 8 => ("SandDots", "code", "I", false)
  | 9 => ("SandDots", "marks", "J", false)
  | 10 => ("SandDots", "latestFault", "I", false)
  | _ => ("SandDots", "latestFinding", "I", false)
def tyX10 : Nat → FieldType := fun k => match k with
  | 0 => .array (.object "SandDots$Sheet")
  | 1 => .object "SandDots$Mender"
  | 2 => .object "SandDots$Tape"
  | 3 => .object "SandDots$RuleReader"
  | 4 => .object "SandDots$Book"
  | 5 => .object "SandDots$Bodies"
  | 6 => .object "SandDots$RuleSet"
  | 7 => .object "SandDots$RuleSet"
  | 8 => .int
  | 9 => .long
  | 10 => .int
  | _ => .int
abbrev wsX100 : List Cond := u_ws RX10 TX10 12
theorem nmX10 : ∀ a, a < 12 → ∀ b, b < 12 → a ≠ b → (TX10 a).2.1 ≠ (TX10 b).2.1 := by decide +kernel
theorem tyX10_ok : ∀ k, k < 12 → parseFieldDescriptor (TX10 k).2.2.1 = some (tyX10 k) := by decide +kernel
abbrev cX10_init : ByteArray := prog_1_method_1_code
def yX10_init : MethodName := ⟨RX10, "<init>", "()V"⟩
abbrev cX10_sheet : ByteArray := prog_1_method_2_code
def yX10_sheet : MethodName := ⟨RX10, "sheet", "(III)I"⟩
abbrev cX10_set : ByteArray := prog_1_method_3_code
def yX10_set : MethodName := ⟨RX10, "set", "(III)I"⟩
abbrev cX10_copy : ByteArray := prog_1_method_4_code
def yX10_copy : MethodName := ⟨RX10, "copy", "(IIIII)I"⟩
abbrev cX10_drop : ByteArray := prog_1_method_5_code
def yX10_drop : MethodName := ⟨RX10, "drop", "(I)I"⟩
abbrev cX10_cast : ByteArray := prog_1_method_6_code
def yX10_cast : MethodName := ⟨RX10, "cast", "(II)I"⟩
abbrev cX10_chart : ByteArray := prog_1_method_7_code
def yX10_chart : MethodName := ⟨RX10, "chart", "(I)I"⟩
abbrev cX10_at : ByteArray := prog_1_method_8_code
def yX10_at : MethodName := ⟨RX10, "at", "(I)I"⟩
abbrev cX10_add : ByteArray := prog_1_method_9_code
def yX10_add : MethodName := ⟨RX10, "add", "(II)I"⟩
abbrev cX10_seen : ByteArray := prog_1_method_10_code
def yX10_seen : MethodName := ⟨RX10, "seen", "(I)I"⟩
abbrev cX10_point : ByteArray := prog_1_method_11_code
def yX10_point : MethodName := ⟨RX10, "point", "()I"⟩
abbrev cX10_drawing : ByteArray := prog_1_method_12_code
def yX10_drawing : MethodName := ⟨RX10, "drawing", "(III)I"⟩
abbrev cX10_feed : ByteArray := prog_1_method_13_code
def yX10_feed : MethodName := ⟨RX10, "feed", "(JI)I"⟩
abbrev cX10_rules : ByteArray := prog_1_method_14_code
def yX10_rules : MethodName := ⟨RX10, "rules", "()I"⟩
abbrev cX10_fault : ByteArray := prog_1_method_15_code
def yX10_fault : MethodName := ⟨RX10, "fault", "()I"⟩
abbrev cX10_said : ByteArray := prog_1_method_16_code
def yX10_said : MethodName := ⟨RX10, "said", "(I)I"⟩
abbrev cX10_holds : ByteArray := prog_1_method_17_code
def yX10_holds : MethodName := ⟨RX10, "holds", "(I)I"⟩
abbrev cX10_record : ByteArray := prog_1_method_18_code
def yX10_record : MethodName := ⟨RX10, "record", "(I)I"⟩
abbrev cX10_worth : ByteArray := prog_1_method_19_code
def yX10_worth : MethodName := ⟨RX10, "worth", "(II)I"⟩
abbrev cX10_best : ByteArray := prog_1_method_20_code
def yX10_best : MethodName := ⟨RX10, "best", "()I"⟩
abbrev cX10_kind : ByteArray := prog_1_method_21_code
def yX10_kind : MethodName := ⟨RX10, "kind", "(I)I"⟩
abbrev cX10_as : ByteArray := prog_1_method_22_code
def yX10_as : MethodName := ⟨RX10, "as", "(II)I"⟩
abbrev cX10_ask : ByteArray := prog_1_method_23_code
def yX10_ask : MethodName := ⟨RX10, "ask", "(II)I"⟩
abbrev cX10_trace : ByteArray := prog_1_method_24_code
def yX10_trace : MethodName := ⟨RX10, "trace", "(I)I"⟩
abbrev cX10_count : ByteArray := prog_1_method_25_code
def yX10_count : MethodName := ⟨RX10, "count", "(I)I"⟩
abbrev cX10_status : ByteArray := prog_1_method_26_code
def yX10_status : MethodName := ⟨RX10, "status", "()I"⟩
abbrev cX10_found : ByteArray := prog_1_method_27_code
def yX10_found : MethodName := ⟨RX10, "found", "(I)I"⟩
abbrev cX10_done : ByteArray := prog_1_method_28_code
def yX10_done : MethodName := ⟨RX10, "done", "(I)I"⟩
abbrev cX10_tellChart : ByteArray := prog_1_method_29_code
def yX10_tellChart : MethodName := ⟨RX10, "tellChart", "(I)V"⟩
abbrev cX10_sheetsThere : ByteArray := prog_1_method_30_code
def yX10_sheetsThere : MethodName := ⟨RX10, "sheetsThere", "()I"⟩
abbrev cX10_isSheet : ByteArray := prog_1_method_31_code
def yX10_isSheet : MethodName := ⟨RX10, "isSheet", "(I)Z"⟩
abbrev cX10_isPlace : ByteArray := prog_1_method_32_code
def yX10_isPlace : MethodName := ⟨RX10, "isPlace", "(I)Z"⟩
def RX11 : String := "SandDotsModel"
def TX11 : u_T := fun k => match k with
  | 0 => ("SandDotsModel", "thrown", "I", false)
  | 1 => ("SandDotsModel", "status", "I", false)
  | 2 => ("SandDotsModel", "lane", "[I", true)
  | 3 => ("SandDotsModel", "many", "[I", true)
  | 4 => ("SandDotsModel", "item", "[I", true)
  | 5 => ("SandDotsModel", "code", "I", false)
  | 6 => ("SandDotsModel", "place", "[I", true)
  | 7 => ("SandDotsModel", "rules", "I", false)
  | 8 => ("SandDotsModel", "tests", "[I", true)
  | 9 => ("SandDotsModel", "test", "[I", true)
  | 10 => ("SandDotsModel", "says", "[I", true)
  | 11 => ("SandDotsModel", "read", "I", false)
  | 12 => ("SandDotsModel", "readTests", "[I", true)
  | 13 => ("SandDotsModel", "readTest", "[I", true)
  | 14 => ("SandDotsModel", "readSays", "[I", true)
  | 15 => ("SandDotsModel", "tape", "[I", true)
  | 16 => ("SandDotsModel", "taped", "I", false)
  | 17 => ("SandDotsModel", "latest", "I", false)
  | 18 => ("SandDotsModel", "size", "I", false)
  | 19 => ("SandDotsModel", "cursor", "I", false)
  | 20 => ("SandDotsModel", "sort", "I", false)
  | 21 => ("SandDotsModel", "from", "I", false)
  | 22 => ("SandDotsModel", "till", "I", false)
  | 23 => ("SandDotsModel", "fault", "I", false)
  | 24 => ("SandDotsModel", "faultAt", "I", false)
  | 25 => ("SandDotsModel", "cases", "I", false)
  | 26 => ("SandDotsModel", "caseCode", "[I", true)
  | 27 => ("SandDotsModel", "caseCame", "[I", true)
  | 28 => ("SandDotsModel", "trace", "[I", true)
  | _ => ("SandDotsModel", "traced", "I", false)
def tyX11 : Nat → FieldType := fun k => match k with
  | 0 => .int
  | 1 => .int
  | 2 => .array .int
  | 3 => .array .int
  | 4 => .array .int
  | 5 => .int
  | 6 => .array .int
  | 7 => .int
  | 8 => .array .int
  | 9 => .array .int
  | 10 => .array .int
  | 11 => .int
  | 12 => .array .int
  | 13 => .array .int
  | 14 => .array .int
  | 15 => .array .int
  | 16 => .int
  | 17 => .int
  | 18 => .int
  | 19 => .int
  | 20 => .int
  | 21 => .int
  | 22 => .int
  | 23 => .int
  | 24 => .int
  | 25 => .int
  | 26 => .array .int
  | 27 => .array .int
  | 28 => .array .int
  | _ => .int
abbrev wsX110 : List Cond := u_ws RX11 TX11 30
theorem nmX11 : ∀ a, a < 30 → ∀ b, b < 30 → a ≠ b → (TX11 a).2.1 ≠ (TX11 b).2.1 := by decide +kernel
theorem tyX11_ok : ∀ k, k < 30 → parseFieldDescriptor (TX11 k).2.2.1 = some (tyX11 k) := by decide +kernel
abbrev cX11_init : ByteArray := prog_13_method_1_code
def yX11_init : MethodName := ⟨RX11, "<init>", "()V"⟩
abbrev cX11_in : ByteArray := prog_13_method_3_code
def yX11_in : MethodName := ⟨RX11, "in", "(JJJ)Z"⟩
abbrev cX11_found : ByteArray := prog_13_method_4_code
def yX11_found : MethodName := ⟨RX11, "found", "(I)I"⟩
abbrev cX11_isSheet : ByteArray := prog_13_method_5_code
def yX11_isSheet : MethodName := ⟨RX11, "isSheet", "(I)Z"⟩
abbrev cX11_sheet : ByteArray := prog_13_method_6_code
def yX11_sheet : MethodName := ⟨RX11, "sheet", "(III)I"⟩
abbrev cX11_set : ByteArray := prog_13_method_7_code
def yX11_set : MethodName := ⟨RX11, "set", "(III)I"⟩
abbrev cX11_copy : ByteArray := prog_13_method_8_code
def yX11_copy : MethodName := ⟨RX11, "copy", "(IIIII)I"⟩
abbrev cX11_drop : ByteArray := prog_13_method_9_code
def yX11_drop : MethodName := ⟨RX11, "drop", "(I)I"⟩
abbrev cX11_lay : ByteArray := prog_13_method_10_code
def yX11_lay : MethodName := ⟨RX11, "lay", "(I)V"⟩
abbrev cX11_isFigure16 : ByteArray := prog_13_method_11_code
def yX11_isFigure16 : MethodName := ⟨RX11, "isFigure16", "(I)Z"⟩
abbrev cX11_singles : ByteArray := prog_13_method_12_code
def yX11_singles : MethodName := ⟨RX11, "singles", "(I)I"⟩
abbrev cX11_cast : ByteArray := prog_13_method_13_code
def yX11_cast : MethodName := ⟨RX11, "cast", "(II)I"⟩
abbrev cX11_chart : ByteArray := prog_13_method_14_code
def yX11_chart : MethodName := ⟨RX11, "chart", "(I)I"⟩
abbrev cX11_at : ByteArray := prog_13_method_15_code
def yX11_at : MethodName := ⟨RX11, "at", "(I)I"⟩
abbrev cX11_add : ByteArray := prog_13_method_16_code
def yX11_add : MethodName := ⟨RX11, "add", "(II)I"⟩
abbrev cX11_seen : ByteArray := prog_13_method_17_code
def yX11_seen : MethodName := ⟨RX11, "seen", "(I)I"⟩
abbrev cX11_above : ByteArray := prog_13_method_18_code
def yX11_above : MethodName := ⟨RX11, "above", "(I)I"⟩
abbrev cX11_point : ByteArray := prog_13_method_19_code
def yX11_point : MethodName := ⟨RX11, "point", "()I"⟩
abbrev cX11_drawing : ByteArray := prog_13_method_20_code
def yX11_drawing : MethodName := ⟨RX11, "drawing", "(III)I"⟩
abbrev cX11_feed : ByteArray := prog_13_method_21_code
def yX11_feed : MethodName := ⟨RX11, "feed", "(JI)I"⟩
abbrev cX11_byteAt : ByteArray := prog_13_method_22_code
def yX11_byteAt : MethodName := ⟨RX11, "byteAt", "(I)I"⟩
abbrev cX11_isLetter : ByteArray := prog_13_method_23_code
def yX11_isLetter : MethodName := ⟨RX11, "isLetter", "(I)Z"⟩
abbrev cX11_isFigure : ByteArray := prog_13_method_24_code
def yX11_isFigure : MethodName := ⟨RX11, "isFigure", "(I)Z"⟩
abbrev cX11_step : ByteArray := prog_13_method_25_code
def yX11_step : MethodName := ⟨RX11, "step", "()V"⟩
abbrev cX11_bad : ByteArray := prog_13_method_26_code
def yX11_bad : MethodName := ⟨RX11, "bad", "(I)V"⟩
abbrev cX11_need : ByteArray := prog_13_method_27_code
def yX11_need : MethodName := ⟨RX11, "need", "(Z)V"⟩
abbrev cX11_word : ByteArray := prog_13_method_28_code
def yX11_word : MethodName := ⟨RX11, "word", "()J"⟩
abbrev cX11_numberIn : ByteArray := prog_13_method_29_code
def yX11_numberIn : MethodName := ⟨RX11, "numberIn", "(II)I"⟩
abbrev cX11_readTest : ByteArray := prog_13_method_30_code
def yX11_readTest : MethodName := ⟨RX11, "readTest", "(I)V"⟩
abbrev cX11_readRule : ByteArray := prog_13_method_31_code
def yX11_readRule : MethodName := ⟨RX11, "readRule", "()V"⟩
abbrev cX11_rules : ByteArray := prog_13_method_32_code
def yX11_rules : MethodName := ⟨RX11, "rules", "()I"⟩
abbrev cX11_fault : ByteArray := prog_13_method_33_code
def yX11_fault : MethodName := ⟨RX11, "fault", "()I"⟩
abbrev cX11_isTrue : ByteArray := prog_13_method_34_code
def yX11_isTrue : MethodName := ⟨RX11, "isTrue", "(I)Z"⟩
abbrev cX11_isRule : ByteArray := prog_13_method_35_code
def yX11_isRule : MethodName := ⟨RX11, "isRule", "(I)Z"⟩
abbrev cX11_said : ByteArray := prog_13_method_36_code
def yX11_said : MethodName := ⟨RX11, "said", "(I)I"⟩
abbrev cX11_holds : ByteArray := prog_13_method_37_code
def yX11_holds : MethodName := ⟨RX11, "holds", "(I)I"⟩
abbrev cX11_record : ByteArray := prog_13_method_38_code
def yX11_record : MethodName := ⟨RX11, "record", "(I)I"⟩
abbrev cX11_cameSo : ByteArray := prog_13_method_39_code
def yX11_cameSo : MethodName := ⟨RX11, "cameSo", "(I)I"⟩
abbrev cX11_holdsIn : ByteArray := prog_13_method_40_code
def yX11_holdsIn : MethodName := ⟨RX11, "holdsIn", "(II)I"⟩
abbrev cX11_worthOf : ByteArray := prog_13_method_41_code
def yX11_worthOf : MethodName := ⟨RX11, "worthOf", "(I)I"⟩
abbrev cX11_worth : ByteArray := prog_13_method_42_code
def yX11_worth : MethodName := ⟨RX11, "worth", "(II)I"⟩
abbrev cX11_best : ByteArray := prog_13_method_43_code
def yX11_best : MethodName := ⟨RX11, "best", "()I"⟩
abbrev cX11_kindOf : ByteArray := prog_13_method_44_code
def yX11_kindOf : MethodName := ⟨RX11, "kindOf", "(I)I"⟩
abbrev cX11_kind : ByteArray := prog_13_method_45_code
def yX11_kind : MethodName := ⟨RX11, "kind", "(I)I"⟩
abbrev cX11_as : ByteArray := prog_13_method_46_code
def yX11_as : MethodName := ⟨RX11, "as", "(II)I"⟩
abbrev cX11_began : ByteArray := prog_13_method_47_code
def yX11_began : MethodName := ⟨RX11, "began", "(I)V"⟩
abbrev cX11_oddSize : ByteArray := prog_13_method_48_code
def yX11_oddSize : MethodName := ⟨RX11, "oddSize", "(I)I"⟩
abbrev cX11_marked : ByteArray := prog_13_method_49_code
def yX11_marked : MethodName := ⟨RX11, "marked", "(I)I"⟩
abbrev cX11_sized : ByteArray := prog_13_method_50_code
def yX11_sized : MethodName := ⟨RX11, "sized", "(I)I"⟩
abbrev cX11_ask : ByteArray := prog_13_method_51_code
def yX11_ask : MethodName := ⟨RX11, "ask", "(II)I"⟩
abbrev cX11_trace : ByteArray := prog_13_method_52_code
def yX11_trace : MethodName := ⟨RX11, "trace", "(I)I"⟩
abbrev cX11_count : ByteArray := prog_13_method_53_code
def yX11_count : MethodName := ⟨RX11, "count", "(I)I"⟩
abbrev cX11_status : ByteArray := prog_13_method_54_code
def yX11_status : MethodName := ⟨RX11, "status", "()I"⟩
def RJ6 : String := "java/lang/Integer"
def TJ6 : u_T := fun k => match k with
  | _ => ("", "", "", false)
def tyJ6 : Nat → FieldType := fun k => match k with
  | _ => .int
abbrev wsJ60 : List Cond := u_ws RJ6 TJ6 0
theorem nmJ6 : ∀ a, a < 0 → ∀ b, b < 0 → a ≠ b → (TJ6 a).2.1 ≠ (TJ6 b).2.1 := by decide +kernel
theorem tyJ6_ok : ∀ k, k < 0 → parseFieldDescriptor (TJ6 k).2.2.1 = some (tyJ6 k) := by decide +kernel
abbrev cJ6_bitCount_0f7a4 : ByteArray := prog_14_method_49_code
def yJ6_bitCount_0f7a4 : MethodName := ⟨RJ6, "bitCount", "(I)I"⟩
def RJ13 : String := "java/lang/Long"
def TJ13 : u_T := fun k => match k with
  | _ => ("", "", "", false)
def tyJ13 : Nat → FieldType := fun k => match k with
  | _ => .int
abbrev wsJ130 : List Cond := u_ws RJ13 TJ13 0
theorem nmJ13 : ∀ a, a < 0 → ∀ b, b < 0 → a ≠ b → (TJ13 a).2.1 ≠ (TJ13 b).2.1 := by decide +kernel
theorem tyJ13_ok : ∀ k, k < 0 → parseFieldDescriptor (TJ13 k).2.2.1 = some (tyJ13 k) := by decide +kernel
abbrev cJ13_bitCount_95d88 : ByteArray := prog_15_method_50_code
def yJ13_bitCount_95d88 : MethodName := ⟨RJ13, "bitCount", "(J)I"⟩
def RJ10 : String := "java/lang/System"
def TJ10 : u_T := fun k => match k with
  | _ => ("", "", "", false)
def tyJ10 : Nat → FieldType := fun k => match k with
  | _ => .int
abbrev wsJ100 : List Cond := u_ws RJ10 TJ10 0
theorem nmJ10 : ∀ a, a < 0 → ∀ b, b < 0 → a ≠ b → (TJ10 a).2.1 ≠ (TJ10 b).2.1 := by decide +kernel
theorem tyJ10_ok : ∀ k, k < 0 → parseFieldDescriptor (TJ10 k).2.2.1 = some (tyJ10 k) := by decide +kernel
def RL : String := "SandDotsLaw"
abbrev cL_law : ByteArray := code
def yL_law : MethodName := ⟨RL, "law", "([I)Z"⟩
abbrev vwCl : List vw_C := [(RX0, TX0, 2), (RX1, TX1, 5), (RX4, TX4, 10), (RX5, TX5, 5), (RX6, TX6, 6), (RX7, TX7, 3), (RX8, TX8, 2), (RX9, TX9, 7), (RX10, TX10, 12), (RX11, TX11, 30)]
end
section
/-- the words that stay, of the tables and of the private methods: every method's contract here asks just these -/
def Tg : List Cond := lw_tbl.filter goodWord
theorem tg_in {w : Cond} (h : w ∈ tables_1) (hg : goodWord w = true) : w ∈ Tg := List.mem_filter.mpr ⟨List.mem_append_right _ h, hg⟩
theorem tg_good : GoodIn Tg Tg := fun w h => ⟨h, good_of_word (List.mem_filter.mp h).2⟩
theorem tg_sel {q : MethodName × Nat} (h : q ∈ lw_privs) : Cond.selects q.1.cls q.1 q.1 ∈ Tg := List.mem_filter.mpr ⟨List.mem_append_left _ (List.mem_map.mpr ⟨q, h, rfl⟩), rfl⟩
theorem tg_of {args : Array Value} {s : State} (h : ∀ w ∈ lw_tbl, w.before args s = true) : ∀ w ∈ Tg, w.before args s = true := fun w hw => h w (List.mem_filter.mp hw).1
theorem in_L : Cond.initialized RL ∈ Tg := tg_in (List.mem_append_left _ (List.mem_of_getElem? (i := 0) rfl)) rfl
theorem in_X10 : Cond.initialized RX10 ∈ Tg := tg_in (List.mem_append_left _ (List.mem_of_getElem? (i := 1) rfl)) rfl
theorem in_X4 : Cond.initialized RX4 ∈ Tg := tg_in (List.mem_append_left _ (List.mem_of_getElem? (i := 2) rfl)) rfl
theorem in_X2 : Cond.initialized RX2 ∈ Tg := tg_in (List.mem_append_left _ (List.mem_of_getElem? (i := 3) rfl)) rfl
theorem in_X8 : Cond.initialized RX8 ∈ Tg := tg_in (List.mem_append_left _ (List.mem_of_getElem? (i := 4) rfl)) rfl
theorem in_X5 : Cond.initialized RX5 ∈ Tg := tg_in (List.mem_append_left _ (List.mem_of_getElem? (i := 5) rfl)) rfl
theorem in_X9 : Cond.initialized RX9 ∈ Tg := tg_in (List.mem_append_left _ (List.mem_of_getElem? (i := 6) rfl)) rfl
theorem in_X1 : Cond.initialized RX1 ∈ Tg := tg_in (List.mem_append_left _ (List.mem_of_getElem? (i := 7) rfl)) rfl
theorem in_X0 : Cond.initialized RX0 ∈ Tg := tg_in (List.mem_append_left _ (List.mem_of_getElem? (i := 8) rfl)) rfl
theorem in_X6 : Cond.initialized RX6 ∈ Tg := tg_in (List.mem_append_left _ (List.mem_of_getElem? (i := 9) rfl)) rfl
theorem in_X7 : Cond.initialized RX7 ∈ Tg := tg_in (List.mem_append_left _ (List.mem_of_getElem? (i := 10) rfl)) rfl
theorem in_X11 : Cond.initialized RX11 ∈ Tg := tg_in (List.mem_append_left _ (List.mem_of_getElem? (i := 11) rfl)) rfl
theorem in_J10 : Cond.initialized RJ10 ∈ Tg := tg_in (List.mem_append_left _ (List.mem_of_getElem? (i := 12) rfl)) rfl
theorem in_X3 : Cond.initialized RX3 ∈ Tg := tg_in (List.mem_append_left _ (List.mem_of_getElem? (i := 13) rfl)) rfl
theorem in_J13 : Cond.initialized RJ13 ∈ Tg := tg_in (List.mem_append_left _ (List.mem_of_getElem? (i := 14) rfl)) rfl
theorem in_J6 : Cond.initialized RJ6 ∈ Tg := tg_in (List.mem_append_left _ (List.mem_of_getElem? (i := 15) rfl)) rfl
theorem kl_L_7 : Cond.classLink RL 7 RX10 ∈ Tg := tg_in (List.mem_append_left _ (List.mem_of_getElem? (i := 16) rfl)) rfl
theorem ib_X10 : Cond.instantiable RX10 12 ∈ Tg := tg_in (List.mem_append_left _ (List.mem_of_getElem? (i := 17) rfl)) rfl
theorem ml_L_9 : Cond.methodLink RL 9 yX10_init ∈ Tg := tg_in (List.mem_append_left _ (List.mem_of_getElem? (i := 18) rfl)) rfl
theorem im_X10_init : Cond.instanceMethod yX10_init ∈ Tg := tg_in (List.mem_append_left _ (List.mem_of_getElem? (i := 19) rfl)) rfl
theorem co_X10_init : Cond.code yX10_init cX10_init 2 none ∈ Tg := tg_in (List.mem_append_left _ (List.mem_of_getElem? (i := 20) rfl)) rfl
theorem ml_X10_1 : Cond.methodLink RX10 1 objectInit ∈ Tg := tg_in (List.mem_append_left _ (List.mem_of_getElem? (i := 21) rfl)) rfl
theorem im_objectInit : Cond.instanceMethod objectInit ∈ Tg := tg_in (List.mem_append_left _ (List.mem_of_getElem? (i := 22) rfl)) rfl
theorem co_objectInit : Cond.code objectInit ⟨#[0xb1]⟩ 1 none ∈ Tg := tg_in (List.mem_append_left _ (List.mem_of_getElem? (i := 23) rfl)) rfl
theorem kl_X10_9 : Cond.classLink RX10 9 RX7 ∈ Tg := tg_in (List.mem_append_left _ (List.mem_of_getElem? (i := 24) rfl)) rfl
theorem kl_X10_15 : Cond.classLink RX10 15 RX4 ∈ Tg := tg_in (List.mem_append_left _ (List.mem_of_getElem? (i := 26) rfl)) rfl
theorem ib_X4 : Cond.instantiable RX4 10 ∈ Tg := tg_in (List.mem_append_left _ (List.mem_of_getElem? (i := 27) rfl)) rfl
theorem ml_X10_17 : Cond.methodLink RX10 17 yX4_init ∈ Tg := tg_in (List.mem_append_left _ (List.mem_of_getElem? (i := 28) rfl)) rfl
theorem im_X4_init : Cond.instanceMethod yX4_init ∈ Tg := tg_in (List.mem_append_left _ (List.mem_of_getElem? (i := 29) rfl)) rfl
theorem co_X4_init : Cond.code yX4_init cX4_init 4 none ∈ Tg := tg_in (List.mem_append_left _ (List.mem_of_getElem? (i := 30) rfl)) rfl
theorem ml_X4_3 : Cond.methodLink RX4 3 objectInit ∈ Tg := tg_in (List.mem_append_left _ (List.mem_of_getElem? (i := 31) rfl)) rfl
theorem ml_X4_42 : Cond.methodLink RX4 42 yX4_fillWithCharts ∈ Tg := tg_in (List.mem_append_left _ (List.mem_of_getElem? (i := 32) rfl)) rfl
theorem st_X4_fillWithCharts : Cond.static yX4_fillWithCharts ∈ Tg := tg_in (List.mem_append_left _ (List.mem_of_getElem? (i := 33) rfl)) rfl
theorem co_X4_fillWithCharts : Cond.code yX4_fillWithCharts cX4_fillWithCharts 4 none ∈ Tg := tg_in (List.mem_append_left _ (List.mem_of_getElem? (i := 34) rfl)) rfl
theorem ml_X4_51 : Cond.methodLink RX4 51 yX2_ofCode ∈ Tg := tg_in (List.mem_append_left _ (List.mem_of_getElem? (i := 35) rfl)) rfl
theorem st_X2_ofCode : Cond.static yX2_ofCode ∈ Tg := tg_in (List.mem_append_left _ (List.mem_of_getElem? (i := 36) rfl)) rfl
theorem co_X2_ofCode : Cond.code yX2_ofCode cX2_ofCode 5 (some .long) ∈ Tg := tg_in (List.mem_append_left _ (List.mem_of_getElem? (i := 37) rfl)) rfl
theorem cn_X2_9 : Cond.constant RX2 9 (65535) ∈ Tg := tg_in (List.mem_append_left _ (List.mem_of_getElem? (i := 38) rfl)) rfl
theorem ml_X2_12 : Cond.methodLink RX2 12 yX2_daughterOf ∈ Tg := tg_in (List.mem_append_left _ (List.mem_of_getElem? (i := 39) rfl)) rfl
theorem st_X2_daughterOf : Cond.static yX2_daughterOf ∈ Tg := tg_in (List.mem_append_left _ (List.mem_of_getElem? (i := 40) rfl)) rfl
theorem co_X2_daughterOf : Cond.code yX2_daughterOf cX2_daughterOf 4 (some .int) ∈ Tg := tg_in (List.mem_append_left _ (List.mem_of_getElem? (i := 41) rfl)) rfl
theorem ml_X2_16 : Cond.methodLink RX2 16 yX2_withFigure ∈ Tg := tg_in (List.mem_append_left _ (List.mem_of_getElem? (i := 42) rfl)) rfl
theorem st_X2_withFigure : Cond.static yX2_withFigure ∈ Tg := tg_in (List.mem_append_left _ (List.mem_of_getElem? (i := 43) rfl)) rfl
theorem co_X2_withFigure : Cond.code yX2_withFigure cX2_withFigure 4 (some .long) ∈ Tg := tg_in (List.mem_append_left _ (List.mem_of_getElem? (i := 44) rfl)) rfl
theorem ml_X2_20 : Cond.methodLink RX2 20 yX2_firstAbove ∈ Tg := tg_in (List.mem_append_left _ (List.mem_of_getElem? (i := 45) rfl)) rfl
theorem st_X2_firstAbove : Cond.static yX2_firstAbove ∈ Tg := tg_in (List.mem_append_left _ (List.mem_of_getElem? (i := 46) rfl)) rfl
theorem co_X2_firstAbove : Cond.code yX2_firstAbove cX2_firstAbove 1 (some .int) ∈ Tg := tg_in (List.mem_append_left _ (List.mem_of_getElem? (i := 47) rfl)) rfl
theorem ml_X2_24 : Cond.methodLink RX2 24 yX2_figureAt ∈ Tg := tg_in (List.mem_append_left _ (List.mem_of_getElem? (i := 48) rfl)) rfl
theorem st_X2_figureAt : Cond.static yX2_figureAt ∈ Tg := tg_in (List.mem_append_left _ (List.mem_of_getElem? (i := 49) rfl)) rfl
theorem co_X2_figureAt : Cond.code yX2_figureAt cX2_figureAt 3 (some .int) ∈ Tg := tg_in (List.mem_append_left _ (List.mem_of_getElem? (i := 50) rfl)) rfl
theorem cn_X4_46 : Cond.constantLong RX4 46 (-1) ∈ Tg := tg_in (List.mem_append_left _ (List.mem_of_getElem? (i := 51) rfl)) rfl
theorem fl_X4_11 : Cond.fieldLink RX4 11 RX4 "lower" "[J" ∈ Tg := tg_in (List.mem_append_left _ (List.mem_of_getElem? (i := 52) rfl)) rfl
theorem fl_X4_15 : Cond.fieldLink RX4 15 RX4 "upper" "[J" ∈ Tg := tg_in (List.mem_append_left _ (List.mem_of_getElem? (i := 53) rfl)) rfl
theorem fl_X4_48 : Cond.fieldLink RX4 48 RX4 "upperAlone" "J" ∈ Tg := tg_in (List.mem_append_left _ (List.mem_of_getElem? (i := 54) rfl)) rfl
theorem fl_X4_18 : Cond.fieldLink RX4 18 RX4 "looked" "Z" ∈ Tg := tg_in (List.mem_append_left _ (List.mem_of_getElem? (i := 55) rfl)) rfl
theorem fl_X4_22 : Cond.fieldLink RX4 22 RX4 "drawn" "J" ∈ Tg := tg_in (List.mem_append_left _ (List.mem_of_getElem? (i := 56) rfl)) rfl
theorem fl_X4_26 : Cond.fieldLink RX4 26 RX4 "untorn" "J" ∈ Tg := tg_in (List.mem_append_left _ (List.mem_of_getElem? (i := 57) rfl)) rfl
theorem fl_X4_29 : Cond.fieldLink RX4 29 RX4 "fits" "I" ∈ Tg := tg_in (List.mem_append_left _ (List.mem_of_getElem? (i := 58) rfl)) rfl
theorem fl_X4_33 : Cond.fieldLink RX4 33 RX4 "strokes" "I" ∈ Tg := tg_in (List.mem_append_left _ (List.mem_of_getElem? (i := 59) rfl)) rfl
theorem fl_X4_36 : Cond.fieldLink RX4 36 RX4 "mended" "I" ∈ Tg := tg_in (List.mem_append_left _ (List.mem_of_getElem? (i := 60) rfl)) rfl
theorem fl_X4_39 : Cond.fieldLink RX4 39 RX4 "firstWrong" "I" ∈ Tg := tg_in (List.mem_append_left _ (List.mem_of_getElem? (i := 61) rfl)) rfl
theorem ac_long : Cond.arrayClass .long ∈ Tg := tg_in (List.mem_append_left _ (List.mem_of_getElem? (i := 83) rfl)) rfl
theorem kl_X10_22 : Cond.classLink RX10 22 RX8 ∈ Tg := tg_in (List.mem_append_left _ (List.mem_of_getElem? (i := 84) rfl)) rfl
theorem ib_X8 : Cond.instantiable RX8 2 ∈ Tg := tg_in (List.mem_append_left _ (List.mem_of_getElem? (i := 85) rfl)) rfl
theorem im_X8_init : Cond.instanceMethod yX8_init ∈ Tg := tg_in (List.mem_append_left _ (List.mem_of_getElem? (i := 87) rfl)) rfl
theorem co_X8_init : Cond.code yX8_init cX8_init 1 none ∈ Tg := tg_in (List.mem_append_left _ (List.mem_of_getElem? (i := 88) rfl)) rfl
theorem ml_X8_1 : Cond.methodLink RX8 1 objectInit ∈ Tg := tg_in (List.mem_append_left _ (List.mem_of_getElem? (i := 89) rfl)) rfl
theorem fl_X8_9 : Cond.fieldLink RX8 9 RX8 "bytes" "[I" ∈ Tg := tg_in (List.mem_append_left _ (List.mem_of_getElem? (i := 90) rfl)) rfl
theorem fl_X8_13 : Cond.fieldLink RX8 13 RX8 "used" "I" ∈ Tg := tg_in (List.mem_append_left _ (List.mem_of_getElem? (i := 91) rfl)) rfl
theorem fl_X9_34 : Cond.fieldLink RX9 34 RX8 "used" "I" ∈ Tg := tg_in (List.mem_append_left _ (List.mem_of_getElem? (i := 92) rfl)) rfl
theorem fl_X10_188 : Cond.fieldLink RX10 188 RX8 "used" "I" ∈ Tg := tg_in (List.mem_append_left _ (List.mem_of_getElem? (i := 93) rfl)) rfl
theorem ac_int : Cond.arrayClass .int ∈ Tg := tg_in (List.mem_append_left _ (List.mem_of_getElem? (i := 99) rfl)) rfl
theorem kl_X10_29 : Cond.classLink RX10 29 RX5 ∈ Tg := tg_in (List.mem_append_left _ (List.mem_of_getElem? (i := 100) rfl)) rfl
theorem ib_X5 : Cond.instantiable RX5 5 ∈ Tg := tg_in (List.mem_append_left _ (List.mem_of_getElem? (i := 101) rfl)) rfl
theorem im_X5_init : Cond.instanceMethod yX5_init ∈ Tg := tg_in (List.mem_append_left _ (List.mem_of_getElem? (i := 103) rfl)) rfl
theorem co_X5_init : Cond.code yX5_init cX5_init 1 none ∈ Tg := tg_in (List.mem_append_left _ (List.mem_of_getElem? (i := 104) rfl)) rfl
theorem ml_X5_3 : Cond.methodLink RX5 3 objectInit ∈ Tg := tg_in (List.mem_append_left _ (List.mem_of_getElem? (i := 105) rfl)) rfl
theorem kl_X5_9 : Cond.classLink RX5 9 RX9 ∈ Tg := tg_in (List.mem_append_left _ (List.mem_of_getElem? (i := 106) rfl)) rfl
theorem ib_X9 : Cond.instantiable RX9 7 ∈ Tg := tg_in (List.mem_append_left _ (List.mem_of_getElem? (i := 107) rfl)) rfl
theorem im_X9_init : Cond.instanceMethod yX9_init ∈ Tg := tg_in (List.mem_append_left _ (List.mem_of_getElem? (i := 109) rfl)) rfl
theorem co_X9_init : Cond.code yX9_init cX9_init 1 none ∈ Tg := tg_in (List.mem_append_left _ (List.mem_of_getElem? (i := 110) rfl)) rfl
theorem ml_X9_3 : Cond.methodLink RX9 3 objectInit ∈ Tg := tg_in (List.mem_append_left _ (List.mem_of_getElem? (i := 111) rfl)) rfl
theorem fl_X9_11 : Cond.fieldLink RX9 11 RX9 "starts" "[I" ∈ Tg := tg_in (List.mem_append_left _ (List.mem_of_getElem? (i := 112) rfl)) rfl
theorem fl_X9_15 : Cond.fieldLink RX9 15 RX9 "lengths" "[I" ∈ Tg := tg_in (List.mem_append_left _ (List.mem_of_getElem? (i := 113) rfl)) rfl
theorem fl_X9_18 : Cond.fieldLink RX9 18 RX9 "sorts" "[I" ∈ Tg := tg_in (List.mem_append_left _ (List.mem_of_getElem? (i := 114) rfl)) rfl
theorem fl_X9_21 : Cond.fieldLink RX9 21 RX9 "kinds" "[I" ∈ Tg := tg_in (List.mem_append_left _ (List.mem_of_getElem? (i := 115) rfl)) rfl
theorem fl_X9_24 : Cond.fieldLink RX9 24 RX9 "values" "[I" ∈ Tg := tg_in (List.mem_append_left _ (List.mem_of_getElem? (i := 116) rfl)) rfl
theorem fl_X9_27 : Cond.fieldLink RX9 27 RX9 "size" "I" ∈ Tg := tg_in (List.mem_append_left _ (List.mem_of_getElem? (i := 117) rfl)) rfl
theorem fl_X9_31 : Cond.fieldLink RX9 31 RX9 "end" "I" ∈ Tg := tg_in (List.mem_append_left _ (List.mem_of_getElem? (i := 118) rfl)) rfl
theorem fl_X5_12 : Cond.fieldLink RX5 12 RX5 "tokens" "LSandDots$Tokens;" ∈ Tg := tg_in (List.mem_append_left _ (List.mem_of_getElem? (i := 134) rfl)) rfl
theorem fl_X5_18 : Cond.fieldLink RX5 18 RX5 "next" "I" ∈ Tg := tg_in (List.mem_append_left _ (List.mem_of_getElem? (i := 135) rfl)) rfl
theorem fl_X5_22 : Cond.fieldLink RX5 22 RX5 "number" "I" ∈ Tg := tg_in (List.mem_append_left _ (List.mem_of_getElem? (i := 136) rfl)) rfl
theorem fl_X5_25 : Cond.fieldLink RX5 25 RX5 "faultNumber" "I" ∈ Tg := tg_in (List.mem_append_left _ (List.mem_of_getElem? (i := 137) rfl)) rfl
theorem fl_X10_195 : Cond.fieldLink RX10 195 RX5 "faultNumber" "I" ∈ Tg := tg_in (List.mem_append_left _ (List.mem_of_getElem? (i := 138) rfl)) rfl
theorem fl_X5_28 : Cond.fieldLink RX5 28 RX5 "faultPlace" "I" ∈ Tg := tg_in (List.mem_append_left _ (List.mem_of_getElem? (i := 139) rfl)) rfl
theorem fl_X10_199 : Cond.fieldLink RX10 199 RX5 "faultPlace" "I" ∈ Tg := tg_in (List.mem_append_left _ (List.mem_of_getElem? (i := 140) rfl)) rfl
theorem kl_X10_36 : Cond.classLink RX10 36 RX1 ∈ Tg := tg_in (List.mem_append_left _ (List.mem_of_getElem? (i := 152) rfl)) rfl
theorem ib_X1 : Cond.instantiable RX1 5 ∈ Tg := tg_in (List.mem_append_left _ (List.mem_of_getElem? (i := 153) rfl)) rfl
theorem im_X1_init : Cond.instanceMethod yX1_init ∈ Tg := tg_in (List.mem_append_left _ (List.mem_of_getElem? (i := 155) rfl)) rfl
theorem co_X1_init : Cond.code yX1_init cX1_init 1 none ∈ Tg := tg_in (List.mem_append_left _ (List.mem_of_getElem? (i := 156) rfl)) rfl
theorem ml_X1_3 : Cond.methodLink RX1 3 objectInit ∈ Tg := tg_in (List.mem_append_left _ (List.mem_of_getElem? (i := 157) rfl)) rfl
theorem fl_X1_11 : Cond.fieldLink RX1 11 RX1 "charts" "[J" ∈ Tg := tg_in (List.mem_append_left _ (List.mem_of_getElem? (i := 158) rfl)) rfl
theorem fl_X1_15 : Cond.fieldLink RX1 15 RX1 "ends" "[I" ∈ Tg := tg_in (List.mem_append_left _ (List.mem_of_getElem? (i := 159) rfl)) rfl
theorem fl_X1_19 : Cond.fieldLink RX1 19 RX1 "all" "[I" ∈ Tg := tg_in (List.mem_append_left _ (List.mem_of_getElem? (i := 160) rfl)) rfl
theorem fl_X1_22 : Cond.fieldLink RX1 22 RX1 "held" "[I" ∈ Tg := tg_in (List.mem_append_left _ (List.mem_of_getElem? (i := 161) rfl)) rfl
theorem fl_X1_25 : Cond.fieldLink RX1 25 RX1 "size" "I" ∈ Tg := tg_in (List.mem_append_left _ (List.mem_of_getElem? (i := 162) rfl)) rfl
theorem fl_X10_226 : Cond.fieldLink RX10 226 RX1 "size" "I" ∈ Tg := tg_in (List.mem_append_left _ (List.mem_of_getElem? (i := 163) rfl)) rfl
theorem kl_X10_43 : Cond.classLink RX10 43 RX0 ∈ Tg := tg_in (List.mem_append_left _ (List.mem_of_getElem? (i := 175) rfl)) rfl
theorem ib_X0 : Cond.instantiable RX0 2 ∈ Tg := tg_in (List.mem_append_left _ (List.mem_of_getElem? (i := 176) rfl)) rfl
theorem im_X0_init : Cond.instanceMethod yX0_init ∈ Tg := tg_in (List.mem_append_left _ (List.mem_of_getElem? (i := 178) rfl)) rfl
theorem co_X0_init : Cond.code yX0_init cX0_init 1 none ∈ Tg := tg_in (List.mem_append_left _ (List.mem_of_getElem? (i := 179) rfl)) rfl
theorem ml_X0_3 : Cond.methodLink RX0 3 objectInit ∈ Tg := tg_in (List.mem_append_left _ (List.mem_of_getElem? (i := 180) rfl)) rfl
theorem fl_X0_11 : Cond.fieldLink RX0 11 RX0 "begun" "[I" ∈ Tg := tg_in (List.mem_append_left _ (List.mem_of_getElem? (i := 181) rfl)) rfl
theorem fl_X0_15 : Cond.fieldLink RX0 15 RX0 "traced" "I" ∈ Tg := tg_in (List.mem_append_left _ (List.mem_of_getElem? (i := 182) rfl)) rfl
theorem kl_X10_50 : Cond.classLink RX10 50 RX6 ∈ Tg := tg_in (List.mem_append_left _ (List.mem_of_getElem? (i := 188) rfl)) rfl
theorem ib_X6 : Cond.instantiable RX6 6 ∈ Tg := tg_in (List.mem_append_left _ (List.mem_of_getElem? (i := 189) rfl)) rfl
theorem im_X6_init : Cond.instanceMethod yX6_init ∈ Tg := tg_in (List.mem_append_left _ (List.mem_of_getElem? (i := 191) rfl)) rfl
theorem co_X6_init : Cond.code yX6_init cX6_init 1 none ∈ Tg := tg_in (List.mem_append_left _ (List.mem_of_getElem? (i := 192) rfl)) rfl
theorem ml_X6_3 : Cond.methodLink RX6 3 objectInit ∈ Tg := tg_in (List.mem_append_left _ (List.mem_of_getElem? (i := 193) rfl)) rfl
theorem fl_X6_11 : Cond.fieldLink RX6 11 RX6 "words" "[I" ∈ Tg := tg_in (List.mem_append_left _ (List.mem_of_getElem? (i := 194) rfl)) rfl
theorem fl_X6_15 : Cond.fieldLink RX6 15 RX6 "firsts" "[I" ∈ Tg := tg_in (List.mem_append_left _ (List.mem_of_getElem? (i := 195) rfl)) rfl
theorem fl_X6_18 : Cond.fieldLink RX6 18 RX6 "seconds" "[I" ∈ Tg := tg_in (List.mem_append_left _ (List.mem_of_getElem? (i := 196) rfl)) rfl
theorem fl_X6_21 : Cond.fieldLink RX6 21 RX6 "tests" "[I" ∈ Tg := tg_in (List.mem_append_left _ (List.mem_of_getElem? (i := 197) rfl)) rfl
theorem fl_X6_24 : Cond.fieldLink RX6 24 RX6 "numbers" "[I" ∈ Tg := tg_in (List.mem_append_left _ (List.mem_of_getElem? (i := 198) rfl)) rfl
theorem fl_X6_27 : Cond.fieldLink RX6 27 RX6 "size" "I" ∈ Tg := tg_in (List.mem_append_left _ (List.mem_of_getElem? (i := 199) rfl)) rfl
theorem fl_X5_35 : Cond.fieldLink RX5 35 RX6 "size" "I" ∈ Tg := tg_in (List.mem_append_left _ (List.mem_of_getElem? (i := 200) rfl)) rfl
theorem fl_X10_202 : Cond.fieldLink RX10 202 RX6 "size" "I" ∈ Tg := tg_in (List.mem_append_left _ (List.mem_of_getElem? (i := 201) rfl)) rfl
theorem ml_X10_64 : Cond.methodLink RX10 64 yX2_ofCode ∈ Tg := tg_in (List.mem_append_left _ (List.mem_of_getElem? (i := 215) rfl)) rfl
theorem ib_X7 : Cond.instantiable RX7 3 ∈ Tg := tg_in (List.mem_append_left _ (List.mem_of_getElem? (i := 216) rfl)) rfl
theorem im_X7_init : Cond.instanceMethod yX7_init ∈ Tg := tg_in (List.mem_append_left _ (List.mem_of_getElem? (i := 218) rfl)) rfl
theorem co_X7_init : Cond.code yX7_init cX7_init 1 none ∈ Tg := tg_in (List.mem_append_left _ (List.mem_of_getElem? (i := 219) rfl)) rfl
theorem ml_X7_3 : Cond.methodLink RX7 3 objectInit ∈ Tg := tg_in (List.mem_append_left _ (List.mem_of_getElem? (i := 220) rfl)) rfl
theorem fl_X7_11 : Cond.fieldLink RX7 11 RX7 "items" "[I" ∈ Tg := tg_in (List.mem_append_left _ (List.mem_of_getElem? (i := 221) rfl)) rfl
theorem fl_X10_118 : Cond.fieldLink RX10 118 RX7 "items" "[I" ∈ Tg := tg_in (List.mem_append_left _ (List.mem_of_getElem? (i := 222) rfl)) rfl
theorem fl_X7_15 : Cond.fieldLink RX7 15 RX7 "lane" "I" ∈ Tg := tg_in (List.mem_append_left _ (List.mem_of_getElem? (i := 223) rfl)) rfl
theorem fl_X10_111 : Cond.fieldLink RX10 111 RX7 "lane" "I" ∈ Tg := tg_in (List.mem_append_left _ (List.mem_of_getElem? (i := 224) rfl)) rfl
theorem fl_X7_19 : Cond.fieldLink RX7 19 RX7 "size" "I" ∈ Tg := tg_in (List.mem_append_left _ (List.mem_of_getElem? (i := 225) rfl)) rfl
theorem fl_X10_128 : Cond.fieldLink RX10 128 RX7 "size" "I" ∈ Tg := tg_in (List.mem_append_left _ (List.mem_of_getElem? (i := 226) rfl)) rfl
theorem fl_X10_11 : Cond.fieldLink RX10 11 RX10 "sheets" "[LSandDots$Sheet;" ∈ Tg := tg_in (List.mem_append_left _ (List.mem_of_getElem? (i := 234) rfl)) rfl
theorem fl_X10_18 : Cond.fieldLink RX10 18 RX10 "mender" "LSandDots$Mender;" ∈ Tg := tg_in (List.mem_append_left _ (List.mem_of_getElem? (i := 235) rfl)) rfl
theorem fl_X10_25 : Cond.fieldLink RX10 25 RX10 "tape" "LSandDots$Tape;" ∈ Tg := tg_in (List.mem_append_left _ (List.mem_of_getElem? (i := 236) rfl)) rfl
theorem fl_X10_32 : Cond.fieldLink RX10 32 RX10 "reader" "LSandDots$RuleReader;" ∈ Tg := tg_in (List.mem_append_left _ (List.mem_of_getElem? (i := 237) rfl)) rfl
theorem fl_X10_39 : Cond.fieldLink RX10 39 RX10 "book" "LSandDots$Book;" ∈ Tg := tg_in (List.mem_append_left _ (List.mem_of_getElem? (i := 238) rfl)) rfl
theorem fl_X10_46 : Cond.fieldLink RX10 46 RX10 "bodies" "LSandDots$Bodies;" ∈ Tg := tg_in (List.mem_append_left _ (List.mem_of_getElem? (i := 239) rfl)) rfl
theorem fl_X10_53 : Cond.fieldLink RX10 53 RX10 "ruleSet" "LSandDots$RuleSet;" ∈ Tg := tg_in (List.mem_append_right _ (List.mem_append_left _ (List.mem_of_getElem? (i := 0) rfl))) rfl
theorem fl_X10_57 : Cond.fieldLink RX10 57 RX10 "spareSet" "LSandDots$RuleSet;" ∈ Tg := tg_in (List.mem_append_right _ (List.mem_append_left _ (List.mem_of_getElem? (i := 1) rfl))) rfl
theorem fl_X10_60 : Cond.fieldLink RX10 60 RX10 "code" "I" ∈ Tg := tg_in (List.mem_append_right _ (List.mem_append_left _ (List.mem_of_getElem? (i := 2) rfl))) rfl
theorem fl_X10_70 : Cond.fieldLink RX10 70 RX10 "marks" "J" ∈ Tg := tg_in (List.mem_append_right _ (List.mem_append_left _ (List.mem_of_getElem? (i := 3) rfl))) rfl
theorem fl_X10_74 : Cond.fieldLink RX10 74 RX10 "latestFault" "I" ∈ Tg := tg_in (List.mem_append_right _ (List.mem_append_left _ (List.mem_of_getElem? (i := 4) rfl))) rfl
theorem fl_X10_77 : Cond.fieldLink RX10 77 RX10 "latestFinding" "I" ∈ Tg := tg_in (List.mem_append_right _ (List.mem_append_left _ (List.mem_of_getElem? (i := 5) rfl))) rfl
theorem ml_L_13 : Cond.methodLink RL 13 yX10_sheet ∈ Tg := tg_in (List.mem_append_right _ (List.mem_append_left _ (List.mem_of_getElem? (i := 31) rfl))) rfl
theorem im_X10_sheet : Cond.instanceMethod yX10_sheet ∈ Tg := tg_in (List.mem_append_right _ (List.mem_append_left _ (List.mem_of_getElem? (i := 32) rfl))) rfl
theorem se_X10_sheet : Cond.selects RX10 yX10_sheet yX10_sheet ∈ Tg := tg_in (List.mem_append_right _ (List.mem_append_left _ (List.mem_of_getElem? (i := 33) rfl))) rfl
theorem co_X10_sheet : Cond.code yX10_sheet cX10_sheet 4 (some .int) ∈ Tg := tg_in (List.mem_append_right _ (List.mem_append_left _ (List.mem_of_getElem? (i := 34) rfl))) rfl
theorem ml_X10_81 : Cond.methodLink RX10 81 yX10_isSheet ∈ Tg := tg_in (List.mem_append_right _ (List.mem_append_left _ (List.mem_of_getElem? (i := 35) rfl))) rfl
theorem st_X10_isSheet : Cond.static yX10_isSheet ∈ Tg := tg_in (List.mem_append_right _ (List.mem_append_left _ (List.mem_of_getElem? (i := 36) rfl))) rfl
theorem co_X10_isSheet : Cond.code yX10_isSheet cX10_isSheet 1 (some .boolean) ∈ Tg := tg_in (List.mem_append_right _ (List.mem_append_left _ (List.mem_of_getElem? (i := 37) rfl))) rfl
theorem ml_X10_85 : Cond.methodLink RX10 85 yX7_isLane ∈ Tg := tg_in (List.mem_append_right _ (List.mem_append_left _ (List.mem_of_getElem? (i := 38) rfl))) rfl
theorem st_X7_isLane : Cond.static yX7_isLane ∈ Tg := tg_in (List.mem_append_right _ (List.mem_append_left _ (List.mem_of_getElem? (i := 39) rfl))) rfl
theorem co_X7_isLane : Cond.code yX7_isLane cX7_isLane 1 (some .boolean) ∈ Tg := tg_in (List.mem_append_right _ (List.mem_append_left _ (List.mem_of_getElem? (i := 40) rfl))) rfl
theorem cn_X10_88 : Cond.constant RX10 88 (-1000001) ∈ Tg := tg_in (List.mem_append_right _ (List.mem_append_left _ (List.mem_of_getElem? (i := 41) rfl))) rfl
theorem ml_X10_89 : Cond.methodLink RX10 89 yX10_found ∈ Tg := tg_in (List.mem_append_right _ (List.mem_append_left _ (List.mem_of_getElem? (i := 42) rfl))) rfl
theorem im_X10_found : Cond.instanceMethod yX10_found ∈ Tg := tg_in (List.mem_append_right _ (List.mem_append_left _ (List.mem_of_getElem? (i := 44) rfl))) rfl
theorem co_X10_found : Cond.code yX10_found cX10_found 2 (some .int) ∈ Tg := tg_in (List.mem_append_right _ (List.mem_append_left _ (List.mem_of_getElem? (i := 45) rfl))) rfl
theorem cn_X10_266 : Cond.constant RX10 266 (-1000010) ∈ Tg := tg_in (List.mem_append_right _ (List.mem_append_left _ (List.mem_of_getElem? (i := 46) rfl))) rfl
theorem ml_X10_93 : Cond.methodLink RX10 93 yX7_begin ∈ Tg := tg_in (List.mem_append_right _ (List.mem_append_left _ (List.mem_of_getElem? (i := 47) rfl))) rfl
theorem im_X7_begin : Cond.instanceMethod yX7_begin ∈ Tg := tg_in (List.mem_append_right _ (List.mem_append_left _ (List.mem_of_getElem? (i := 48) rfl))) rfl
theorem se_X7_begin : Cond.selects RX7 yX7_begin yX7_begin ∈ Tg := tg_in (List.mem_append_right _ (List.mem_append_left _ (List.mem_of_getElem? (i := 49) rfl))) rfl
theorem co_X7_begin : Cond.code yX7_begin cX7_begin 4 none ∈ Tg := tg_in (List.mem_append_right _ (List.mem_append_left _ (List.mem_of_getElem? (i := 50) rfl))) rfl
theorem ml_X10_97 : Cond.methodLink RX10 97 yX10_done ∈ Tg := tg_in (List.mem_append_right _ (List.mem_append_left _ (List.mem_of_getElem? (i := 51) rfl))) rfl
theorem im_X10_done : Cond.instanceMethod yX10_done ∈ Tg := tg_in (List.mem_append_right _ (List.mem_append_left _ (List.mem_of_getElem? (i := 53) rfl))) rfl
theorem co_X10_done : Cond.code yX10_done cX10_done 2 (some .int) ∈ Tg := tg_in (List.mem_append_right _ (List.mem_append_left _ (List.mem_of_getElem? (i := 54) rfl))) rfl
theorem ml_L_18 : Cond.methodLink RL 18 yX10_set ∈ Tg := tg_in (List.mem_append_right _ (List.mem_append_left _ (List.mem_of_getElem? (i := 55) rfl))) rfl
theorem im_X10_set : Cond.instanceMethod yX10_set ∈ Tg := tg_in (List.mem_append_right _ (List.mem_append_left _ (List.mem_of_getElem? (i := 56) rfl))) rfl
theorem se_X10_set : Cond.selects RX10 yX10_set yX10_set ∈ Tg := tg_in (List.mem_append_right _ (List.mem_append_left _ (List.mem_of_getElem? (i := 57) rfl))) rfl
theorem co_X10_set : Cond.code yX10_set cX10_set 5 (some .int) ∈ Tg := tg_in (List.mem_append_right _ (List.mem_append_left _ (List.mem_of_getElem? (i := 58) rfl))) rfl
theorem ml_X10_100 : Cond.methodLink RX10 100 yX7_findingOf ∈ Tg := tg_in (List.mem_append_right _ (List.mem_append_left _ (List.mem_of_getElem? (i := 59) rfl))) rfl
theorem im_X7_findingOf : Cond.instanceMethod yX7_findingOf ∈ Tg := tg_in (List.mem_append_right _ (List.mem_append_left _ (List.mem_of_getElem? (i := 60) rfl))) rfl
theorem se_X7_findingOf : Cond.selects RX7 yX7_findingOf yX7_findingOf ∈ Tg := tg_in (List.mem_append_right _ (List.mem_append_left _ (List.mem_of_getElem? (i := 61) rfl))) rfl
theorem co_X7_findingOf : Cond.code yX7_findingOf cX7_findingOf 3 (some .int) ∈ Tg := tg_in (List.mem_append_right _ (List.mem_append_left _ (List.mem_of_getElem? (i := 62) rfl))) rfl
theorem ml_X7_22 : Cond.methodLink RX7 22 yX7_isMissing ∈ Tg := tg_in (List.mem_append_right _ (List.mem_append_left _ (List.mem_of_getElem? (i := 63) rfl))) rfl
theorem im_X7_isMissing : Cond.instanceMethod yX7_isMissing ∈ Tg := tg_in (List.mem_append_right _ (List.mem_append_left _ (List.mem_of_getElem? (i := 64) rfl))) rfl
theorem se_X7_isMissing : Cond.selects RX7 yX7_isMissing yX7_isMissing ∈ Tg := tg_in (List.mem_append_right _ (List.mem_append_left _ (List.mem_of_getElem? (i := 65) rfl))) rfl
theorem co_X7_isMissing : Cond.code yX7_isMissing cX7_isMissing 1 (some .boolean) ∈ Tg := tg_in (List.mem_append_right _ (List.mem_append_left _ (List.mem_of_getElem? (i := 66) rfl))) rfl
theorem ml_X7_26 : Cond.methodLink RX7 26 yX7_hasItems ∈ Tg := tg_in (List.mem_append_right _ (List.mem_append_left _ (List.mem_of_getElem? (i := 67) rfl))) rfl
theorem im_X7_hasItems : Cond.instanceMethod yX7_hasItems ∈ Tg := tg_in (List.mem_append_right _ (List.mem_append_left _ (List.mem_of_getElem? (i := 68) rfl))) rfl
theorem se_X7_hasItems : Cond.selects RX7 yX7_hasItems yX7_hasItems ∈ Tg := tg_in (List.mem_append_right _ (List.mem_append_left _ (List.mem_of_getElem? (i := 69) rfl))) rfl
theorem co_X7_hasItems : Cond.code yX7_hasItems cX7_hasItems 3 (some .boolean) ∈ Tg := tg_in (List.mem_append_right _ (List.mem_append_left _ (List.mem_of_getElem? (i := 70) rfl))) rfl
theorem ml_X10_104 : Cond.methodLink RX10 104 yX7_put ∈ Tg := tg_in (List.mem_append_right _ (List.mem_append_left _ (List.mem_of_getElem? (i := 71) rfl))) rfl
theorem im_X7_put : Cond.instanceMethod yX7_put ∈ Tg := tg_in (List.mem_append_right _ (List.mem_append_left _ (List.mem_of_getElem? (i := 72) rfl))) rfl
theorem se_X7_put : Cond.selects RX7 yX7_put yX7_put ∈ Tg := tg_in (List.mem_append_right _ (List.mem_append_left _ (List.mem_of_getElem? (i := 73) rfl))) rfl
theorem co_X7_put : Cond.code yX7_put cX7_put 3 (some .int) ∈ Tg := tg_in (List.mem_append_right _ (List.mem_append_left _ (List.mem_of_getElem? (i := 74) rfl))) rfl
theorem cn_X7_30 : Cond.constant RX7 30 (-1000001) ∈ Tg := tg_in (List.mem_append_right _ (List.mem_append_left _ (List.mem_of_getElem? (i := 75) rfl))) rfl
theorem ml_X7_31 : Cond.methodLink RX7 31 yX7_narrowed ∈ Tg := tg_in (List.mem_append_right _ (List.mem_append_left _ (List.mem_of_getElem? (i := 76) rfl))) rfl
theorem im_X7_narrowed : Cond.instanceMethod yX7_narrowed ∈ Tg := tg_in (List.mem_append_right _ (List.mem_append_left _ (List.mem_of_getElem? (i := 78) rfl))) rfl
theorem co_X7_narrowed : Cond.code yX7_narrowed cX7_narrowed 2 (some .int) ∈ Tg := tg_in (List.mem_append_right _ (List.mem_append_left _ (List.mem_of_getElem? (i := 79) rfl))) rfl
theorem ml_L_22 : Cond.methodLink RL 22 yX10_copy ∈ Tg := tg_in (List.mem_append_right _ (List.mem_append_left _ (List.mem_of_getElem? (i := 80) rfl))) rfl
theorem im_X10_copy : Cond.instanceMethod yX10_copy ∈ Tg := tg_in (List.mem_append_right _ (List.mem_append_left _ (List.mem_of_getElem? (i := 81) rfl))) rfl
theorem se_X10_copy : Cond.selects RX10 yX10_copy yX10_copy ∈ Tg := tg_in (List.mem_append_right _ (List.mem_append_left _ (List.mem_of_getElem? (i := 82) rfl))) rfl
theorem co_X10_copy : Cond.code yX10_copy cX10_copy 8 (some .int) ∈ Tg := tg_in (List.mem_append_right _ (List.mem_append_left _ (List.mem_of_getElem? (i := 83) rfl))) rfl
theorem ml_X10_107 : Cond.methodLink RX10 107 yX7_isMissing ∈ Tg := tg_in (List.mem_append_right _ (List.mem_append_left _ (List.mem_of_getElem? (i := 84) rfl))) rfl
theorem ml_X10_114 : Cond.methodLink RX10 114 yX7_hasItems ∈ Tg := tg_in (List.mem_append_right _ (List.mem_append_left _ (List.mem_of_getElem? (i := 85) rfl))) rfl
theorem ml_X10_122 : Cond.methodLink RX10 122 arraycopyName ∈ Tg := tg_in (List.mem_append_right _ (List.mem_append_left _ (List.mem_of_getElem? (i := 86) rfl))) rfl
theorem st_arraycopyName : Cond.static arraycopyName ∈ Tg := tg_in (List.mem_append_right _ (List.mem_append_left _ (List.mem_of_getElem? (i := 87) rfl))) rfl
theorem na_arraycopy : Cond.native arraycopyName ∈ Tg := tg_in (List.mem_append_right _ (List.mem_append_left _ (List.mem_of_getElem? (i := 88) rfl))) rfl
theorem ml_L_27 : Cond.methodLink RL 27 yX10_drop ∈ Tg := tg_in (List.mem_append_right _ (List.mem_append_left _ (List.mem_of_getElem? (i := 89) rfl))) rfl
theorem im_X10_drop : Cond.instanceMethod yX10_drop ∈ Tg := tg_in (List.mem_append_right _ (List.mem_append_left _ (List.mem_of_getElem? (i := 90) rfl))) rfl
theorem se_X10_drop : Cond.selects RX10 yX10_drop yX10_drop ∈ Tg := tg_in (List.mem_append_right _ (List.mem_append_left _ (List.mem_of_getElem? (i := 91) rfl))) rfl
theorem co_X10_drop : Cond.code yX10_drop cX10_drop 3 (some .int) ∈ Tg := tg_in (List.mem_append_right _ (List.mem_append_left _ (List.mem_of_getElem? (i := 92) rfl))) rfl
theorem ml_X10_131 : Cond.methodLink RX10 131 yX7_forget ∈ Tg := tg_in (List.mem_append_right _ (List.mem_append_left _ (List.mem_of_getElem? (i := 93) rfl))) rfl
theorem im_X7_forget : Cond.instanceMethod yX7_forget ∈ Tg := tg_in (List.mem_append_right _ (List.mem_append_left _ (List.mem_of_getElem? (i := 94) rfl))) rfl
theorem se_X7_forget : Cond.selects RX7 yX7_forget yX7_forget ∈ Tg := tg_in (List.mem_append_right _ (List.mem_append_left _ (List.mem_of_getElem? (i := 95) rfl))) rfl
theorem co_X7_forget : Cond.code yX7_forget cX7_forget 1 none ∈ Tg := tg_in (List.mem_append_right _ (List.mem_append_left _ (List.mem_of_getElem? (i := 96) rfl))) rfl
theorem ml_L_32 : Cond.methodLink RL 32 yX10_cast ∈ Tg := tg_in (List.mem_append_right _ (List.mem_append_left _ (List.mem_of_getElem? (i := 97) rfl))) rfl
theorem im_X10_cast : Cond.instanceMethod yX10_cast ∈ Tg := tg_in (List.mem_append_right _ (List.mem_append_left _ (List.mem_of_getElem? (i := 98) rfl))) rfl
theorem se_X10_cast : Cond.selects RX10 yX10_cast yX10_cast ∈ Tg := tg_in (List.mem_append_right _ (List.mem_append_left _ (List.mem_of_getElem? (i := 99) rfl))) rfl
theorem co_X10_cast : Cond.code yX10_cast cX10_cast 4 (some .int) ∈ Tg := tg_in (List.mem_append_right _ (List.mem_append_left _ (List.mem_of_getElem? (i := 100) rfl))) rfl
theorem cn_X10_134 : Cond.constant RX10 134 (2147483647) ∈ Tg := tg_in (List.mem_append_right _ (List.mem_append_left _ (List.mem_of_getElem? (i := 101) rfl))) rfl
theorem ml_X10_135 : Cond.methodLink RX10 135 yX7_areWithin ∈ Tg := tg_in (List.mem_append_right _ (List.mem_append_left _ (List.mem_of_getElem? (i := 102) rfl))) rfl
theorem im_X7_areWithin : Cond.instanceMethod yX7_areWithin ∈ Tg := tg_in (List.mem_append_right _ (List.mem_append_left _ (List.mem_of_getElem? (i := 103) rfl))) rfl
theorem se_X7_areWithin : Cond.selects RX7 yX7_areWithin yX7_areWithin ∈ Tg := tg_in (List.mem_append_right _ (List.mem_append_left _ (List.mem_of_getElem? (i := 104) rfl))) rfl
theorem co_X7_areWithin : Cond.code yX7_areWithin cX7_areWithin 6 (some .boolean) ∈ Tg := tg_in (List.mem_append_right _ (List.mem_append_left _ (List.mem_of_getElem? (i := 105) rfl))) rfl
theorem ml_X10_139 : Cond.methodLink RX10 139 yX7_oddOnes ∈ Tg := tg_in (List.mem_append_right _ (List.mem_append_left _ (List.mem_of_getElem? (i := 106) rfl))) rfl
theorem im_X7_oddOnes : Cond.instanceMethod yX7_oddOnes ∈ Tg := tg_in (List.mem_append_right _ (List.mem_append_left _ (List.mem_of_getElem? (i := 107) rfl))) rfl
theorem se_X7_oddOnes : Cond.selects RX7 yX7_oddOnes yX7_oddOnes ∈ Tg := tg_in (List.mem_append_right _ (List.mem_append_left _ (List.mem_of_getElem? (i := 108) rfl))) rfl
theorem co_X7_oddOnes : Cond.code yX7_oddOnes cX7_oddOnes 4 (some .int) ∈ Tg := tg_in (List.mem_append_right _ (List.mem_append_left _ (List.mem_of_getElem? (i := 109) rfl))) rfl
theorem ml_X10_142 : Cond.methodLink RX10 142 yX10_tellChart ∈ Tg := tg_in (List.mem_append_right _ (List.mem_append_left _ (List.mem_of_getElem? (i := 110) rfl))) rfl
theorem im_X10_tellChart : Cond.instanceMethod yX10_tellChart ∈ Tg := tg_in (List.mem_append_right _ (List.mem_append_left _ (List.mem_of_getElem? (i := 112) rfl))) rfl
theorem co_X10_tellChart : Cond.code yX10_tellChart cX10_tellChart 2 none ∈ Tg := tg_in (List.mem_append_right _ (List.mem_append_left _ (List.mem_of_getElem? (i := 113) rfl))) rfl
theorem ml_L_37 : Cond.methodLink RL 37 yX10_chart ∈ Tg := tg_in (List.mem_append_right _ (List.mem_append_left _ (List.mem_of_getElem? (i := 114) rfl))) rfl
theorem im_X10_chart : Cond.instanceMethod yX10_chart ∈ Tg := tg_in (List.mem_append_right _ (List.mem_append_left _ (List.mem_of_getElem? (i := 115) rfl))) rfl
theorem se_X10_chart : Cond.selects RX10 yX10_chart yX10_chart ∈ Tg := tg_in (List.mem_append_right _ (List.mem_append_left _ (List.mem_of_getElem? (i := 116) rfl))) rfl
theorem co_X10_chart : Cond.code yX10_chart cX10_chart 3 (some .int) ∈ Tg := tg_in (List.mem_append_right _ (List.mem_append_left _ (List.mem_of_getElem? (i := 117) rfl))) rfl
theorem cn_X10_146 : Cond.constant RX10 146 (65536) ∈ Tg := tg_in (List.mem_append_right _ (List.mem_append_left _ (List.mem_of_getElem? (i := 118) rfl))) rfl
theorem ml_L_41 : Cond.methodLink RL 41 yX10_at ∈ Tg := tg_in (List.mem_append_right _ (List.mem_append_left _ (List.mem_of_getElem? (i := 119) rfl))) rfl
theorem im_X10_at : Cond.instanceMethod yX10_at ∈ Tg := tg_in (List.mem_append_right _ (List.mem_append_left _ (List.mem_of_getElem? (i := 120) rfl))) rfl
theorem se_X10_at : Cond.selects RX10 yX10_at yX10_at ∈ Tg := tg_in (List.mem_append_right _ (List.mem_append_left _ (List.mem_of_getElem? (i := 121) rfl))) rfl
theorem co_X10_at : Cond.code yX10_at cX10_at 2 (some .int) ∈ Tg := tg_in (List.mem_append_right _ (List.mem_append_left _ (List.mem_of_getElem? (i := 122) rfl))) rfl
theorem ml_X10_147 : Cond.methodLink RX10 147 yX10_isPlace ∈ Tg := tg_in (List.mem_append_right _ (List.mem_append_left _ (List.mem_of_getElem? (i := 123) rfl))) rfl
theorem st_X10_isPlace : Cond.static yX10_isPlace ∈ Tg := tg_in (List.mem_append_right _ (List.mem_append_left _ (List.mem_of_getElem? (i := 124) rfl))) rfl
theorem co_X10_isPlace : Cond.code yX10_isPlace cX10_isPlace 1 (some .boolean) ∈ Tg := tg_in (List.mem_append_right _ (List.mem_append_left _ (List.mem_of_getElem? (i := 125) rfl))) rfl
theorem ml_X10_150 : Cond.methodLink RX10 150 yX2_figureAt ∈ Tg := tg_in (List.mem_append_right _ (List.mem_append_left _ (List.mem_of_getElem? (i := 126) rfl))) rfl
theorem ml_L_45 : Cond.methodLink RL 45 yX10_add ∈ Tg := tg_in (List.mem_append_right _ (List.mem_append_left _ (List.mem_of_getElem? (i := 127) rfl))) rfl
theorem im_X10_add : Cond.instanceMethod yX10_add ∈ Tg := tg_in (List.mem_append_right _ (List.mem_append_left _ (List.mem_of_getElem? (i := 128) rfl))) rfl
theorem se_X10_add : Cond.selects RX10 yX10_add yX10_add ∈ Tg := tg_in (List.mem_append_right _ (List.mem_append_left _ (List.mem_of_getElem? (i := 129) rfl))) rfl
theorem co_X10_add : Cond.code yX10_add cX10_add 3 (some .int) ∈ Tg := tg_in (List.mem_append_right _ (List.mem_append_left _ (List.mem_of_getElem? (i := 130) rfl))) rfl
theorem ml_X10_154 : Cond.methodLink RX10 154 yX3_isFigure ∈ Tg := tg_in (List.mem_append_right _ (List.mem_append_left _ (List.mem_of_getElem? (i := 131) rfl))) rfl
theorem st_X3_isFigure : Cond.static yX3_isFigure ∈ Tg := tg_in (List.mem_append_right _ (List.mem_append_left _ (List.mem_of_getElem? (i := 132) rfl))) rfl
theorem co_X3_isFigure : Cond.code yX3_isFigure cX3_isFigure 1 (some .boolean) ∈ Tg := tg_in (List.mem_append_right _ (List.mem_append_left _ (List.mem_of_getElem? (i := 133) rfl))) rfl
theorem ml_L_49 : Cond.methodLink RL 49 yX10_seen ∈ Tg := tg_in (List.mem_append_right _ (List.mem_append_left _ (List.mem_of_getElem? (i := 134) rfl))) rfl
theorem im_X10_seen : Cond.instanceMethod yX10_seen ∈ Tg := tg_in (List.mem_append_right _ (List.mem_append_left _ (List.mem_of_getElem? (i := 135) rfl))) rfl
theorem se_X10_seen : Cond.selects RX10 yX10_seen yX10_seen ∈ Tg := tg_in (List.mem_append_right _ (List.mem_append_left _ (List.mem_of_getElem? (i := 136) rfl))) rfl
theorem co_X10_seen : Cond.code yX10_seen cX10_seen 2 (some .int) ∈ Tg := tg_in (List.mem_append_right _ (List.mem_append_left _ (List.mem_of_getElem? (i := 137) rfl))) rfl
theorem ml_X10_159 : Cond.methodLink RX10 159 yX2_timesSeen ∈ Tg := tg_in (List.mem_append_right _ (List.mem_append_left _ (List.mem_of_getElem? (i := 138) rfl))) rfl
theorem st_X2_timesSeen : Cond.static yX2_timesSeen ∈ Tg := tg_in (List.mem_append_right _ (List.mem_append_left _ (List.mem_of_getElem? (i := 139) rfl))) rfl
theorem co_X2_timesSeen : Cond.code yX2_timesSeen cX2_timesSeen 7 (some .int) ∈ Tg := tg_in (List.mem_append_right _ (List.mem_append_left _ (List.mem_of_getElem? (i := 140) rfl))) rfl
theorem ml_L_53 : Cond.methodLink RL 53 yX10_point ∈ Tg := tg_in (List.mem_append_right _ (List.mem_append_left _ (List.mem_of_getElem? (i := 141) rfl))) rfl
theorem im_X10_point : Cond.instanceMethod yX10_point ∈ Tg := tg_in (List.mem_append_right _ (List.mem_append_left _ (List.mem_of_getElem? (i := 142) rfl))) rfl
theorem se_X10_point : Cond.selects RX10 yX10_point yX10_point ∈ Tg := tg_in (List.mem_append_right _ (List.mem_append_left _ (List.mem_of_getElem? (i := 143) rfl))) rfl
theorem co_X10_point : Cond.code yX10_point cX10_point 1 (some .int) ∈ Tg := tg_in (List.mem_append_right _ (List.mem_append_left _ (List.mem_of_getElem? (i := 144) rfl))) rfl
theorem ml_X10_163 : Cond.methodLink RX10 163 yX2_endsOfPoint ∈ Tg := tg_in (List.mem_append_right _ (List.mem_append_left _ (List.mem_of_getElem? (i := 145) rfl))) rfl
theorem st_X2_endsOfPoint : Cond.static yX2_endsOfPoint ∈ Tg := tg_in (List.mem_append_right _ (List.mem_append_left _ (List.mem_of_getElem? (i := 146) rfl))) rfl
theorem co_X2_endsOfPoint : Cond.code yX2_endsOfPoint cX2_endsOfPoint 6 (some .int) ∈ Tg := tg_in (List.mem_append_right _ (List.mem_append_left _ (List.mem_of_getElem? (i := 147) rfl))) rfl
theorem ml_X2_30 : Cond.methodLink RX2 30 yX2_wayUp ∈ Tg := tg_in (List.mem_append_right _ (List.mem_append_left _ (List.mem_of_getElem? (i := 148) rfl))) rfl
theorem st_X2_wayUp : Cond.static yX2_wayUp ∈ Tg := tg_in (List.mem_append_right _ (List.mem_append_left _ (List.mem_of_getElem? (i := 149) rfl))) rfl
theorem co_X2_wayUp : Cond.code yX2_wayUp cX2_wayUp 5 (some .int) ∈ Tg := tg_in (List.mem_append_right _ (List.mem_append_left _ (List.mem_of_getElem? (i := 150) rfl))) rfl
theorem ml_L_58 : Cond.methodLink RL 58 yX10_drawing ∈ Tg := tg_in (List.mem_append_right _ (List.mem_append_left _ (List.mem_of_getElem? (i := 151) rfl))) rfl
theorem im_X10_drawing : Cond.instanceMethod yX10_drawing ∈ Tg := tg_in (List.mem_append_right _ (List.mem_append_left _ (List.mem_of_getElem? (i := 152) rfl))) rfl
theorem se_X10_drawing : Cond.selects RX10 yX10_drawing yX10_drawing ∈ Tg := tg_in (List.mem_append_right _ (List.mem_append_left _ (List.mem_of_getElem? (i := 153) rfl))) rfl
theorem co_X10_drawing : Cond.code yX10_drawing cX10_drawing 6 (some .int) ∈ Tg := tg_in (List.mem_append_right _ (List.mem_append_left _ (List.mem_of_getElem? (i := 154) rfl))) rfl
theorem ml_X10_167 : Cond.methodLink RX10 167 yX7_drawnRows ∈ Tg := tg_in (List.mem_append_right _ (List.mem_append_left _ (List.mem_of_getElem? (i := 155) rfl))) rfl
theorem im_X7_drawnRows : Cond.instanceMethod yX7_drawnRows ∈ Tg := tg_in (List.mem_append_right _ (List.mem_append_left _ (List.mem_of_getElem? (i := 156) rfl))) rfl
theorem se_X7_drawnRows : Cond.selects RX7 yX7_drawnRows yX7_drawnRows ∈ Tg := tg_in (List.mem_append_right _ (List.mem_append_left _ (List.mem_of_getElem? (i := 157) rfl))) rfl
theorem co_X7_drawnRows : Cond.code yX7_drawnRows cX7_drawnRows 5 (some .long) ∈ Tg := tg_in (List.mem_append_right _ (List.mem_append_left _ (List.mem_of_getElem? (i := 158) rfl))) rfl
theorem ml_X7_35 : Cond.methodLink RX7 35 yX2_withFigure ∈ Tg := tg_in (List.mem_append_right _ (List.mem_append_left _ (List.mem_of_getElem? (i := 159) rfl))) rfl
theorem ml_X10_170 : Cond.methodLink RX10 170 yX7_untornRows ∈ Tg := tg_in (List.mem_append_right _ (List.mem_append_left _ (List.mem_of_getElem? (i := 160) rfl))) rfl
theorem im_X7_untornRows : Cond.instanceMethod yX7_untornRows ∈ Tg := tg_in (List.mem_append_right _ (List.mem_append_left _ (List.mem_of_getElem? (i := 161) rfl))) rfl
theorem se_X7_untornRows : Cond.selects RX7 yX7_untornRows yX7_untornRows ∈ Tg := tg_in (List.mem_append_right _ (List.mem_append_left _ (List.mem_of_getElem? (i := 162) rfl))) rfl
theorem co_X7_untornRows : Cond.code yX7_untornRows cX7_untornRows 5 (some .long) ∈ Tg := tg_in (List.mem_append_right _ (List.mem_append_left _ (List.mem_of_getElem? (i := 163) rfl))) rfl
theorem ml_X10_173 : Cond.methodLink RX10 173 yX4_lookAt ∈ Tg := tg_in (List.mem_append_right _ (List.mem_append_left _ (List.mem_of_getElem? (i := 164) rfl))) rfl
theorem im_X4_lookAt : Cond.instanceMethod yX4_lookAt ∈ Tg := tg_in (List.mem_append_right _ (List.mem_append_left _ (List.mem_of_getElem? (i := 165) rfl))) rfl
theorem se_X4_lookAt : Cond.selects RX4 yX4_lookAt yX4_lookAt ∈ Tg := tg_in (List.mem_append_right _ (List.mem_append_left _ (List.mem_of_getElem? (i := 166) rfl))) rfl
theorem co_X4_lookAt : Cond.code yX4_lookAt cX4_lookAt 8 none ∈ Tg := tg_in (List.mem_append_right _ (List.mem_append_left _ (List.mem_of_getElem? (i := 167) rfl))) rfl
theorem ml_X4_57 : Cond.methodLink RX4 57 yX4_mayTellMore ∈ Tg := tg_in (List.mem_append_right _ (List.mem_append_left _ (List.mem_of_getElem? (i := 168) rfl))) rfl
theorem im_X4_mayTellMore : Cond.instanceMethod yX4_mayTellMore ∈ Tg := tg_in (List.mem_append_right _ (List.mem_append_left _ (List.mem_of_getElem? (i := 170) rfl))) rfl
theorem co_X4_mayTellMore : Cond.code yX4_mayTellMore cX4_mayTellMore 3 (some .boolean) ∈ Tg := tg_in (List.mem_append_right _ (List.mem_append_left _ (List.mem_of_getElem? (i := 171) rfl))) rfl
theorem ml_X4_65 : Cond.methodLink RX4 65 yJ13_bitCount_95d88 ∈ Tg := tg_in (List.mem_append_right _ (List.mem_append_left _ (List.mem_of_getElem? (i := 172) rfl))) rfl
theorem st_J13_bitCount_95d88 : Cond.static yJ13_bitCount_95d88 ∈ Tg := tg_in (List.mem_append_right _ (List.mem_append_left _ (List.mem_of_getElem? (i := 173) rfl))) rfl
theorem co_J13_bitCount_95d88 : Cond.code yJ13_bitCount_95d88 cJ13_bitCount_95d88 2 (some .int) ∈ Tg := tg_in (List.mem_append_right _ (List.mem_append_left _ (List.mem_of_getElem? (i := 174) rfl))) rfl
theorem cn_J13_314 : Cond.constantLong RJ13 314 (6148914691236517205) ∈ Tg := tg_in (List.mem_append_right _ (List.mem_append_left _ (List.mem_of_getElem? (i := 175) rfl))) rfl
theorem cn_J13_316 : Cond.constantLong RJ13 316 (3689348814741910323) ∈ Tg := tg_in (List.mem_append_right _ (List.mem_append_left _ (List.mem_of_getElem? (i := 176) rfl))) rfl
theorem cn_J13_318 : Cond.constantLong RJ13 318 (1085102592571150095) ∈ Tg := tg_in (List.mem_append_right _ (List.mem_append_left _ (List.mem_of_getElem? (i := 177) rfl))) rfl
theorem ml_X4_71 : Cond.methodLink RX4 71 yX4_agreesUpTo ∈ Tg := tg_in (List.mem_append_right _ (List.mem_append_left _ (List.mem_of_getElem? (i := 178) rfl))) rfl
theorem st_X4_agreesUpTo : Cond.static yX4_agreesUpTo ∈ Tg := tg_in (List.mem_append_right _ (List.mem_append_left _ (List.mem_of_getElem? (i := 179) rfl))) rfl
theorem co_X4_agreesUpTo : Cond.code yX4_agreesUpTo cX4_agreesUpTo 3 (some .boolean) ∈ Tg := tg_in (List.mem_append_right _ (List.mem_append_left _ (List.mem_of_getElem? (i := 180) rfl))) rfl
theorem ml_X4_61 : Cond.methodLink RX4 61 yX4_lookThrough ∈ Tg := tg_in (List.mem_append_right _ (List.mem_append_left _ (List.mem_of_getElem? (i := 181) rfl))) rfl
theorem im_X4_lookThrough : Cond.instanceMethod yX4_lookThrough ∈ Tg := tg_in (List.mem_append_right _ (List.mem_append_left _ (List.mem_of_getElem? (i := 183) rfl))) rfl
theorem co_X4_lookThrough : Cond.code yX4_lookThrough cX4_lookThrough 8 none ∈ Tg := tg_in (List.mem_append_right _ (List.mem_append_left _ (List.mem_of_getElem? (i := 184) rfl))) rfl
theorem ml_X10_177 : Cond.methodLink RX10 177 yX4_answerTo ∈ Tg := tg_in (List.mem_append_right _ (List.mem_append_left _ (List.mem_of_getElem? (i := 185) rfl))) rfl
theorem im_X4_answerTo : Cond.instanceMethod yX4_answerTo ∈ Tg := tg_in (List.mem_append_right _ (List.mem_append_left _ (List.mem_of_getElem? (i := 186) rfl))) rfl
theorem se_X4_answerTo : Cond.selects RX4 yX4_answerTo yX4_answerTo ∈ Tg := tg_in (List.mem_append_right _ (List.mem_append_left _ (List.mem_of_getElem? (i := 187) rfl))) rfl
theorem co_X4_answerTo : Cond.code yX4_answerTo cX4_answerTo 2 (some .int) ∈ Tg := tg_in (List.mem_append_right _ (List.mem_append_left _ (List.mem_of_getElem? (i := 188) rfl))) rfl
theorem cn_X4_75 : Cond.constant RX4 75 (-1000000) ∈ Tg := tg_in (List.mem_append_right _ (List.mem_append_left _ (List.mem_of_getElem? (i := 189) rfl))) rfl
theorem cn_X4_76 : Cond.constant RX4 76 (-1000001) ∈ Tg := tg_in (List.mem_append_right _ (List.mem_append_left _ (List.mem_of_getElem? (i := 190) rfl))) rfl
theorem ml_L_64 : Cond.methodLink RL 64 yX10_feed ∈ Tg := tg_in (List.mem_append_right _ (List.mem_append_left _ (List.mem_of_getElem? (i := 191) rfl))) rfl
theorem im_X10_feed : Cond.instanceMethod yX10_feed ∈ Tg := tg_in (List.mem_append_right _ (List.mem_append_left _ (List.mem_of_getElem? (i := 192) rfl))) rfl
theorem se_X10_feed : Cond.selects RX10 yX10_feed yX10_feed ∈ Tg := tg_in (List.mem_append_right _ (List.mem_append_left _ (List.mem_of_getElem? (i := 193) rfl))) rfl
theorem co_X10_feed : Cond.code yX10_feed cX10_feed 4 (some .int) ∈ Tg := tg_in (List.mem_append_right _ (List.mem_append_left _ (List.mem_of_getElem? (i := 194) rfl))) rfl
theorem ml_X10_180 : Cond.methodLink RX10 180 yX8_hasRoom ∈ Tg := tg_in (List.mem_append_right _ (List.mem_append_left _ (List.mem_of_getElem? (i := 195) rfl))) rfl
theorem im_X8_hasRoom : Cond.instanceMethod yX8_hasRoom ∈ Tg := tg_in (List.mem_append_right _ (List.mem_append_left _ (List.mem_of_getElem? (i := 196) rfl))) rfl
theorem se_X8_hasRoom : Cond.selects RX8 yX8_hasRoom yX8_hasRoom ∈ Tg := tg_in (List.mem_append_right _ (List.mem_append_left _ (List.mem_of_getElem? (i := 197) rfl))) rfl
theorem co_X8_hasRoom : Cond.code yX8_hasRoom cX8_hasRoom 2 (some .boolean) ∈ Tg := tg_in (List.mem_append_right _ (List.mem_append_left _ (List.mem_of_getElem? (i := 198) rfl))) rfl
theorem cn_X10_183 : Cond.constant RX10 183 (-1000003) ∈ Tg := tg_in (List.mem_append_right _ (List.mem_append_left _ (List.mem_of_getElem? (i := 199) rfl))) rfl
theorem ml_X10_184 : Cond.methodLink RX10 184 yX8_append ∈ Tg := tg_in (List.mem_append_right _ (List.mem_append_left _ (List.mem_of_getElem? (i := 200) rfl))) rfl
theorem im_X8_append : Cond.instanceMethod yX8_append ∈ Tg := tg_in (List.mem_append_right _ (List.mem_append_left _ (List.mem_of_getElem? (i := 201) rfl))) rfl
theorem se_X8_append : Cond.selects RX8 yX8_append yX8_append ∈ Tg := tg_in (List.mem_append_right _ (List.mem_append_left _ (List.mem_of_getElem? (i := 202) rfl))) rfl
theorem co_X8_append : Cond.code yX8_append cX8_append 5 none ∈ Tg := tg_in (List.mem_append_right _ (List.mem_append_left _ (List.mem_of_getElem? (i := 203) rfl))) rfl
theorem ml_L_69 : Cond.methodLink RL 69 yX10_rules ∈ Tg := tg_in (List.mem_append_right _ (List.mem_append_left _ (List.mem_of_getElem? (i := 204) rfl))) rfl
theorem im_X10_rules : Cond.instanceMethod yX10_rules ∈ Tg := tg_in (List.mem_append_right _ (List.mem_append_left _ (List.mem_of_getElem? (i := 205) rfl))) rfl
theorem se_X10_rules : Cond.selects RX10 yX10_rules yX10_rules ∈ Tg := tg_in (List.mem_append_right _ (List.mem_append_left _ (List.mem_of_getElem? (i := 206) rfl))) rfl
theorem co_X10_rules : Cond.code yX10_rules cX10_rules 3 (some .int) ∈ Tg := tg_in (List.mem_append_right _ (List.mem_append_left _ (List.mem_of_getElem? (i := 207) rfl))) rfl
theorem ml_X10_191 : Cond.methodLink RX10 191 yX5_readInto ∈ Tg := tg_in (List.mem_append_right _ (List.mem_append_left _ (List.mem_of_getElem? (i := 208) rfl))) rfl
theorem im_X5_readInto : Cond.instanceMethod yX5_readInto ∈ Tg := tg_in (List.mem_append_right _ (List.mem_append_left _ (List.mem_of_getElem? (i := 209) rfl))) rfl
theorem se_X5_readInto : Cond.selects RX5 yX5_readInto yX5_readInto ∈ Tg := tg_in (List.mem_append_right _ (List.mem_append_left _ (List.mem_of_getElem? (i := 210) rfl))) rfl
theorem co_X5_readInto : Cond.code yX5_readInto cX5_readInto 4 (some .boolean) ∈ Tg := tg_in (List.mem_append_right _ (List.mem_append_left _ (List.mem_of_getElem? (i := 211) rfl))) rfl
theorem ml_X5_31 : Cond.methodLink RX5 31 yX9_cut ∈ Tg := tg_in (List.mem_append_right _ (List.mem_append_left _ (List.mem_of_getElem? (i := 212) rfl))) rfl
theorem im_X9_cut : Cond.instanceMethod yX9_cut ∈ Tg := tg_in (List.mem_append_right _ (List.mem_append_left _ (List.mem_of_getElem? (i := 213) rfl))) rfl
theorem se_X9_cut : Cond.selects RX9 yX9_cut yX9_cut ∈ Tg := tg_in (List.mem_append_right _ (List.mem_append_left _ (List.mem_of_getElem? (i := 214) rfl))) rfl
theorem co_X9_cut : Cond.code yX9_cut cX9_cut 5 none ∈ Tg := tg_in (List.mem_append_right _ (List.mem_append_left _ (List.mem_of_getElem? (i := 215) rfl))) rfl
theorem ml_X9_37 : Cond.methodLink RX9 37 yX8_byteAt ∈ Tg := tg_in (List.mem_append_right _ (List.mem_append_left _ (List.mem_of_getElem? (i := 216) rfl))) rfl
theorem im_X8_byteAt : Cond.instanceMethod yX8_byteAt ∈ Tg := tg_in (List.mem_append_right _ (List.mem_append_left _ (List.mem_of_getElem? (i := 217) rfl))) rfl
theorem se_X8_byteAt : Cond.selects RX8 yX8_byteAt yX8_byteAt ∈ Tg := tg_in (List.mem_append_right _ (List.mem_append_left _ (List.mem_of_getElem? (i := 218) rfl))) rfl
theorem co_X8_byteAt : Cond.code yX8_byteAt cX8_byteAt 2 (some .int) ∈ Tg := tg_in (List.mem_append_right _ (List.mem_append_left _ (List.mem_of_getElem? (i := 219) rfl))) rfl
theorem ml_X9_41 : Cond.methodLink RX9 41 yX9_sortOf ∈ Tg := tg_in (List.mem_append_right _ (List.mem_append_left _ (List.mem_of_getElem? (i := 220) rfl))) rfl
theorem st_X9_sortOf : Cond.static yX9_sortOf ∈ Tg := tg_in (List.mem_append_right _ (List.mem_append_left _ (List.mem_of_getElem? (i := 221) rfl))) rfl
theorem co_X9_sortOf : Cond.code yX9_sortOf cX9_sortOf 1 (some .int) ∈ Tg := tg_in (List.mem_append_right _ (List.mem_append_left _ (List.mem_of_getElem? (i := 222) rfl))) rfl
theorem ml_X9_44 : Cond.methodLink RX9 44 yX9_place ∈ Tg := tg_in (List.mem_append_right _ (List.mem_append_left _ (List.mem_of_getElem? (i := 223) rfl))) rfl
theorem im_X9_place : Cond.instanceMethod yX9_place ∈ Tg := tg_in (List.mem_append_right _ (List.mem_append_left _ (List.mem_of_getElem? (i := 225) rfl))) rfl
theorem co_X9_place : Cond.code yX9_place cX9_place 4 none ∈ Tg := tg_in (List.mem_append_right _ (List.mem_append_left _ (List.mem_of_getElem? (i := 226) rfl))) rfl
theorem ml_X9_48 : Cond.methodLink RX9 48 yX9_name ∈ Tg := tg_in (List.mem_append_right _ (List.mem_append_left _ (List.mem_of_getElem? (i := 227) rfl))) rfl
theorem im_X9_name : Cond.instanceMethod yX9_name ∈ Tg := tg_in (List.mem_append_right _ (List.mem_append_left _ (List.mem_of_getElem? (i := 229) rfl))) rfl
theorem co_X9_name : Cond.code yX9_name cX9_name 3 none ∈ Tg := tg_in (List.mem_append_right _ (List.mem_append_left _ (List.mem_of_getElem? (i := 230) rfl))) rfl
theorem ml_X9_52 : Cond.methodLink RX9 52 yX9_joined ∈ Tg := tg_in (List.mem_append_right _ (List.mem_append_left _ (List.mem_of_getElem? (i := 231) rfl))) rfl
theorem im_X9_joined : Cond.instanceMethod yX9_joined ∈ Tg := tg_in (List.mem_append_right _ (List.mem_append_left _ (List.mem_of_getElem? (i := 233) rfl))) rfl
theorem co_X9_joined : Cond.code yX9_joined cX9_joined 7 (some .int) ∈ Tg := tg_in (List.mem_append_right _ (List.mem_append_left _ (List.mem_of_getElem? (i := 234) rfl))) rfl
theorem ml_X5_40 : Cond.methodLink RX5 40 yX9_kindOf ∈ Tg := tg_in (List.mem_append_right _ (List.mem_append_left _ (List.mem_of_getElem? (i := 235) rfl))) rfl
theorem im_X9_kindOf : Cond.instanceMethod yX9_kindOf ∈ Tg := tg_in (List.mem_append_right _ (List.mem_append_left _ (List.mem_of_getElem? (i := 236) rfl))) rfl
theorem se_X9_kindOf : Cond.selects RX9 yX9_kindOf yX9_kindOf ∈ Tg := tg_in (List.mem_append_right _ (List.mem_append_left _ (List.mem_of_getElem? (i := 237) rfl))) rfl
theorem co_X9_kindOf : Cond.code yX9_kindOf cX9_kindOf 2 (some .int) ∈ Tg := tg_in (List.mem_append_right _ (List.mem_append_left _ (List.mem_of_getElem? (i := 238) rfl))) rfl
theorem ml_X5_44 : Cond.methodLink RX5 44 yX5_readRule ∈ Tg := tg_in (List.mem_append_right _ (List.mem_append_left _ (List.mem_of_getElem? (i := 239) rfl))) rfl
theorem im_X5_readRule : Cond.instanceMethod yX5_readRule ∈ Tg := tg_in (List.mem_append_right _ (List.mem_append_right _ (List.mem_append_left _ (List.mem_of_getElem? (i := 1) rfl)))) rfl
theorem co_X5_readRule : Cond.code yX5_readRule cX5_readRule 3 (some .boolean) ∈ Tg := tg_in (List.mem_append_right _ (List.mem_append_right _ (List.mem_append_left _ (List.mem_of_getElem? (i := 2) rfl)))) rfl
theorem ml_X5_48 : Cond.methodLink RX5 48 yX6_isFull ∈ Tg := tg_in (List.mem_append_right _ (List.mem_append_right _ (List.mem_append_left _ (List.mem_of_getElem? (i := 3) rfl)))) rfl
theorem im_X6_isFull : Cond.instanceMethod yX6_isFull ∈ Tg := tg_in (List.mem_append_right _ (List.mem_append_right _ (List.mem_append_left _ (List.mem_of_getElem? (i := 4) rfl)))) rfl
theorem se_X6_isFull : Cond.selects RX6 yX6_isFull yX6_isFull ∈ Tg := tg_in (List.mem_append_right _ (List.mem_append_right _ (List.mem_append_left _ (List.mem_of_getElem? (i := 5) rfl)))) rfl
theorem co_X6_isFull : Cond.code yX6_isFull cX6_isFull 1 (some .boolean) ∈ Tg := tg_in (List.mem_append_right _ (List.mem_append_right _ (List.mem_append_left _ (List.mem_of_getElem? (i := 6) rfl)))) rfl
theorem ml_X5_52 : Cond.methodLink RX5 52 yX5_faultHere ∈ Tg := tg_in (List.mem_append_right _ (List.mem_append_right _ (List.mem_append_left _ (List.mem_of_getElem? (i := 7) rfl)))) rfl
theorem im_X5_faultHere : Cond.instanceMethod yX5_faultHere ∈ Tg := tg_in (List.mem_append_right _ (List.mem_append_right _ (List.mem_append_left _ (List.mem_of_getElem? (i := 9) rfl)))) rfl
theorem co_X5_faultHere : Cond.code yX5_faultHere cX5_faultHere 2 (some .boolean) ∈ Tg := tg_in (List.mem_append_right _ (List.mem_append_right _ (List.mem_append_left _ (List.mem_of_getElem? (i := 10) rfl)))) rfl
theorem ml_X5_86 : Cond.methodLink RX5 86 yX9_startOf ∈ Tg := tg_in (List.mem_append_right _ (List.mem_append_right _ (List.mem_append_left _ (List.mem_of_getElem? (i := 11) rfl)))) rfl
theorem im_X9_startOf : Cond.instanceMethod yX9_startOf ∈ Tg := tg_in (List.mem_append_right _ (List.mem_append_right _ (List.mem_append_left _ (List.mem_of_getElem? (i := 12) rfl)))) rfl
theorem se_X9_startOf : Cond.selects RX9 yX9_startOf yX9_startOf ∈ Tg := tg_in (List.mem_append_right _ (List.mem_append_right _ (List.mem_append_left _ (List.mem_of_getElem? (i := 13) rfl)))) rfl
theorem co_X9_startOf : Cond.code yX9_startOf cX9_startOf 2 (some .int) ∈ Tg := tg_in (List.mem_append_right _ (List.mem_append_right _ (List.mem_append_left _ (List.mem_of_getElem? (i := 14) rfl)))) rfl
theorem ml_X5_56 : Cond.methodLink RX5 56 yX5_take ∈ Tg := tg_in (List.mem_append_right _ (List.mem_append_right _ (List.mem_append_left _ (List.mem_of_getElem? (i := 15) rfl)))) rfl
theorem im_X5_take : Cond.instanceMethod yX5_take ∈ Tg := tg_in (List.mem_append_right _ (List.mem_append_right _ (List.mem_append_left _ (List.mem_of_getElem? (i := 17) rfl)))) rfl
theorem co_X5_take : Cond.code yX5_take cX5_take 2 (some .boolean) ∈ Tg := tg_in (List.mem_append_right _ (List.mem_append_right _ (List.mem_append_left _ (List.mem_of_getElem? (i := 18) rfl)))) rfl
theorem ml_X5_59 : Cond.methodLink RX5 59 yX6_beginRule ∈ Tg := tg_in (List.mem_append_right _ (List.mem_append_right _ (List.mem_append_left _ (List.mem_of_getElem? (i := 19) rfl)))) rfl
theorem im_X6_beginRule : Cond.instanceMethod yX6_beginRule ∈ Tg := tg_in (List.mem_append_right _ (List.mem_append_right _ (List.mem_append_left _ (List.mem_of_getElem? (i := 20) rfl)))) rfl
theorem se_X6_beginRule : Cond.selects RX6 yX6_beginRule yX6_beginRule ∈ Tg := tg_in (List.mem_append_right _ (List.mem_append_right _ (List.mem_append_left _ (List.mem_of_getElem? (i := 21) rfl)))) rfl
theorem co_X6_beginRule : Cond.code yX6_beginRule cX6_beginRule 1 none ∈ Tg := tg_in (List.mem_append_right _ (List.mem_append_right _ (List.mem_append_left _ (List.mem_of_getElem? (i := 22) rfl)))) rfl
theorem ml_X6_31 : Cond.methodLink RX6 31 yX6_isFull ∈ Tg := tg_in (List.mem_append_right _ (List.mem_append_right _ (List.mem_append_left _ (List.mem_of_getElem? (i := 23) rfl)))) rfl
theorem ml_X5_62 : Cond.methodLink RX5 62 yX5_readTest ∈ Tg := tg_in (List.mem_append_right _ (List.mem_append_right _ (List.mem_append_left _ (List.mem_of_getElem? (i := 24) rfl)))) rfl
theorem im_X5_readTest : Cond.instanceMethod yX5_readTest ∈ Tg := tg_in (List.mem_append_right _ (List.mem_append_right _ (List.mem_append_left _ (List.mem_of_getElem? (i := 26) rfl)))) rfl
theorem co_X5_readTest : Cond.code yX5_readTest cX5_readTest 6 (some .boolean) ∈ Tg := tg_in (List.mem_append_right _ (List.mem_append_right _ (List.mem_append_left _ (List.mem_of_getElem? (i := 27) rfl)))) rfl
theorem cn_X5_75 : Cond.constant RX5 75 (6711655) ∈ Tg := tg_in (List.mem_append_right _ (List.mem_append_right _ (List.mem_append_left _ (List.mem_of_getElem? (i := 28) rfl)))) rfl
theorem cn_X5_76 : Cond.constant RX5 76 (1935764837) ∈ Tg := tg_in (List.mem_append_right _ (List.mem_append_right _ (List.mem_append_left _ (List.mem_of_getElem? (i := 29) rfl)))) rfl
theorem cn_X5_77 : Cond.constant RX5 77 (1885434739) ∈ Tg := tg_in (List.mem_append_right _ (List.mem_append_right _ (List.mem_append_left _ (List.mem_of_getElem? (i := 30) rfl)))) rfl
theorem cn_X5_78 : Cond.constant RX5 78 (1702258030) ∈ Tg := tg_in (List.mem_append_right _ (List.mem_append_right _ (List.mem_append_left _ (List.mem_of_getElem? (i := 31) rfl)))) rfl
theorem ml_X5_67 : Cond.methodLink RX5 67 yX5_takeNumber ∈ Tg := tg_in (List.mem_append_right _ (List.mem_append_right _ (List.mem_append_left _ (List.mem_of_getElem? (i := 32) rfl)))) rfl
theorem im_X5_takeNumber : Cond.instanceMethod yX5_takeNumber ∈ Tg := tg_in (List.mem_append_right _ (List.mem_append_right _ (List.mem_append_left _ (List.mem_of_getElem? (i := 34) rfl)))) rfl
theorem co_X5_takeNumber : Cond.code yX5_takeNumber cX5_takeNumber 3 (some .boolean) ∈ Tg := tg_in (List.mem_append_right _ (List.mem_append_right _ (List.mem_append_left _ (List.mem_of_getElem? (i := 35) rfl)))) rfl
theorem ml_X5_83 : Cond.methodLink RX5 83 yX9_valueOf ∈ Tg := tg_in (List.mem_append_right _ (List.mem_append_right _ (List.mem_append_left _ (List.mem_of_getElem? (i := 36) rfl)))) rfl
theorem im_X9_valueOf : Cond.instanceMethod yX9_valueOf ∈ Tg := tg_in (List.mem_append_right _ (List.mem_append_right _ (List.mem_append_left _ (List.mem_of_getElem? (i := 37) rfl)))) rfl
theorem se_X9_valueOf : Cond.selects RX9 yX9_valueOf yX9_valueOf ∈ Tg := tg_in (List.mem_append_right _ (List.mem_append_right _ (List.mem_append_left _ (List.mem_of_getElem? (i := 38) rfl)))) rfl
theorem co_X9_valueOf : Cond.code yX9_valueOf cX9_valueOf 2 (some .int) ∈ Tg := tg_in (List.mem_append_right _ (List.mem_append_right _ (List.mem_append_left _ (List.mem_of_getElem? (i := 39) rfl)))) rfl
theorem ml_X5_79 : Cond.methodLink RX5 79 yX6_addTest ∈ Tg := tg_in (List.mem_append_right _ (List.mem_append_right _ (List.mem_append_left _ (List.mem_of_getElem? (i := 40) rfl)))) rfl
theorem im_X6_addTest : Cond.instanceMethod yX6_addTest ∈ Tg := tg_in (List.mem_append_right _ (List.mem_append_right _ (List.mem_append_left _ (List.mem_of_getElem? (i := 41) rfl)))) rfl
theorem se_X6_addTest : Cond.selects RX6 yX6_addTest yX6_addTest ∈ Tg := tg_in (List.mem_append_right _ (List.mem_append_right _ (List.mem_append_left _ (List.mem_of_getElem? (i := 42) rfl)))) rfl
theorem co_X6_addTest : Cond.code yX6_addTest cX6_addTest 5 none ∈ Tg := tg_in (List.mem_append_right _ (List.mem_append_right _ (List.mem_append_left _ (List.mem_of_getElem? (i := 43) rfl)))) rfl
theorem cn_X5_65 : Cond.constant RX5 65 (6385252) ∈ Tg := tg_in (List.mem_append_right _ (List.mem_append_right _ (List.mem_append_left _ (List.mem_of_getElem? (i := 44) rfl)))) rfl
theorem cn_X5_66 : Cond.constant RX5 66 (7561593) ∈ Tg := tg_in (List.mem_append_right _ (List.mem_append_right _ (List.mem_append_left _ (List.mem_of_getElem? (i := 45) rfl)))) rfl
theorem ml_X5_71 : Cond.methodLink RX5 71 yX6_endRule ∈ Tg := tg_in (List.mem_append_right _ (List.mem_append_right _ (List.mem_append_left _ (List.mem_of_getElem? (i := 46) rfl)))) rfl
theorem im_X6_endRule : Cond.instanceMethod yX6_endRule ∈ Tg := tg_in (List.mem_append_right _ (List.mem_append_right _ (List.mem_append_left _ (List.mem_of_getElem? (i := 47) rfl)))) rfl
theorem se_X6_endRule : Cond.selects RX6 yX6_endRule yX6_endRule ∈ Tg := tg_in (List.mem_append_right _ (List.mem_append_right _ (List.mem_append_left _ (List.mem_of_getElem? (i := 48) rfl)))) rfl
theorem co_X6_endRule : Cond.code yX6_endRule cX6_endRule 2 none ∈ Tg := tg_in (List.mem_append_right _ (List.mem_append_right _ (List.mem_append_left _ (List.mem_of_getElem? (i := 49) rfl)))) rfl
theorem cn_X10_198 : Cond.constant RX10 198 (-1000100) ∈ Tg := tg_in (List.mem_append_right _ (List.mem_append_right _ (List.mem_append_left _ (List.mem_of_getElem? (i := 50) rfl)))) rfl
theorem ml_L_73 : Cond.methodLink RL 73 yX10_fault ∈ Tg := tg_in (List.mem_append_right _ (List.mem_append_right _ (List.mem_append_left _ (List.mem_of_getElem? (i := 51) rfl)))) rfl
theorem im_X10_fault : Cond.instanceMethod yX10_fault ∈ Tg := tg_in (List.mem_append_right _ (List.mem_append_right _ (List.mem_append_left _ (List.mem_of_getElem? (i := 52) rfl)))) rfl
theorem se_X10_fault : Cond.selects RX10 yX10_fault yX10_fault ∈ Tg := tg_in (List.mem_append_right _ (List.mem_append_right _ (List.mem_append_left _ (List.mem_of_getElem? (i := 53) rfl)))) rfl
theorem co_X10_fault : Cond.code yX10_fault cX10_fault 1 (some .int) ∈ Tg := tg_in (List.mem_append_right _ (List.mem_append_right _ (List.mem_append_left _ (List.mem_of_getElem? (i := 54) rfl)))) rfl
theorem ml_L_77 : Cond.methodLink RL 77 yX10_said ∈ Tg := tg_in (List.mem_append_right _ (List.mem_append_right _ (List.mem_append_left _ (List.mem_of_getElem? (i := 55) rfl)))) rfl
theorem im_X10_said : Cond.instanceMethod yX10_said ∈ Tg := tg_in (List.mem_append_right _ (List.mem_append_right _ (List.mem_append_left _ (List.mem_of_getElem? (i := 56) rfl)))) rfl
theorem se_X10_said : Cond.selects RX10 yX10_said yX10_said ∈ Tg := tg_in (List.mem_append_right _ (List.mem_append_right _ (List.mem_append_left _ (List.mem_of_getElem? (i := 57) rfl)))) rfl
theorem co_X10_said : Cond.code yX10_said cX10_said 3 (some .int) ∈ Tg := tg_in (List.mem_append_right _ (List.mem_append_right _ (List.mem_append_left _ (List.mem_of_getElem? (i := 58) rfl)))) rfl
theorem ml_X10_203 : Cond.methodLink RX10 203 yX6_firstThatHolds ∈ Tg := tg_in (List.mem_append_right _ (List.mem_append_right _ (List.mem_append_left _ (List.mem_of_getElem? (i := 59) rfl)))) rfl
theorem im_X6_firstThatHolds : Cond.instanceMethod yX6_firstThatHolds ∈ Tg := tg_in (List.mem_append_right _ (List.mem_append_right _ (List.mem_append_left _ (List.mem_of_getElem? (i := 60) rfl)))) rfl
theorem se_X6_firstThatHolds : Cond.selects RX6 yX6_firstThatHolds yX6_firstThatHolds ∈ Tg := tg_in (List.mem_append_right _ (List.mem_append_right _ (List.mem_append_left _ (List.mem_of_getElem? (i := 61) rfl)))) rfl
theorem co_X6_firstThatHolds : Cond.code yX6_firstThatHolds cX6_firstThatHolds 4 (some .int) ∈ Tg := tg_in (List.mem_append_right _ (List.mem_append_right _ (List.mem_append_left _ (List.mem_of_getElem? (i := 62) rfl)))) rfl
theorem ml_X6_40 : Cond.methodLink RX6 40 yX6_isTrueOf ∈ Tg := tg_in (List.mem_append_right _ (List.mem_append_right _ (List.mem_append_left _ (List.mem_of_getElem? (i := 63) rfl)))) rfl
theorem im_X6_isTrueOf : Cond.instanceMethod yX6_isTrueOf ∈ Tg := tg_in (List.mem_append_right _ (List.mem_append_right _ (List.mem_append_left _ (List.mem_of_getElem? (i := 64) rfl)))) rfl
theorem se_X6_isTrueOf : Cond.selects RX6 yX6_isTrueOf yX6_isTrueOf ∈ Tg := tg_in (List.mem_append_right _ (List.mem_append_right _ (List.mem_append_left _ (List.mem_of_getElem? (i := 65) rfl)))) rfl
theorem co_X6_isTrueOf : Cond.code yX6_isTrueOf cX6_isTrueOf 6 (some .boolean) ∈ Tg := tg_in (List.mem_append_right _ (List.mem_append_right _ (List.mem_append_left _ (List.mem_of_getElem? (i := 66) rfl)))) rfl
theorem ml_X6_35 : Cond.methodLink RX6 35 yX6_hasRule ∈ Tg := tg_in (List.mem_append_right _ (List.mem_append_right _ (List.mem_append_left _ (List.mem_of_getElem? (i := 67) rfl)))) rfl
theorem im_X6_hasRule : Cond.instanceMethod yX6_hasRule ∈ Tg := tg_in (List.mem_append_right _ (List.mem_append_right _ (List.mem_append_left _ (List.mem_of_getElem? (i := 68) rfl)))) rfl
theorem se_X6_hasRule : Cond.selects RX6 yX6_hasRule yX6_hasRule ∈ Tg := tg_in (List.mem_append_right _ (List.mem_append_right _ (List.mem_append_left _ (List.mem_of_getElem? (i := 69) rfl)))) rfl
theorem co_X6_hasRule : Cond.code yX6_hasRule cX6_hasRule 2 (some .boolean) ∈ Tg := tg_in (List.mem_append_right _ (List.mem_append_right _ (List.mem_append_left _ (List.mem_of_getElem? (i := 70) rfl)))) rfl
theorem ml_X6_44 : Cond.methodLink RX6 44 yX6_testIsTrue ∈ Tg := tg_in (List.mem_append_right _ (List.mem_append_right _ (List.mem_append_left _ (List.mem_of_getElem? (i := 71) rfl)))) rfl
theorem st_X6_testIsTrue : Cond.static yX6_testIsTrue ∈ Tg := tg_in (List.mem_append_right _ (List.mem_append_right _ (List.mem_append_left _ (List.mem_of_getElem? (i := 72) rfl)))) rfl
theorem co_X6_testIsTrue : Cond.code yX6_testIsTrue cX6_testIsTrue 5 (some .boolean) ∈ Tg := tg_in (List.mem_append_right _ (List.mem_append_right _ (List.mem_append_left _ (List.mem_of_getElem? (i := 73) rfl)))) rfl
theorem ml_X6_48 : Cond.methodLink RX6 48 yX2_figureAt ∈ Tg := tg_in (List.mem_append_right _ (List.mem_append_right _ (List.mem_append_left _ (List.mem_of_getElem? (i := 74) rfl)))) rfl
theorem ml_X6_54 : Cond.methodLink RX6 54 yX2_timesSeen ∈ Tg := tg_in (List.mem_append_right _ (List.mem_append_right _ (List.mem_append_left _ (List.mem_of_getElem? (i := 75) rfl)))) rfl
theorem ml_X6_58 : Cond.methodLink RX6 58 yX3_isEven ∈ Tg := tg_in (List.mem_append_right _ (List.mem_append_right _ (List.mem_append_left _ (List.mem_of_getElem? (i := 76) rfl)))) rfl
theorem st_X3_isEven : Cond.static yX3_isEven ∈ Tg := tg_in (List.mem_append_right _ (List.mem_append_right _ (List.mem_append_left _ (List.mem_of_getElem? (i := 77) rfl)))) rfl
theorem co_X3_isEven : Cond.code yX3_isEven cX3_isEven 1 (some .boolean) ∈ Tg := tg_in (List.mem_append_right _ (List.mem_append_right _ (List.mem_append_left _ (List.mem_of_getElem? (i := 78) rfl)))) rfl
theorem ml_X3_9 : Cond.methodLink RX3 9 yJ6_bitCount_0f7a4 ∈ Tg := tg_in (List.mem_append_right _ (List.mem_append_right _ (List.mem_append_left _ (List.mem_of_getElem? (i := 79) rfl)))) rfl
theorem st_J6_bitCount_0f7a4 : Cond.static yJ6_bitCount_0f7a4 ∈ Tg := tg_in (List.mem_append_right _ (List.mem_append_right _ (List.mem_append_left _ (List.mem_of_getElem? (i := 80) rfl)))) rfl
theorem co_J6_bitCount_0f7a4 : Cond.code yJ6_bitCount_0f7a4 cJ6_bitCount_0f7a4 1 (some .int) ∈ Tg := tg_in (List.mem_append_right _ (List.mem_append_right _ (List.mem_append_left _ (List.mem_of_getElem? (i := 81) rfl)))) rfl
theorem cn_J6_265 : Cond.constant RJ6 265 (1431655765) ∈ Tg := tg_in (List.mem_append_right _ (List.mem_append_right _ (List.mem_append_left _ (List.mem_of_getElem? (i := 82) rfl)))) rfl
theorem cn_J6_266 : Cond.constant RJ6 266 (858993459) ∈ Tg := tg_in (List.mem_append_right _ (List.mem_append_right _ (List.mem_append_left _ (List.mem_of_getElem? (i := 83) rfl)))) rfl
theorem cn_J6_267 : Cond.constant RJ6 267 (252645135) ∈ Tg := tg_in (List.mem_append_right _ (List.mem_append_right _ (List.mem_append_left _ (List.mem_of_getElem? (i := 84) rfl)))) rfl
theorem cn_X6_39 : Cond.constant RX6 39 (-1000000) ∈ Tg := tg_in (List.mem_append_right _ (List.mem_append_right _ (List.mem_append_left _ (List.mem_of_getElem? (i := 85) rfl)))) rfl
theorem cn_X10_206 : Cond.constant RX10 206 (-1000000) ∈ Tg := tg_in (List.mem_append_right _ (List.mem_append_right _ (List.mem_append_left _ (List.mem_of_getElem? (i := 86) rfl)))) rfl
theorem ml_X10_207 : Cond.methodLink RX10 207 yX6_numberSaid ∈ Tg := tg_in (List.mem_append_right _ (List.mem_append_right _ (List.mem_append_left _ (List.mem_of_getElem? (i := 87) rfl)))) rfl
theorem im_X6_numberSaid : Cond.instanceMethod yX6_numberSaid ∈ Tg := tg_in (List.mem_append_right _ (List.mem_append_right _ (List.mem_append_left _ (List.mem_of_getElem? (i := 88) rfl)))) rfl
theorem se_X6_numberSaid : Cond.selects RX6 yX6_numberSaid yX6_numberSaid ∈ Tg := tg_in (List.mem_append_right _ (List.mem_append_right _ (List.mem_append_left _ (List.mem_of_getElem? (i := 89) rfl)))) rfl
theorem co_X6_numberSaid : Cond.code yX6_numberSaid cX6_numberSaid 2 (some .int) ∈ Tg := tg_in (List.mem_append_right _ (List.mem_append_right _ (List.mem_append_left _ (List.mem_of_getElem? (i := 90) rfl)))) rfl
theorem ml_L_81 : Cond.methodLink RL 81 yX10_holds ∈ Tg := tg_in (List.mem_append_right _ (List.mem_append_right _ (List.mem_append_left _ (List.mem_of_getElem? (i := 91) rfl)))) rfl
theorem im_X10_holds : Cond.instanceMethod yX10_holds ∈ Tg := tg_in (List.mem_append_right _ (List.mem_append_right _ (List.mem_append_left _ (List.mem_of_getElem? (i := 92) rfl)))) rfl
theorem se_X10_holds : Cond.selects RX10 yX10_holds yX10_holds ∈ Tg := tg_in (List.mem_append_right _ (List.mem_append_right _ (List.mem_append_left _ (List.mem_of_getElem? (i := 93) rfl)))) rfl
theorem co_X10_holds : Cond.code yX10_holds cX10_holds 2 (some .int) ∈ Tg := tg_in (List.mem_append_right _ (List.mem_append_right _ (List.mem_append_left _ (List.mem_of_getElem? (i := 94) rfl)))) rfl
theorem ml_X10_210 : Cond.methodLink RX10 210 yX6_hasRule ∈ Tg := tg_in (List.mem_append_right _ (List.mem_append_right _ (List.mem_append_left _ (List.mem_of_getElem? (i := 95) rfl)))) rfl
theorem ml_X10_213 : Cond.methodLink RX10 213 yX6_isTrueOf ∈ Tg := tg_in (List.mem_append_right _ (List.mem_append_right _ (List.mem_append_left _ (List.mem_of_getElem? (i := 96) rfl)))) rfl
theorem ml_L_85 : Cond.methodLink RL 85 yX10_record ∈ Tg := tg_in (List.mem_append_right _ (List.mem_append_right _ (List.mem_append_left _ (List.mem_of_getElem? (i := 97) rfl)))) rfl
theorem im_X10_record : Cond.instanceMethod yX10_record ∈ Tg := tg_in (List.mem_append_right _ (List.mem_append_right _ (List.mem_append_left _ (List.mem_of_getElem? (i := 98) rfl)))) rfl
theorem se_X10_record : Cond.selects RX10 yX10_record yX10_record ∈ Tg := tg_in (List.mem_append_right _ (List.mem_append_right _ (List.mem_append_left _ (List.mem_of_getElem? (i := 99) rfl)))) rfl
theorem co_X10_record : Cond.code yX10_record cX10_record 2 (some .int) ∈ Tg := tg_in (List.mem_append_right _ (List.mem_append_right _ (List.mem_append_left _ (List.mem_of_getElem? (i := 100) rfl)))) rfl
theorem ml_X10_217 : Cond.methodLink RX10 217 yX1_isEnd ∈ Tg := tg_in (List.mem_append_right _ (List.mem_append_right _ (List.mem_append_left _ (List.mem_of_getElem? (i := 101) rfl)))) rfl
theorem st_X1_isEnd : Cond.static yX1_isEnd ∈ Tg := tg_in (List.mem_append_right _ (List.mem_append_right _ (List.mem_append_left _ (List.mem_of_getElem? (i := 102) rfl)))) rfl
theorem co_X1_isEnd : Cond.code yX1_isEnd cX1_isEnd 1 (some .boolean) ∈ Tg := tg_in (List.mem_append_right _ (List.mem_append_right _ (List.mem_append_left _ (List.mem_of_getElem? (i := 103) rfl)))) rfl
theorem ml_X10_220 : Cond.methodLink RX10 220 yX1_isFull ∈ Tg := tg_in (List.mem_append_right _ (List.mem_append_right _ (List.mem_append_left _ (List.mem_of_getElem? (i := 104) rfl)))) rfl
theorem im_X1_isFull : Cond.instanceMethod yX1_isFull ∈ Tg := tg_in (List.mem_append_right _ (List.mem_append_right _ (List.mem_append_left _ (List.mem_of_getElem? (i := 105) rfl)))) rfl
theorem se_X1_isFull : Cond.selects RX1 yX1_isFull yX1_isFull ∈ Tg := tg_in (List.mem_append_right _ (List.mem_append_right _ (List.mem_append_left _ (List.mem_of_getElem? (i := 106) rfl)))) rfl
theorem co_X1_isFull : Cond.code yX1_isFull cX1_isFull 1 (some .boolean) ∈ Tg := tg_in (List.mem_append_right _ (List.mem_append_right _ (List.mem_append_left _ (List.mem_of_getElem? (i := 107) rfl)))) rfl
theorem ml_X10_223 : Cond.methodLink RX10 223 yX1_write ∈ Tg := tg_in (List.mem_append_right _ (List.mem_append_right _ (List.mem_append_left _ (List.mem_of_getElem? (i := 108) rfl)))) rfl
theorem im_X1_write : Cond.instanceMethod yX1_write ∈ Tg := tg_in (List.mem_append_right _ (List.mem_append_right _ (List.mem_append_left _ (List.mem_of_getElem? (i := 109) rfl)))) rfl
theorem se_X1_write : Cond.selects RX1 yX1_write yX1_write ∈ Tg := tg_in (List.mem_append_right _ (List.mem_append_right _ (List.mem_append_left _ (List.mem_of_getElem? (i := 110) rfl)))) rfl
theorem co_X1_write : Cond.code yX1_write cX1_write 4 none ∈ Tg := tg_in (List.mem_append_right _ (List.mem_append_right _ (List.mem_append_left _ (List.mem_of_getElem? (i := 111) rfl)))) rfl
theorem ml_X1_29 : Cond.methodLink RX1 29 yX1_isFull ∈ Tg := tg_in (List.mem_append_right _ (List.mem_append_right _ (List.mem_append_left _ (List.mem_of_getElem? (i := 112) rfl)))) rfl
theorem ml_X1_33 : Cond.methodLink RX1 33 yX1_isEnd ∈ Tg := tg_in (List.mem_append_right _ (List.mem_append_right _ (List.mem_append_left _ (List.mem_of_getElem? (i := 113) rfl)))) rfl
theorem ml_L_89 : Cond.methodLink RL 89 yX10_worth ∈ Tg := tg_in (List.mem_append_right _ (List.mem_append_right _ (List.mem_append_left _ (List.mem_of_getElem? (i := 114) rfl)))) rfl
theorem im_X10_worth : Cond.instanceMethod yX10_worth ∈ Tg := tg_in (List.mem_append_right _ (List.mem_append_right _ (List.mem_append_left _ (List.mem_of_getElem? (i := 115) rfl)))) rfl
theorem se_X10_worth : Cond.selects RX10 yX10_worth yX10_worth ∈ Tg := tg_in (List.mem_append_right _ (List.mem_append_right _ (List.mem_append_left _ (List.mem_of_getElem? (i := 116) rfl)))) rfl
theorem co_X10_worth : Cond.code yX10_worth cX10_worth 3 (some .int) ∈ Tg := tg_in (List.mem_append_right _ (List.mem_append_right _ (List.mem_append_left _ (List.mem_of_getElem? (i := 117) rfl)))) rfl
theorem ml_X10_227 : Cond.methodLink RX10 227 yX1_holdAgainst ∈ Tg := tg_in (List.mem_append_right _ (List.mem_append_right _ (List.mem_append_left _ (List.mem_of_getElem? (i := 118) rfl)))) rfl
theorem im_X1_holdAgainst : Cond.instanceMethod yX1_holdAgainst ∈ Tg := tg_in (List.mem_append_right _ (List.mem_append_right _ (List.mem_append_left _ (List.mem_of_getElem? (i := 119) rfl)))) rfl
theorem se_X1_holdAgainst : Cond.selects RX1 yX1_holdAgainst yX1_holdAgainst ∈ Tg := tg_in (List.mem_append_right _ (List.mem_append_right _ (List.mem_append_left _ (List.mem_of_getElem? (i := 120) rfl)))) rfl
theorem co_X1_holdAgainst : Cond.code yX1_holdAgainst cX1_holdAgainst 4 none ∈ Tg := tg_in (List.mem_append_right _ (List.mem_append_right _ (List.mem_append_left _ (List.mem_of_getElem? (i := 121) rfl)))) rfl
theorem ml_X1_37 : Cond.methodLink RX1 37 yX6_isTrueOf ∈ Tg := tg_in (List.mem_append_right _ (List.mem_append_right _ (List.mem_append_left _ (List.mem_of_getElem? (i := 122) rfl)))) rfl
theorem ml_X10_231 : Cond.methodLink RX10 231 yX1_answerTo ∈ Tg := tg_in (List.mem_append_right _ (List.mem_append_right _ (List.mem_append_left _ (List.mem_of_getElem? (i := 123) rfl)))) rfl
theorem im_X1_answerTo : Cond.instanceMethod yX1_answerTo ∈ Tg := tg_in (List.mem_append_right _ (List.mem_append_right _ (List.mem_append_left _ (List.mem_of_getElem? (i := 124) rfl)))) rfl
theorem se_X1_answerTo : Cond.selects RX1 yX1_answerTo yX1_answerTo ∈ Tg := tg_in (List.mem_append_right _ (List.mem_append_right _ (List.mem_append_left _ (List.mem_of_getElem? (i := 125) rfl)))) rfl
theorem co_X1_answerTo : Cond.code yX1_answerTo cX1_answerTo 2 (some .int) ∈ Tg := tg_in (List.mem_append_right _ (List.mem_append_right _ (List.mem_append_left _ (List.mem_of_getElem? (i := 126) rfl)))) rfl
theorem ml_X1_43 : Cond.methodLink RX1 43 yX1_worthHeld ∈ Tg := tg_in (List.mem_append_right _ (List.mem_append_right _ (List.mem_append_left _ (List.mem_of_getElem? (i := 127) rfl)))) rfl
theorem im_X1_worthHeld : Cond.instanceMethod yX1_worthHeld ∈ Tg := tg_in (List.mem_append_right _ (List.mem_append_right _ (List.mem_append_left _ (List.mem_of_getElem? (i := 128) rfl)))) rfl
theorem se_X1_worthHeld : Cond.selects RX1 yX1_worthHeld yX1_worthHeld ∈ Tg := tg_in (List.mem_append_right _ (List.mem_append_right _ (List.mem_append_left _ (List.mem_of_getElem? (i := 129) rfl)))) rfl
theorem co_X1_worthHeld : Cond.code yX1_worthHeld cX1_worthHeld 1 (some .int) ∈ Tg := tg_in (List.mem_append_right _ (List.mem_append_right _ (List.mem_append_left _ (List.mem_of_getElem? (i := 130) rfl)))) rfl
theorem ml_X1_48 : Cond.methodLink RX1 48 yX1_casesKnown ∈ Tg := tg_in (List.mem_append_right _ (List.mem_append_right _ (List.mem_append_left _ (List.mem_of_getElem? (i := 131) rfl)))) rfl
theorem im_X1_casesKnown : Cond.instanceMethod yX1_casesKnown ∈ Tg := tg_in (List.mem_append_right _ (List.mem_append_right _ (List.mem_append_left _ (List.mem_of_getElem? (i := 132) rfl)))) rfl
theorem se_X1_casesKnown : Cond.selects RX1 yX1_casesKnown yX1_casesKnown ∈ Tg := tg_in (List.mem_append_right _ (List.mem_append_right _ (List.mem_append_left _ (List.mem_of_getElem? (i := 133) rfl)))) rfl
theorem co_X1_casesKnown : Cond.code yX1_casesKnown cX1_casesKnown 1 (some .int) ∈ Tg := tg_in (List.mem_append_right _ (List.mem_append_right _ (List.mem_append_left _ (List.mem_of_getElem? (i := 134) rfl)))) rfl
theorem ml_X1_51 : Cond.methodLink RX1 51 yX1_casesYes ∈ Tg := tg_in (List.mem_append_right _ (List.mem_append_right _ (List.mem_append_left _ (List.mem_of_getElem? (i := 135) rfl)))) rfl
theorem im_X1_casesYes : Cond.instanceMethod yX1_casesYes ∈ Tg := tg_in (List.mem_append_right _ (List.mem_append_right _ (List.mem_append_left _ (List.mem_of_getElem? (i := 136) rfl)))) rfl
theorem se_X1_casesYes : Cond.selects RX1 yX1_casesYes yX1_casesYes ∈ Tg := tg_in (List.mem_append_right _ (List.mem_append_right _ (List.mem_append_left _ (List.mem_of_getElem? (i := 137) rfl)))) rfl
theorem co_X1_casesYes : Cond.code yX1_casesYes cX1_casesYes 1 (some .int) ∈ Tg := tg_in (List.mem_append_right _ (List.mem_append_right _ (List.mem_append_left _ (List.mem_of_getElem? (i := 138) rfl)))) rfl
theorem cn_X1_47 : Cond.constant RX1 47 (-1000001) ∈ Tg := tg_in (List.mem_append_right _ (List.mem_append_right _ (List.mem_append_left _ (List.mem_of_getElem? (i := 139) rfl)))) rfl
theorem ml_L_93 : Cond.methodLink RL 93 yX10_best ∈ Tg := tg_in (List.mem_append_right _ (List.mem_append_right _ (List.mem_append_left _ (List.mem_of_getElem? (i := 140) rfl)))) rfl
theorem im_X10_best : Cond.instanceMethod yX10_best ∈ Tg := tg_in (List.mem_append_right _ (List.mem_append_right _ (List.mem_append_left _ (List.mem_of_getElem? (i := 141) rfl)))) rfl
theorem se_X10_best : Cond.selects RX10 yX10_best yX10_best ∈ Tg := tg_in (List.mem_append_right _ (List.mem_append_right _ (List.mem_append_left _ (List.mem_of_getElem? (i := 142) rfl)))) rfl
theorem co_X10_best : Cond.code yX10_best cX10_best 5 (some .int) ∈ Tg := tg_in (List.mem_append_right _ (List.mem_append_right _ (List.mem_append_left _ (List.mem_of_getElem? (i := 143) rfl)))) rfl
theorem ml_X10_232 : Cond.methodLink RX10 232 yX1_worthHeld ∈ Tg := tg_in (List.mem_append_right _ (List.mem_append_right _ (List.mem_append_left _ (List.mem_of_getElem? (i := 144) rfl)))) rfl
theorem ml_L_97 : Cond.methodLink RL 97 yX10_kind ∈ Tg := tg_in (List.mem_append_right _ (List.mem_append_right _ (List.mem_append_left _ (List.mem_of_getElem? (i := 145) rfl)))) rfl
theorem im_X10_kind : Cond.instanceMethod yX10_kind ∈ Tg := tg_in (List.mem_append_right _ (List.mem_append_right _ (List.mem_append_left _ (List.mem_of_getElem? (i := 146) rfl)))) rfl
theorem se_X10_kind : Cond.selects RX10 yX10_kind yX10_kind ∈ Tg := tg_in (List.mem_append_right _ (List.mem_append_right _ (List.mem_append_left _ (List.mem_of_getElem? (i := 147) rfl)))) rfl
theorem co_X10_kind : Cond.code yX10_kind cX10_kind 2 (some .int) ∈ Tg := tg_in (List.mem_append_right _ (List.mem_append_right _ (List.mem_append_left _ (List.mem_of_getElem? (i := 148) rfl)))) rfl
theorem ml_X10_236 : Cond.methodLink RX10 236 yX3_toldKind ∈ Tg := tg_in (List.mem_append_right _ (List.mem_append_right _ (List.mem_append_left _ (List.mem_of_getElem? (i := 149) rfl)))) rfl
theorem st_X3_toldKind : Cond.static yX3_toldKind ∈ Tg := tg_in (List.mem_append_right _ (List.mem_append_right _ (List.mem_append_left _ (List.mem_of_getElem? (i := 150) rfl)))) rfl
theorem co_X3_toldKind : Cond.code yX3_toldKind cX3_toldKind 1 (some .int) ∈ Tg := tg_in (List.mem_append_right _ (List.mem_append_right _ (List.mem_append_left _ (List.mem_of_getElem? (i := 151) rfl)))) rfl
theorem ml_X3_15 : Cond.methodLink RX3 15 yX3_isEven ∈ Tg := tg_in (List.mem_append_right _ (List.mem_append_right _ (List.mem_append_left _ (List.mem_of_getElem? (i := 152) rfl)))) rfl
theorem ml_X3_19 : Cond.methodLink RX3 19 yX3_row ∈ Tg := tg_in (List.mem_append_right _ (List.mem_append_right _ (List.mem_append_left _ (List.mem_of_getElem? (i := 153) rfl)))) rfl
theorem st_X3_row : Cond.static yX3_row ∈ Tg := tg_in (List.mem_append_right _ (List.mem_append_right _ (List.mem_append_left _ (List.mem_of_getElem? (i := 154) rfl)))) rfl
theorem co_X3_row : Cond.code yX3_row cX3_row 2 (some .int) ∈ Tg := tg_in (List.mem_append_right _ (List.mem_append_right _ (List.mem_append_left _ (List.mem_of_getElem? (i := 155) rfl)))) rfl
theorem ml_L_101 : Cond.methodLink RL 101 yX10_as ∈ Tg := tg_in (List.mem_append_right _ (List.mem_append_right _ (List.mem_append_left _ (List.mem_of_getElem? (i := 156) rfl)))) rfl
theorem im_X10_as : Cond.instanceMethod yX10_as ∈ Tg := tg_in (List.mem_append_right _ (List.mem_append_right _ (List.mem_append_left _ (List.mem_of_getElem? (i := 157) rfl)))) rfl
theorem se_X10_as : Cond.selects RX10 yX10_as yX10_as ∈ Tg := tg_in (List.mem_append_right _ (List.mem_append_right _ (List.mem_append_left _ (List.mem_of_getElem? (i := 158) rfl)))) rfl
theorem co_X10_as : Cond.code yX10_as cX10_as 3 (some .int) ∈ Tg := tg_in (List.mem_append_right _ (List.mem_append_right _ (List.mem_append_left _ (List.mem_of_getElem? (i := 159) rfl)))) rfl
theorem ml_X10_239 : Cond.methodLink RX10 239 yX3_isOfKind ∈ Tg := tg_in (List.mem_append_right _ (List.mem_append_right _ (List.mem_append_left _ (List.mem_of_getElem? (i := 160) rfl)))) rfl
theorem st_X3_isOfKind : Cond.static yX3_isOfKind ∈ Tg := tg_in (List.mem_append_right _ (List.mem_append_right _ (List.mem_append_left _ (List.mem_of_getElem? (i := 161) rfl)))) rfl
theorem co_X3_isOfKind : Cond.code yX3_isOfKind cX3_isOfKind 3 (some .boolean) ∈ Tg := tg_in (List.mem_append_right _ (List.mem_append_right _ (List.mem_append_left _ (List.mem_of_getElem? (i := 162) rfl)))) rfl
theorem ml_X3_23 : Cond.methodLink RX3 23 yX3_toldKind ∈ Tg := tg_in (List.mem_append_right _ (List.mem_append_right _ (List.mem_append_left _ (List.mem_of_getElem? (i := 163) rfl)))) rfl
theorem ml_X10_242 : Cond.methodLink RX10 242 yX3_dots ∈ Tg := tg_in (List.mem_append_right _ (List.mem_append_right _ (List.mem_append_left _ (List.mem_of_getElem? (i := 164) rfl)))) rfl
theorem st_X3_dots : Cond.static yX3_dots ∈ Tg := tg_in (List.mem_append_right _ (List.mem_append_right _ (List.mem_append_left _ (List.mem_of_getElem? (i := 165) rfl)))) rfl
theorem co_X3_dots : Cond.code yX3_dots cX3_dots 1 (some .int) ∈ Tg := tg_in (List.mem_append_right _ (List.mem_append_right _ (List.mem_append_left _ (List.mem_of_getElem? (i := 166) rfl)))) rfl
theorem ml_L_105 : Cond.methodLink RL 105 yX10_ask ∈ Tg := tg_in (List.mem_append_right _ (List.mem_append_right _ (List.mem_append_left _ (List.mem_of_getElem? (i := 167) rfl)))) rfl
theorem im_X10_ask : Cond.instanceMethod yX10_ask ∈ Tg := tg_in (List.mem_append_right _ (List.mem_append_right _ (List.mem_append_left _ (List.mem_of_getElem? (i := 168) rfl)))) rfl
theorem se_X10_ask : Cond.selects RX10 yX10_ask yX10_ask ∈ Tg := tg_in (List.mem_append_right _ (List.mem_append_right _ (List.mem_append_left _ (List.mem_of_getElem? (i := 169) rfl)))) rfl
theorem co_X10_ask : Cond.code yX10_ask cX10_ask 3 (some .int) ∈ Tg := tg_in (List.mem_append_right _ (List.mem_append_right _ (List.mem_append_left _ (List.mem_of_getElem? (i := 170) rfl)))) rfl
theorem ml_X10_245 : Cond.methodLink RX10 245 yX0_emptyTrace ∈ Tg := tg_in (List.mem_append_right _ (List.mem_append_right _ (List.mem_append_left _ (List.mem_of_getElem? (i := 171) rfl)))) rfl
theorem im_X0_emptyTrace : Cond.instanceMethod yX0_emptyTrace ∈ Tg := tg_in (List.mem_append_right _ (List.mem_append_right _ (List.mem_append_left _ (List.mem_of_getElem? (i := 172) rfl)))) rfl
theorem se_X0_emptyTrace : Cond.selects RX0 yX0_emptyTrace yX0_emptyTrace ∈ Tg := tg_in (List.mem_append_right _ (List.mem_append_right _ (List.mem_append_left _ (List.mem_of_getElem? (i := 173) rfl)))) rfl
theorem co_X0_emptyTrace : Cond.code yX0_emptyTrace cX0_emptyTrace 1 none ∈ Tg := tg_in (List.mem_append_right _ (List.mem_append_right _ (List.mem_append_left _ (List.mem_of_getElem? (i := 174) rfl)))) rfl
theorem ml_X10_248 : Cond.methodLink RX10 248 yX0_sizeOf ∈ Tg := tg_in (List.mem_append_right _ (List.mem_append_right _ (List.mem_append_left _ (List.mem_of_getElem? (i := 175) rfl)))) rfl
theorem im_X0_sizeOf : Cond.instanceMethod yX0_sizeOf ∈ Tg := tg_in (List.mem_append_right _ (List.mem_append_right _ (List.mem_append_left _ (List.mem_of_getElem? (i := 176) rfl)))) rfl
theorem se_X0_sizeOf : Cond.selects RX0 yX0_sizeOf yX0_sizeOf ∈ Tg := tg_in (List.mem_append_right _ (List.mem_append_right _ (List.mem_append_left _ (List.mem_of_getElem? (i := 177) rfl)))) rfl
theorem co_X0_sizeOf : Cond.code yX0_sizeOf cX0_sizeOf 2 (some .int) ∈ Tg := tg_in (List.mem_append_right _ (List.mem_append_right _ (List.mem_append_left _ (List.mem_of_getElem? (i := 178) rfl)))) rfl
theorem ml_X0_20 : Cond.methodLink RX0 20 yX3_toldKind ∈ Tg := tg_in (List.mem_append_right _ (List.mem_append_right _ (List.mem_append_left _ (List.mem_of_getElem? (i := 179) rfl)))) rfl
theorem ml_X0_26 : Cond.methodLink RX0 26 yX0_fastSize ∈ Tg := tg_in (List.mem_append_right _ (List.mem_append_right _ (List.mem_append_left _ (List.mem_of_getElem? (i := 180) rfl)))) rfl
theorem im_X0_fastSize : Cond.instanceMethod yX0_fastSize ∈ Tg := tg_in (List.mem_append_right _ (List.mem_append_right _ (List.mem_append_left _ (List.mem_of_getElem? (i := 182) rfl)))) rfl
theorem co_X0_fastSize : Cond.code yX0_fastSize cX0_fastSize 2 (some .int) ∈ Tg := tg_in (List.mem_append_right _ (List.mem_append_right _ (List.mem_append_left _ (List.mem_of_getElem? (i := 183) rfl)))) rfl
theorem ml_X0_44 : Cond.methodLink RX0 44 yX0_begin ∈ Tg := tg_in (List.mem_append_right _ (List.mem_append_right _ (List.mem_append_left _ (List.mem_of_getElem? (i := 184) rfl)))) rfl
theorem im_X0_begin : Cond.instanceMethod yX0_begin ∈ Tg := tg_in (List.mem_append_right _ (List.mem_append_right _ (List.mem_append_left _ (List.mem_of_getElem? (i := 186) rfl)))) rfl
theorem co_X0_begin : Cond.code yX0_begin cX0_begin 2 none ∈ Tg := tg_in (List.mem_append_right _ (List.mem_append_right _ (List.mem_append_left _ (List.mem_of_getElem? (i := 187) rfl)))) rfl
theorem ml_X0_29 : Cond.methodLink RX0 29 yX0_evenSize ∈ Tg := tg_in (List.mem_append_right _ (List.mem_append_right _ (List.mem_append_left _ (List.mem_of_getElem? (i := 188) rfl)))) rfl
theorem im_X0_evenSize : Cond.instanceMethod yX0_evenSize ∈ Tg := tg_in (List.mem_append_right _ (List.mem_append_right _ (List.mem_append_left _ (List.mem_of_getElem? (i := 190) rfl)))) rfl
theorem co_X0_evenSize : Cond.code yX0_evenSize cX0_evenSize 2 (some .int) ∈ Tg := tg_in (List.mem_append_right _ (List.mem_append_right _ (List.mem_append_left _ (List.mem_of_getElem? (i := 191) rfl)))) rfl
theorem ml_X0_51 : Cond.methodLink RX0 51 yX0_lentSize ∈ Tg := tg_in (List.mem_append_right _ (List.mem_append_right _ (List.mem_append_left _ (List.mem_of_getElem? (i := 192) rfl)))) rfl
theorem im_X0_lentSize : Cond.instanceMethod yX0_lentSize ∈ Tg := tg_in (List.mem_append_right _ (List.mem_append_right _ (List.mem_append_left _ (List.mem_of_getElem? (i := 194) rfl)))) rfl
theorem co_X0_lentSize : Cond.code yX0_lentSize cX0_lentSize 2 (some .int) ∈ Tg := tg_in (List.mem_append_right _ (List.mem_append_right _ (List.mem_append_left _ (List.mem_of_getElem? (i := 195) rfl)))) rfl
theorem ml_X0_48 : Cond.methodLink RX0 48 yX3_dots ∈ Tg := tg_in (List.mem_append_right _ (List.mem_append_right _ (List.mem_append_left _ (List.mem_of_getElem? (i := 196) rfl)))) rfl
theorem ml_X0_35 : Cond.methodLink RX0 35 yX0_fastMark ∈ Tg := tg_in (List.mem_append_right _ (List.mem_append_right _ (List.mem_append_left _ (List.mem_of_getElem? (i := 197) rfl)))) rfl
theorem im_X0_fastMark : Cond.instanceMethod yX0_fastMark ∈ Tg := tg_in (List.mem_append_right _ (List.mem_append_right _ (List.mem_append_left _ (List.mem_of_getElem? (i := 199) rfl)))) rfl
theorem co_X0_fastMark : Cond.code yX0_fastMark cX0_fastMark 2 (some .int) ∈ Tg := tg_in (List.mem_append_right _ (List.mem_append_right _ (List.mem_append_left _ (List.mem_of_getElem? (i := 200) rfl)))) rfl
theorem ml_X0_38 : Cond.methodLink RX0 38 yX0_lentMark ∈ Tg := tg_in (List.mem_append_right _ (List.mem_append_right _ (List.mem_append_left _ (List.mem_of_getElem? (i := 201) rfl)))) rfl
theorem im_X0_lentMark : Cond.instanceMethod yX0_lentMark ∈ Tg := tg_in (List.mem_append_right _ (List.mem_append_right _ (List.mem_append_left _ (List.mem_of_getElem? (i := 203) rfl)))) rfl
theorem co_X0_lentMark : Cond.code yX0_lentMark cX0_lentMark 2 (some .int) ∈ Tg := tg_in (List.mem_append_right _ (List.mem_append_right _ (List.mem_append_left _ (List.mem_of_getElem? (i := 204) rfl)))) rfl
theorem ml_X0_32 : Cond.methodLink RX0 32 yX0_oddSize ∈ Tg := tg_in (List.mem_append_right _ (List.mem_append_right _ (List.mem_append_left _ (List.mem_of_getElem? (i := 205) rfl)))) rfl
theorem im_X0_oddSize : Cond.instanceMethod yX0_oddSize ∈ Tg := tg_in (List.mem_append_right _ (List.mem_append_right _ (List.mem_append_left _ (List.mem_of_getElem? (i := 207) rfl)))) rfl
theorem co_X0_oddSize : Cond.code yX0_oddSize cX0_oddSize 2 (some .int) ∈ Tg := tg_in (List.mem_append_right _ (List.mem_append_right _ (List.mem_append_left _ (List.mem_of_getElem? (i := 208) rfl)))) rfl
theorem ml_X10_251 : Cond.methodLink RX10 251 yX0_markOf ∈ Tg := tg_in (List.mem_append_right _ (List.mem_append_right _ (List.mem_append_left _ (List.mem_of_getElem? (i := 209) rfl)))) rfl
theorem im_X0_markOf : Cond.instanceMethod yX0_markOf ∈ Tg := tg_in (List.mem_append_right _ (List.mem_append_right _ (List.mem_append_left _ (List.mem_of_getElem? (i := 210) rfl)))) rfl
theorem se_X0_markOf : Cond.selects RX0 yX0_markOf yX0_markOf ∈ Tg := tg_in (List.mem_append_right _ (List.mem_append_right _ (List.mem_append_left _ (List.mem_of_getElem? (i := 211) rfl)))) rfl
theorem co_X0_markOf : Cond.code yX0_markOf cX0_markOf 2 (some .int) ∈ Tg := tg_in (List.mem_append_right _ (List.mem_append_right _ (List.mem_append_left _ (List.mem_of_getElem? (i := 212) rfl)))) rfl
theorem ml_X0_41 : Cond.methodLink RX0 41 yX0_oddMark ∈ Tg := tg_in (List.mem_append_right _ (List.mem_append_right _ (List.mem_append_left _ (List.mem_of_getElem? (i := 213) rfl)))) rfl
theorem im_X0_oddMark : Cond.instanceMethod yX0_oddMark ∈ Tg := tg_in (List.mem_append_right _ (List.mem_append_right _ (List.mem_append_left _ (List.mem_of_getElem? (i := 215) rfl)))) rfl
theorem co_X0_oddMark : Cond.code yX0_oddMark cX0_oddMark 2 (some .int) ∈ Tg := tg_in (List.mem_append_right _ (List.mem_append_right _ (List.mem_append_left _ (List.mem_of_getElem? (i := 216) rfl)))) rfl
theorem ml_L_109 : Cond.methodLink RL 109 yX10_trace ∈ Tg := tg_in (List.mem_append_right _ (List.mem_append_right _ (List.mem_append_left _ (List.mem_of_getElem? (i := 217) rfl)))) rfl
theorem im_X10_trace : Cond.instanceMethod yX10_trace ∈ Tg := tg_in (List.mem_append_right _ (List.mem_append_right _ (List.mem_append_left _ (List.mem_of_getElem? (i := 218) rfl)))) rfl
theorem se_X10_trace : Cond.selects RX10 yX10_trace yX10_trace ∈ Tg := tg_in (List.mem_append_right _ (List.mem_append_right _ (List.mem_append_left _ (List.mem_of_getElem? (i := 219) rfl)))) rfl
theorem co_X10_trace : Cond.code yX10_trace cX10_trace 2 (some .int) ∈ Tg := tg_in (List.mem_append_right _ (List.mem_append_right _ (List.mem_append_left _ (List.mem_of_getElem? (i := 220) rfl)))) rfl
theorem ml_X10_254 : Cond.methodLink RX10 254 yX0_traced ∈ Tg := tg_in (List.mem_append_right _ (List.mem_append_right _ (List.mem_append_left _ (List.mem_of_getElem? (i := 221) rfl)))) rfl
theorem im_X0_traced : Cond.instanceMethod yX0_traced ∈ Tg := tg_in (List.mem_append_right _ (List.mem_append_right _ (List.mem_append_left _ (List.mem_of_getElem? (i := 222) rfl)))) rfl
theorem se_X0_traced : Cond.selects RX0 yX0_traced yX0_traced ∈ Tg := tg_in (List.mem_append_right _ (List.mem_append_right _ (List.mem_append_left _ (List.mem_of_getElem? (i := 223) rfl)))) rfl
theorem co_X0_traced : Cond.code yX0_traced cX0_traced 2 (some .int) ∈ Tg := tg_in (List.mem_append_right _ (List.mem_append_right _ (List.mem_append_left _ (List.mem_of_getElem? (i := 224) rfl)))) rfl
theorem cn_X0_19 : Cond.constant RX0 19 (-1000000) ∈ Tg := tg_in (List.mem_append_right _ (List.mem_append_right _ (List.mem_append_left _ (List.mem_of_getElem? (i := 225) rfl)))) rfl
theorem ml_L_113 : Cond.methodLink RL 113 yX10_count ∈ Tg := tg_in (List.mem_append_right _ (List.mem_append_right _ (List.mem_append_left _ (List.mem_of_getElem? (i := 226) rfl)))) rfl
theorem im_X10_count : Cond.instanceMethod yX10_count ∈ Tg := tg_in (List.mem_append_right _ (List.mem_append_right _ (List.mem_append_left _ (List.mem_of_getElem? (i := 227) rfl)))) rfl
theorem se_X10_count : Cond.selects RX10 yX10_count yX10_count ∈ Tg := tg_in (List.mem_append_right _ (List.mem_append_right _ (List.mem_append_left _ (List.mem_of_getElem? (i := 228) rfl)))) rfl
theorem co_X10_count : Cond.code yX10_count cX10_count 2 (some .int) ∈ Tg := tg_in (List.mem_append_right _ (List.mem_append_right _ (List.mem_append_left _ (List.mem_of_getElem? (i := 229) rfl)))) rfl
theorem ml_X10_257 : Cond.methodLink RX10 257 yX10_sheetsThere ∈ Tg := tg_in (List.mem_append_right _ (List.mem_append_right _ (List.mem_append_left _ (List.mem_of_getElem? (i := 230) rfl)))) rfl
theorem im_X10_sheetsThere : Cond.instanceMethod yX10_sheetsThere ∈ Tg := tg_in (List.mem_append_right _ (List.mem_append_right _ (List.mem_append_left _ (List.mem_of_getElem? (i := 232) rfl)))) rfl
theorem co_X10_sheetsThere : Cond.code yX10_sheetsThere cX10_sheetsThere 3 (some .int) ∈ Tg := tg_in (List.mem_append_right _ (List.mem_append_right _ (List.mem_append_left _ (List.mem_of_getElem? (i := 233) rfl)))) rfl
theorem ml_X10_260 : Cond.methodLink RX10 260 yX1_casesKnown ∈ Tg := tg_in (List.mem_append_right _ (List.mem_append_right _ (List.mem_append_left _ (List.mem_of_getElem? (i := 234) rfl)))) rfl
theorem ml_X10_263 : Cond.methodLink RX10 263 yX1_casesYes ∈ Tg := tg_in (List.mem_append_right _ (List.mem_append_right _ (List.mem_append_left _ (List.mem_of_getElem? (i := 235) rfl)))) rfl
theorem ml_L_117 : Cond.methodLink RL 117 yX10_status ∈ Tg := tg_in (List.mem_append_right _ (List.mem_append_right _ (List.mem_append_left _ (List.mem_of_getElem? (i := 236) rfl)))) rfl
theorem im_X10_status : Cond.instanceMethod yX10_status ∈ Tg := tg_in (List.mem_append_right _ (List.mem_append_right _ (List.mem_append_left _ (List.mem_of_getElem? (i := 237) rfl)))) rfl
theorem se_X10_status : Cond.selects RX10 yX10_status yX10_status ∈ Tg := tg_in (List.mem_append_right _ (List.mem_append_right _ (List.mem_append_left _ (List.mem_of_getElem? (i := 238) rfl)))) rfl
theorem co_X10_status : Cond.code yX10_status cX10_status 1 (some .int) ∈ Tg := tg_in (List.mem_append_right _ (List.mem_append_right _ (List.mem_append_left _ (List.mem_of_getElem? (i := 239) rfl)))) rfl
theorem kl_L_10 : Cond.classLink RL 10 RX11 ∈ Tg := tg_in (List.mem_append_right _ (List.mem_append_right _ (List.mem_append_right _ (List.mem_append_left _ (List.mem_of_getElem? (i := 0) rfl))))) rfl
theorem ib_X11 : Cond.instantiable RX11 30 ∈ Tg := tg_in (List.mem_append_right _ (List.mem_append_right _ (List.mem_append_right _ (List.mem_append_left _ (List.mem_of_getElem? (i := 1) rfl))))) rfl
theorem ml_L_12 : Cond.methodLink RL 12 yX11_init ∈ Tg := tg_in (List.mem_append_right _ (List.mem_append_right _ (List.mem_append_right _ (List.mem_append_left _ (List.mem_of_getElem? (i := 2) rfl))))) rfl
theorem im_X11_init : Cond.instanceMethod yX11_init ∈ Tg := tg_in (List.mem_append_right _ (List.mem_append_right _ (List.mem_append_right _ (List.mem_append_left _ (List.mem_of_getElem? (i := 3) rfl))))) rfl
theorem co_X11_init : Cond.code yX11_init cX11_init 1 none ∈ Tg := tg_in (List.mem_append_right _ (List.mem_append_right _ (List.mem_append_right _ (List.mem_append_left _ (List.mem_of_getElem? (i := 4) rfl))))) rfl
theorem ml_X11_1 : Cond.methodLink RX11 1 objectInit ∈ Tg := tg_in (List.mem_append_right _ (List.mem_append_right _ (List.mem_append_right _ (List.mem_append_left _ (List.mem_of_getElem? (i := 5) rfl))))) rfl
theorem fl_X11_52 : Cond.fieldLink RX11 52 RX11 "thrown" "I" ∈ Tg := tg_in (List.mem_append_right _ (List.mem_append_right _ (List.mem_append_right _ (List.mem_append_left _ (List.mem_of_getElem? (i := 6) rfl))))) rfl
theorem fl_X11_56 : Cond.fieldLink RX11 56 RX11 "status" "I" ∈ Tg := tg_in (List.mem_append_right _ (List.mem_append_right _ (List.mem_append_right _ (List.mem_append_left _ (List.mem_of_getElem? (i := 7) rfl))))) rfl
theorem fl_X11_7 : Cond.fieldLink RX11 7 RX11 "lane" "[I" ∈ Tg := tg_in (List.mem_append_right _ (List.mem_append_right _ (List.mem_append_right _ (List.mem_append_left _ (List.mem_of_getElem? (i := 8) rfl))))) rfl
theorem fl_X11_13 : Cond.fieldLink RX11 13 RX11 "many" "[I" ∈ Tg := tg_in (List.mem_append_right _ (List.mem_append_right _ (List.mem_append_right _ (List.mem_append_left _ (List.mem_of_getElem? (i := 9) rfl))))) rfl
theorem fl_X11_16 : Cond.fieldLink RX11 16 RX11 "item" "[I" ∈ Tg := tg_in (List.mem_append_right _ (List.mem_append_right _ (List.mem_append_right _ (List.mem_append_left _ (List.mem_of_getElem? (i := 10) rfl))))) rfl
theorem fl_X11_81 : Cond.fieldLink RX11 81 RX11 "code" "I" ∈ Tg := tg_in (List.mem_append_right _ (List.mem_append_right _ (List.mem_append_right _ (List.mem_append_left _ (List.mem_of_getElem? (i := 11) rfl))))) rfl
theorem fl_X11_19 : Cond.fieldLink RX11 19 RX11 "place" "[I" ∈ Tg := tg_in (List.mem_append_right _ (List.mem_append_right _ (List.mem_append_right _ (List.mem_append_left _ (List.mem_of_getElem? (i := 12) rfl))))) rfl
theorem fl_X11_189 : Cond.fieldLink RX11 189 RX11 "rules" "I" ∈ Tg := tg_in (List.mem_append_right _ (List.mem_append_right _ (List.mem_append_right _ (List.mem_append_left _ (List.mem_of_getElem? (i := 13) rfl))))) rfl
theorem fl_X11_22 : Cond.fieldLink RX11 22 RX11 "tests" "[I" ∈ Tg := tg_in (List.mem_append_right _ (List.mem_append_right _ (List.mem_append_right _ (List.mem_append_left _ (List.mem_of_getElem? (i := 14) rfl))))) rfl
theorem fl_X11_25 : Cond.fieldLink RX11 25 RX11 "test" "[I" ∈ Tg := tg_in (List.mem_append_right _ (List.mem_append_right _ (List.mem_append_right _ (List.mem_append_left _ (List.mem_of_getElem? (i := 15) rfl))))) rfl
theorem fl_X11_28 : Cond.fieldLink RX11 28 RX11 "says" "[I" ∈ Tg := tg_in (List.mem_append_right _ (List.mem_append_right _ (List.mem_append_right _ (List.mem_append_left _ (List.mem_of_getElem? (i := 16) rfl))))) rfl
theorem fl_X11_153 : Cond.fieldLink RX11 153 RX11 "read" "I" ∈ Tg := tg_in (List.mem_append_right _ (List.mem_append_right _ (List.mem_append_right _ (List.mem_append_left _ (List.mem_of_getElem? (i := 17) rfl))))) rfl
theorem fl_X11_31 : Cond.fieldLink RX11 31 RX11 "readTests" "[I" ∈ Tg := tg_in (List.mem_append_right _ (List.mem_append_right _ (List.mem_append_right _ (List.mem_append_left _ (List.mem_of_getElem? (i := 18) rfl))))) rfl
theorem fl_X11_34 : Cond.fieldLink RX11 34 RX11 "readTest" "[I" ∈ Tg := tg_in (List.mem_append_right _ (List.mem_append_right _ (List.mem_append_right _ (List.mem_append_left _ (List.mem_of_getElem? (i := 19) rfl))))) rfl
theorem fl_X11_37 : Cond.fieldLink RX11 37 RX11 "readSays" "[I" ∈ Tg := tg_in (List.mem_append_right _ (List.mem_append_right _ (List.mem_append_right _ (List.mem_append_left _ (List.mem_of_getElem? (i := 20) rfl))))) rfl
theorem fl_X11_40 : Cond.fieldLink RX11 40 RX11 "tape" "[I" ∈ Tg := tg_in (List.mem_append_right _ (List.mem_append_right _ (List.mem_append_right _ (List.mem_append_left _ (List.mem_of_getElem? (i := 21) rfl))))) rfl
theorem fl_X11_107 : Cond.fieldLink RX11 107 RX11 "taped" "I" ∈ Tg := tg_in (List.mem_append_right _ (List.mem_append_right _ (List.mem_append_right _ (List.mem_append_left _ (List.mem_of_getElem? (i := 22) rfl))))) rfl
theorem fl_X11_185 : Cond.fieldLink RX11 185 RX11 "latest" "I" ∈ Tg := tg_in (List.mem_append_right _ (List.mem_append_right _ (List.mem_append_right _ (List.mem_append_left _ (List.mem_of_getElem? (i := 23) rfl))))) rfl
theorem fl_X11_113 : Cond.fieldLink RX11 113 RX11 "size" "I" ∈ Tg := tg_in (List.mem_append_right _ (List.mem_append_right _ (List.mem_append_right _ (List.mem_append_left _ (List.mem_of_getElem? (i := 24) rfl))))) rfl
theorem fl_X11_116 : Cond.fieldLink RX11 116 RX11 "cursor" "I" ∈ Tg := tg_in (List.mem_append_right _ (List.mem_append_right _ (List.mem_append_right _ (List.mem_append_left _ (List.mem_of_getElem? (i := 25) rfl))))) rfl
theorem fl_X11_125 : Cond.fieldLink RX11 125 RX11 "sort" "I" ∈ Tg := tg_in (List.mem_append_right _ (List.mem_append_right _ (List.mem_append_right _ (List.mem_append_left _ (List.mem_of_getElem? (i := 26) rfl))))) rfl
theorem fl_X11_122 : Cond.fieldLink RX11 122 RX11 "from" "I" ∈ Tg := tg_in (List.mem_append_right _ (List.mem_append_right _ (List.mem_append_right _ (List.mem_append_left _ (List.mem_of_getElem? (i := 27) rfl))))) rfl
theorem fl_X11_134 : Cond.fieldLink RX11 134 RX11 "till" "I" ∈ Tg := tg_in (List.mem_append_right _ (List.mem_append_right _ (List.mem_append_right _ (List.mem_append_left _ (List.mem_of_getElem? (i := 28) rfl))))) rfl
theorem fl_X11_137 : Cond.fieldLink RX11 137 RX11 "fault" "I" ∈ Tg := tg_in (List.mem_append_right _ (List.mem_append_right _ (List.mem_append_right _ (List.mem_append_left _ (List.mem_of_getElem? (i := 29) rfl))))) rfl
theorem fl_X11_140 : Cond.fieldLink RX11 140 RX11 "faultAt" "I" ∈ Tg := tg_in (List.mem_append_right _ (List.mem_append_right _ (List.mem_append_right _ (List.mem_append_left _ (List.mem_of_getElem? (i := 30) rfl))))) rfl
theorem fl_X11_198 : Cond.fieldLink RX11 198 RX11 "cases" "I" ∈ Tg := tg_in (List.mem_append_right _ (List.mem_append_right _ (List.mem_append_right _ (List.mem_append_left _ (List.mem_of_getElem? (i := 31) rfl))))) rfl
theorem fl_X11_43 : Cond.fieldLink RX11 43 RX11 "caseCode" "[I" ∈ Tg := tg_in (List.mem_append_right _ (List.mem_append_right _ (List.mem_append_right _ (List.mem_append_left _ (List.mem_of_getElem? (i := 32) rfl))))) rfl
theorem fl_X11_46 : Cond.fieldLink RX11 46 RX11 "caseCame" "[I" ∈ Tg := tg_in (List.mem_append_right _ (List.mem_append_right _ (List.mem_append_right _ (List.mem_append_left _ (List.mem_of_getElem? (i := 33) rfl))))) rfl
theorem fl_X11_49 : Cond.fieldLink RX11 49 RX11 "trace" "[I" ∈ Tg := tg_in (List.mem_append_right _ (List.mem_append_right _ (List.mem_append_right _ (List.mem_append_left _ (List.mem_of_getElem? (i := 34) rfl))))) rfl
theorem fl_X11_215 : Cond.fieldLink RX11 215 RX11 "traced" "I" ∈ Tg := tg_in (List.mem_append_right _ (List.mem_append_right _ (List.mem_append_right _ (List.mem_append_left _ (List.mem_of_getElem? (i := 35) rfl))))) rfl
theorem ml_L_17 : Cond.methodLink RL 17 yX11_sheet ∈ Tg := tg_in (List.mem_append_right _ (List.mem_append_right _ (List.mem_append_right _ (List.mem_append_left _ (List.mem_of_getElem? (i := 97) rfl))))) rfl
theorem im_X11_sheet : Cond.instanceMethod yX11_sheet ∈ Tg := tg_in (List.mem_append_right _ (List.mem_append_right _ (List.mem_append_right _ (List.mem_append_left _ (List.mem_of_getElem? (i := 98) rfl))))) rfl
theorem se_X11_sheet : Cond.selects RX11 yX11_sheet yX11_sheet ∈ Tg := tg_in (List.mem_append_right _ (List.mem_append_right _ (List.mem_append_right _ (List.mem_append_left _ (List.mem_of_getElem? (i := 99) rfl))))) rfl
theorem co_X11_sheet : Cond.code yX11_sheet cX11_sheet 5 (some .int) ∈ Tg := tg_in (List.mem_append_right _ (List.mem_append_right _ (List.mem_append_right _ (List.mem_append_left _ (List.mem_of_getElem? (i := 100) rfl))))) rfl
theorem ml_X11_66 : Cond.methodLink RX11 66 yX11_isSheet ∈ Tg := tg_in (List.mem_append_right _ (List.mem_append_right _ (List.mem_append_right _ (List.mem_append_left _ (List.mem_of_getElem? (i := 101) rfl))))) rfl
theorem st_X11_isSheet : Cond.static yX11_isSheet ∈ Tg := tg_in (List.mem_append_right _ (List.mem_append_right _ (List.mem_append_right _ (List.mem_append_left _ (List.mem_of_getElem? (i := 102) rfl))))) rfl
theorem co_X11_isSheet : Cond.code yX11_isSheet cX11_isSheet 1 (some .boolean) ∈ Tg := tg_in (List.mem_append_right _ (List.mem_append_right _ (List.mem_append_right _ (List.mem_append_left _ (List.mem_of_getElem? (i := 103) rfl))))) rfl
theorem cn_X11_60 : Cond.constantLong RX11 60 (7) ∈ Tg := tg_in (List.mem_append_right _ (List.mem_append_right _ (List.mem_append_right _ (List.mem_append_left _ (List.mem_of_getElem? (i := 104) rfl))))) rfl
theorem ml_X11_62 : Cond.methodLink RX11 62 yX11_in ∈ Tg := tg_in (List.mem_append_right _ (List.mem_append_right _ (List.mem_append_right _ (List.mem_append_left _ (List.mem_of_getElem? (i := 105) rfl))))) rfl
theorem st_X11_in : Cond.static yX11_in ∈ Tg := tg_in (List.mem_append_right _ (List.mem_append_right _ (List.mem_append_right _ (List.mem_append_left _ (List.mem_of_getElem? (i := 106) rfl))))) rfl
theorem co_X11_in : Cond.code yX11_in cX11_in 6 (some .boolean) ∈ Tg := tg_in (List.mem_append_right _ (List.mem_append_right _ (List.mem_append_right _ (List.mem_append_left _ (List.mem_of_getElem? (i := 107) rfl))))) rfl
theorem cn_X11_70 : Cond.constantLong RX11 70 (2) ∈ Tg := tg_in (List.mem_append_right _ (List.mem_append_right _ (List.mem_append_right _ (List.mem_append_left _ (List.mem_of_getElem? (i := 108) rfl))))) rfl
theorem cn_X11_72 : Cond.constant RX11 72 (-1000001) ∈ Tg := tg_in (List.mem_append_right _ (List.mem_append_right _ (List.mem_append_right _ (List.mem_append_left _ (List.mem_of_getElem? (i := 109) rfl))))) rfl
theorem ml_X11_73 : Cond.methodLink RX11 73 yX11_found ∈ Tg := tg_in (List.mem_append_right _ (List.mem_append_right _ (List.mem_append_right _ (List.mem_append_left _ (List.mem_of_getElem? (i := 110) rfl))))) rfl
theorem im_X11_found : Cond.instanceMethod yX11_found ∈ Tg := tg_in (List.mem_append_right _ (List.mem_append_right _ (List.mem_append_right _ (List.mem_append_left _ (List.mem_of_getElem? (i := 112) rfl))))) rfl
theorem co_X11_found : Cond.code yX11_found cX11_found 2 (some .int) ∈ Tg := tg_in (List.mem_append_right _ (List.mem_append_right _ (List.mem_append_right _ (List.mem_append_left _ (List.mem_of_getElem? (i := 113) rfl))))) rfl
theorem cn_X11_59 : Cond.constant RX11 59 (-1000010) ∈ Tg := tg_in (List.mem_append_right _ (List.mem_append_right _ (List.mem_append_right _ (List.mem_append_left _ (List.mem_of_getElem? (i := 114) rfl))))) rfl
theorem ml_L_21 : Cond.methodLink RL 21 yX11_set ∈ Tg := tg_in (List.mem_append_right _ (List.mem_append_right _ (List.mem_append_right _ (List.mem_append_left _ (List.mem_of_getElem? (i := 115) rfl))))) rfl
theorem im_X11_set : Cond.instanceMethod yX11_set ∈ Tg := tg_in (List.mem_append_right _ (List.mem_append_right _ (List.mem_append_right _ (List.mem_append_left _ (List.mem_of_getElem? (i := 116) rfl))))) rfl
theorem se_X11_set : Cond.selects RX11 yX11_set yX11_set ∈ Tg := tg_in (List.mem_append_right _ (List.mem_append_right _ (List.mem_append_right _ (List.mem_append_left _ (List.mem_of_getElem? (i := 117) rfl))))) rfl
theorem co_X11_set : Cond.code yX11_set cX11_set 4 (some .int) ∈ Tg := tg_in (List.mem_append_right _ (List.mem_append_right _ (List.mem_append_right _ (List.mem_append_left _ (List.mem_of_getElem? (i := 118) rfl))))) rfl
theorem ml_L_26 : Cond.methodLink RL 26 yX11_copy ∈ Tg := tg_in (List.mem_append_right _ (List.mem_append_right _ (List.mem_append_right _ (List.mem_append_left _ (List.mem_of_getElem? (i := 119) rfl))))) rfl
theorem im_X11_copy : Cond.instanceMethod yX11_copy ∈ Tg := tg_in (List.mem_append_right _ (List.mem_append_right _ (List.mem_append_right _ (List.mem_append_left _ (List.mem_of_getElem? (i := 120) rfl))))) rfl
theorem se_X11_copy : Cond.selects RX11 yX11_copy yX11_copy ∈ Tg := tg_in (List.mem_append_right _ (List.mem_append_right _ (List.mem_append_right _ (List.mem_append_left _ (List.mem_of_getElem? (i := 121) rfl))))) rfl
theorem co_X11_copy : Cond.code yX11_copy cX11_copy 9 (some .int) ∈ Tg := tg_in (List.mem_append_right _ (List.mem_append_right _ (List.mem_append_right _ (List.mem_append_left _ (List.mem_of_getElem? (i := 122) rfl))))) rfl
theorem ml_L_31 : Cond.methodLink RL 31 yX11_drop ∈ Tg := tg_in (List.mem_append_right _ (List.mem_append_right _ (List.mem_append_right _ (List.mem_append_left _ (List.mem_of_getElem? (i := 123) rfl))))) rfl
theorem im_X11_drop : Cond.instanceMethod yX11_drop ∈ Tg := tg_in (List.mem_append_right _ (List.mem_append_right _ (List.mem_append_right _ (List.mem_append_left _ (List.mem_of_getElem? (i := 124) rfl))))) rfl
theorem se_X11_drop : Cond.selects RX11 yX11_drop yX11_drop ∈ Tg := tg_in (List.mem_append_right _ (List.mem_append_right _ (List.mem_append_right _ (List.mem_append_left _ (List.mem_of_getElem? (i := 125) rfl))))) rfl
theorem co_X11_drop : Cond.code yX11_drop cX11_drop 2 (some .int) ∈ Tg := tg_in (List.mem_append_right _ (List.mem_append_right _ (List.mem_append_right _ (List.mem_append_left _ (List.mem_of_getElem? (i := 126) rfl))))) rfl
theorem ml_L_36 : Cond.methodLink RL 36 yX11_cast ∈ Tg := tg_in (List.mem_append_right _ (List.mem_append_right _ (List.mem_append_right _ (List.mem_append_left _ (List.mem_of_getElem? (i := 127) rfl))))) rfl
theorem im_X11_cast : Cond.instanceMethod yX11_cast ∈ Tg := tg_in (List.mem_append_right _ (List.mem_append_right _ (List.mem_append_right _ (List.mem_append_left _ (List.mem_of_getElem? (i := 128) rfl))))) rfl
theorem se_X11_cast : Cond.selects RX11 yX11_cast yX11_cast ∈ Tg := tg_in (List.mem_append_right _ (List.mem_append_right _ (List.mem_append_right _ (List.mem_append_left _ (List.mem_of_getElem? (i := 129) rfl))))) rfl
theorem co_X11_cast : Cond.code yX11_cast cX11_cast 6 (some .int) ∈ Tg := tg_in (List.mem_append_right _ (List.mem_append_right _ (List.mem_append_right _ (List.mem_append_left _ (List.mem_of_getElem? (i := 130) rfl))))) rfl
theorem cn_X11_79 : Cond.constantLong RX11 79 (16) ∈ Tg := tg_in (List.mem_append_right _ (List.mem_append_right _ (List.mem_append_right _ (List.mem_append_left _ (List.mem_of_getElem? (i := 131) rfl))))) rfl
theorem ml_L_40 : Cond.methodLink RL 40 yX11_chart ∈ Tg := tg_in (List.mem_append_right _ (List.mem_append_right _ (List.mem_append_right _ (List.mem_append_left _ (List.mem_of_getElem? (i := 132) rfl))))) rfl
theorem im_X11_chart : Cond.instanceMethod yX11_chart ∈ Tg := tg_in (List.mem_append_right _ (List.mem_append_right _ (List.mem_append_right _ (List.mem_append_left _ (List.mem_of_getElem? (i := 133) rfl))))) rfl
theorem se_X11_chart : Cond.selects RX11 yX11_chart yX11_chart ∈ Tg := tg_in (List.mem_append_right _ (List.mem_append_right _ (List.mem_append_right _ (List.mem_append_left _ (List.mem_of_getElem? (i := 134) rfl))))) rfl
theorem co_X11_chart : Cond.code yX11_chart cX11_chart 3 (some .int) ∈ Tg := tg_in (List.mem_append_right _ (List.mem_append_right _ (List.mem_append_right _ (List.mem_append_left _ (List.mem_of_getElem? (i := 135) rfl))))) rfl
theorem cn_X11_84 : Cond.constantLong RX11 84 (65535) ∈ Tg := tg_in (List.mem_append_right _ (List.mem_append_right _ (List.mem_append_right _ (List.mem_append_left _ (List.mem_of_getElem? (i := 136) rfl))))) rfl
theorem ml_L_44 : Cond.methodLink RL 44 yX11_at ∈ Tg := tg_in (List.mem_append_right _ (List.mem_append_right _ (List.mem_append_right _ (List.mem_append_left _ (List.mem_of_getElem? (i := 137) rfl))))) rfl
theorem im_X11_at : Cond.instanceMethod yX11_at ∈ Tg := tg_in (List.mem_append_right _ (List.mem_append_right _ (List.mem_append_right _ (List.mem_append_left _ (List.mem_of_getElem? (i := 138) rfl))))) rfl
theorem se_X11_at : Cond.selects RX11 yX11_at yX11_at ∈ Tg := tg_in (List.mem_append_right _ (List.mem_append_right _ (List.mem_append_right _ (List.mem_append_left _ (List.mem_of_getElem? (i := 139) rfl))))) rfl
theorem co_X11_at : Cond.code yX11_at cX11_at 2 (some .int) ∈ Tg := tg_in (List.mem_append_right _ (List.mem_append_right _ (List.mem_append_right _ (List.mem_append_left _ (List.mem_of_getElem? (i := 140) rfl))))) rfl
theorem ml_X11_86 : Cond.methodLink RX11 86 yX11_lay ∈ Tg := tg_in (List.mem_append_right _ (List.mem_append_right _ (List.mem_append_right _ (List.mem_append_left _ (List.mem_of_getElem? (i := 141) rfl))))) rfl
theorem im_X11_lay : Cond.instanceMethod yX11_lay ∈ Tg := tg_in (List.mem_append_right _ (List.mem_append_right _ (List.mem_append_right _ (List.mem_append_left _ (List.mem_of_getElem? (i := 143) rfl))))) rfl
theorem co_X11_lay : Cond.code yX11_lay cX11_lay 4 none ∈ Tg := tg_in (List.mem_append_right _ (List.mem_append_right _ (List.mem_append_right _ (List.mem_append_left _ (List.mem_of_getElem? (i := 144) rfl))))) rfl
theorem ml_X11_90 : Cond.methodLink RX11 90 yX11_isFigure16 ∈ Tg := tg_in (List.mem_append_right _ (List.mem_append_right _ (List.mem_append_right _ (List.mem_append_left _ (List.mem_of_getElem? (i := 145) rfl))))) rfl
theorem st_X11_isFigure16 : Cond.static yX11_isFigure16 ∈ Tg := tg_in (List.mem_append_right _ (List.mem_append_right _ (List.mem_append_right _ (List.mem_append_left _ (List.mem_of_getElem? (i := 146) rfl))))) rfl
theorem co_X11_isFigure16 : Cond.code yX11_isFigure16 cX11_isFigure16 1 (some .boolean) ∈ Tg := tg_in (List.mem_append_right _ (List.mem_append_right _ (List.mem_append_right _ (List.mem_append_left _ (List.mem_of_getElem? (i := 147) rfl))))) rfl
theorem cn_X11_77 : Cond.constantLong RX11 77 (15) ∈ Tg := tg_in (List.mem_append_right _ (List.mem_append_right _ (List.mem_append_right _ (List.mem_append_left _ (List.mem_of_getElem? (i := 148) rfl))))) rfl
theorem ml_L_48 : Cond.methodLink RL 48 yX11_add ∈ Tg := tg_in (List.mem_append_right _ (List.mem_append_right _ (List.mem_append_right _ (List.mem_append_left _ (List.mem_of_getElem? (i := 149) rfl))))) rfl
theorem im_X11_add : Cond.instanceMethod yX11_add ∈ Tg := tg_in (List.mem_append_right _ (List.mem_append_right _ (List.mem_append_right _ (List.mem_append_left _ (List.mem_of_getElem? (i := 150) rfl))))) rfl
theorem se_X11_add : Cond.selects RX11 yX11_add yX11_add ∈ Tg := tg_in (List.mem_append_right _ (List.mem_append_right _ (List.mem_append_right _ (List.mem_append_left _ (List.mem_of_getElem? (i := 151) rfl))))) rfl
theorem co_X11_add : Cond.code yX11_add cX11_add 3 (some .int) ∈ Tg := tg_in (List.mem_append_right _ (List.mem_append_right _ (List.mem_append_right _ (List.mem_append_left _ (List.mem_of_getElem? (i := 152) rfl))))) rfl
theorem ml_L_52 : Cond.methodLink RL 52 yX11_seen ∈ Tg := tg_in (List.mem_append_right _ (List.mem_append_right _ (List.mem_append_right _ (List.mem_append_left _ (List.mem_of_getElem? (i := 153) rfl))))) rfl
theorem im_X11_seen : Cond.instanceMethod yX11_seen ∈ Tg := tg_in (List.mem_append_right _ (List.mem_append_right _ (List.mem_append_right _ (List.mem_append_left _ (List.mem_of_getElem? (i := 154) rfl))))) rfl
theorem se_X11_seen : Cond.selects RX11 yX11_seen yX11_seen ∈ Tg := tg_in (List.mem_append_right _ (List.mem_append_right _ (List.mem_append_right _ (List.mem_append_left _ (List.mem_of_getElem? (i := 155) rfl))))) rfl
theorem co_X11_seen : Cond.code yX11_seen cX11_seen 4 (some .int) ∈ Tg := tg_in (List.mem_append_right _ (List.mem_append_right _ (List.mem_append_right _ (List.mem_append_left _ (List.mem_of_getElem? (i := 156) rfl))))) rfl
theorem ml_L_57 : Cond.methodLink RL 57 yX11_point ∈ Tg := tg_in (List.mem_append_right _ (List.mem_append_right _ (List.mem_append_right _ (List.mem_append_left _ (List.mem_of_getElem? (i := 157) rfl))))) rfl
theorem im_X11_point : Cond.instanceMethod yX11_point ∈ Tg := tg_in (List.mem_append_right _ (List.mem_append_right _ (List.mem_append_right _ (List.mem_append_left _ (List.mem_of_getElem? (i := 158) rfl))))) rfl
theorem se_X11_point : Cond.selects RX11 yX11_point yX11_point ∈ Tg := tg_in (List.mem_append_right _ (List.mem_append_right _ (List.mem_append_right _ (List.mem_append_left _ (List.mem_of_getElem? (i := 159) rfl))))) rfl
theorem co_X11_point : Cond.code yX11_point cX11_point 7 (some .int) ∈ Tg := tg_in (List.mem_append_right _ (List.mem_append_right _ (List.mem_append_right _ (List.mem_append_left _ (List.mem_of_getElem? (i := 160) rfl))))) rfl
theorem ml_X11_93 : Cond.methodLink RX11 93 yX11_above ∈ Tg := tg_in (List.mem_append_right _ (List.mem_append_right _ (List.mem_append_right _ (List.mem_append_left _ (List.mem_of_getElem? (i := 161) rfl))))) rfl
theorem st_X11_above : Cond.static yX11_above ∈ Tg := tg_in (List.mem_append_right _ (List.mem_append_right _ (List.mem_append_right _ (List.mem_append_left _ (List.mem_of_getElem? (i := 162) rfl))))) rfl
theorem co_X11_above : Cond.code yX11_above cX11_above 1 (some .int) ∈ Tg := tg_in (List.mem_append_right _ (List.mem_append_right _ (List.mem_append_right _ (List.mem_append_left _ (List.mem_of_getElem? (i := 163) rfl))))) rfl
theorem ml_L_61 : Cond.methodLink RL 61 yX11_drawing ∈ Tg := tg_in (List.mem_append_right _ (List.mem_append_right _ (List.mem_append_right _ (List.mem_append_left _ (List.mem_of_getElem? (i := 164) rfl))))) rfl
theorem im_X11_drawing : Cond.instanceMethod yX11_drawing ∈ Tg := tg_in (List.mem_append_right _ (List.mem_append_right _ (List.mem_append_right _ (List.mem_append_left _ (List.mem_of_getElem? (i := 165) rfl))))) rfl
theorem se_X11_drawing : Cond.selects RX11 yX11_drawing yX11_drawing ∈ Tg := tg_in (List.mem_append_right _ (List.mem_append_right _ (List.mem_append_right _ (List.mem_append_left _ (List.mem_of_getElem? (i := 166) rfl))))) rfl
theorem co_X11_drawing : Cond.code yX11_drawing cX11_drawing 14 (some .int) ∈ Tg := tg_in (List.mem_append_right _ (List.mem_append_right _ (List.mem_append_right _ (List.mem_append_left _ (List.mem_of_getElem? (i := 167) rfl))))) rfl
theorem cn_X11_96 : Cond.constantLong RX11 96 (4) ∈ Tg := tg_in (List.mem_append_right _ (List.mem_append_right _ (List.mem_append_right _ (List.mem_append_left _ (List.mem_of_getElem? (i := 168) rfl))))) rfl
theorem cn_X11_98 : Cond.constantLong RX11 98 (-1) ∈ Tg := tg_in (List.mem_append_right _ (List.mem_append_right _ (List.mem_append_right _ (List.mem_append_left _ (List.mem_of_getElem? (i := 169) rfl))))) rfl
theorem cn_X11_100 : Cond.constant RX11 100 (-1000000) ∈ Tg := tg_in (List.mem_append_right _ (List.mem_append_right _ (List.mem_append_right _ (List.mem_append_left _ (List.mem_of_getElem? (i := 170) rfl))))) rfl
theorem cn_X11_101 : Cond.constant RX11 101 (65536) ∈ Tg := tg_in (List.mem_append_right _ (List.mem_append_right _ (List.mem_append_right _ (List.mem_append_left _ (List.mem_of_getElem? (i := 171) rfl))))) rfl
theorem ml_X11_102 : Cond.methodLink RX11 102 yX11_singles ∈ Tg := tg_in (List.mem_append_right _ (List.mem_append_right _ (List.mem_append_right _ (List.mem_append_left _ (List.mem_of_getElem? (i := 172) rfl))))) rfl
theorem st_X11_singles : Cond.static yX11_singles ∈ Tg := tg_in (List.mem_append_right _ (List.mem_append_right _ (List.mem_append_right _ (List.mem_append_left _ (List.mem_of_getElem? (i := 173) rfl))))) rfl
theorem co_X11_singles : Cond.code yX11_singles cX11_singles 1 (some .int) ∈ Tg := tg_in (List.mem_append_right _ (List.mem_append_right _ (List.mem_append_right _ (List.mem_append_left _ (List.mem_of_getElem? (i := 174) rfl))))) rfl
theorem ml_L_68 : Cond.methodLink RL 68 yX11_feed ∈ Tg := tg_in (List.mem_append_right _ (List.mem_append_right _ (List.mem_append_right _ (List.mem_append_left _ (List.mem_of_getElem? (i := 175) rfl))))) rfl
theorem im_X11_feed : Cond.instanceMethod yX11_feed ∈ Tg := tg_in (List.mem_append_right _ (List.mem_append_right _ (List.mem_append_right _ (List.mem_append_left _ (List.mem_of_getElem? (i := 176) rfl))))) rfl
theorem se_X11_feed : Cond.selects RX11 yX11_feed yX11_feed ∈ Tg := tg_in (List.mem_append_right _ (List.mem_append_right _ (List.mem_append_right _ (List.mem_append_left _ (List.mem_of_getElem? (i := 177) rfl))))) rfl
theorem co_X11_feed : Cond.code yX11_feed cX11_feed 5 (some .int) ∈ Tg := tg_in (List.mem_append_right _ (List.mem_append_right _ (List.mem_append_right _ (List.mem_append_left _ (List.mem_of_getElem? (i := 178) rfl))))) rfl
theorem cn_X11_105 : Cond.constantLong RX11 105 (8) ∈ Tg := tg_in (List.mem_append_right _ (List.mem_append_right _ (List.mem_append_right _ (List.mem_append_left _ (List.mem_of_getElem? (i := 179) rfl))))) rfl
theorem cn_X11_110 : Cond.constant RX11 110 (-1000003) ∈ Tg := tg_in (List.mem_append_right _ (List.mem_append_right _ (List.mem_append_right _ (List.mem_append_left _ (List.mem_of_getElem? (i := 180) rfl))))) rfl
theorem cn_X11_111 : Cond.constantLong RX11 111 (255) ∈ Tg := tg_in (List.mem_append_right _ (List.mem_append_right _ (List.mem_append_right _ (List.mem_append_left _ (List.mem_of_getElem? (i := 181) rfl))))) rfl
theorem ml_L_72 : Cond.methodLink RL 72 yX11_rules ∈ Tg := tg_in (List.mem_append_right _ (List.mem_append_right _ (List.mem_append_right _ (List.mem_append_left _ (List.mem_of_getElem? (i := 182) rfl))))) rfl
theorem im_X11_rules : Cond.instanceMethod yX11_rules ∈ Tg := tg_in (List.mem_append_right _ (List.mem_append_right _ (List.mem_append_right _ (List.mem_append_left _ (List.mem_of_getElem? (i := 183) rfl))))) rfl
theorem se_X11_rules : Cond.selects RX11 yX11_rules yX11_rules ∈ Tg := tg_in (List.mem_append_right _ (List.mem_append_right _ (List.mem_append_right _ (List.mem_append_left _ (List.mem_of_getElem? (i := 184) rfl))))) rfl
theorem co_X11_rules : Cond.code yX11_rules cX11_rules 3 (some .int) ∈ Tg := tg_in (List.mem_append_right _ (List.mem_append_right _ (List.mem_append_right _ (List.mem_append_left _ (List.mem_of_getElem? (i := 185) rfl))))) rfl
theorem ml_X11_146 : Cond.methodLink RX11 146 yX11_step ∈ Tg := tg_in (List.mem_append_right _ (List.mem_append_right _ (List.mem_append_right _ (List.mem_append_left _ (List.mem_of_getElem? (i := 186) rfl))))) rfl
theorem im_X11_step : Cond.instanceMethod yX11_step ∈ Tg := tg_in (List.mem_append_right _ (List.mem_append_right _ (List.mem_append_right _ (List.mem_append_left _ (List.mem_of_getElem? (i := 188) rfl))))) rfl
theorem co_X11_step : Cond.code yX11_step cX11_step 2 none ∈ Tg := tg_in (List.mem_append_right _ (List.mem_append_right _ (List.mem_append_right _ (List.mem_append_left _ (List.mem_of_getElem? (i := 189) rfl))))) rfl
theorem ml_X11_119 : Cond.methodLink RX11 119 yX11_byteAt ∈ Tg := tg_in (List.mem_append_right _ (List.mem_append_right _ (List.mem_append_right _ (List.mem_append_left _ (List.mem_of_getElem? (i := 190) rfl))))) rfl
theorem im_X11_byteAt : Cond.instanceMethod yX11_byteAt ∈ Tg := tg_in (List.mem_append_right _ (List.mem_append_right _ (List.mem_append_right _ (List.mem_append_left _ (List.mem_of_getElem? (i := 192) rfl))))) rfl
theorem co_X11_byteAt : Cond.code yX11_byteAt cX11_byteAt 2 (some .int) ∈ Tg := tg_in (List.mem_append_right _ (List.mem_append_right _ (List.mem_append_right _ (List.mem_append_left _ (List.mem_of_getElem? (i := 193) rfl))))) rfl
theorem ml_X11_128 : Cond.methodLink RX11 128 yX11_isLetter ∈ Tg := tg_in (List.mem_append_right _ (List.mem_append_right _ (List.mem_append_right _ (List.mem_append_left _ (List.mem_of_getElem? (i := 194) rfl))))) rfl
theorem st_X11_isLetter : Cond.static yX11_isLetter ∈ Tg := tg_in (List.mem_append_right _ (List.mem_append_right _ (List.mem_append_right _ (List.mem_append_left _ (List.mem_of_getElem? (i := 195) rfl))))) rfl
theorem co_X11_isLetter : Cond.code yX11_isLetter cX11_isLetter 1 (some .boolean) ∈ Tg := tg_in (List.mem_append_right _ (List.mem_append_right _ (List.mem_append_right _ (List.mem_append_left _ (List.mem_of_getElem? (i := 196) rfl))))) rfl
theorem ml_X11_131 : Cond.methodLink RX11 131 yX11_isFigure ∈ Tg := tg_in (List.mem_append_right _ (List.mem_append_right _ (List.mem_append_right _ (List.mem_append_left _ (List.mem_of_getElem? (i := 197) rfl))))) rfl
theorem st_X11_isFigure : Cond.static yX11_isFigure ∈ Tg := tg_in (List.mem_append_right _ (List.mem_append_right _ (List.mem_append_right _ (List.mem_append_left _ (List.mem_of_getElem? (i := 198) rfl))))) rfl
theorem co_X11_isFigure : Cond.code yX11_isFigure cX11_isFigure 1 (some .boolean) ∈ Tg := tg_in (List.mem_append_right _ (List.mem_append_right _ (List.mem_append_right _ (List.mem_append_left _ (List.mem_of_getElem? (i := 199) rfl))))) rfl
theorem ml_X11_182 : Cond.methodLink RX11 182 yX11_readRule ∈ Tg := tg_in (List.mem_append_right _ (List.mem_append_right _ (List.mem_append_right _ (List.mem_append_left _ (List.mem_of_getElem? (i := 200) rfl))))) rfl
theorem im_X11_readRule : Cond.instanceMethod yX11_readRule ∈ Tg := tg_in (List.mem_append_right _ (List.mem_append_right _ (List.mem_append_right _ (List.mem_append_left _ (List.mem_of_getElem? (i := 202) rfl))))) rfl
theorem co_X11_readRule : Cond.code yX11_readRule cX11_readRule 3 none ∈ Tg := tg_in (List.mem_append_right _ (List.mem_append_right _ (List.mem_append_right _ (List.mem_append_left _ (List.mem_of_getElem? (i := 203) rfl))))) rfl
theorem ml_X11_156 : Cond.methodLink RX11 156 yX11_word ∈ Tg := tg_in (List.mem_append_right _ (List.mem_append_right _ (List.mem_append_right _ (List.mem_append_left _ (List.mem_of_getElem? (i := 204) rfl))))) rfl
theorem im_X11_word : Cond.instanceMethod yX11_word ∈ Tg := tg_in (List.mem_append_right _ (List.mem_append_right _ (List.mem_append_right _ (List.mem_append_left _ (List.mem_of_getElem? (i := 206) rfl))))) rfl
theorem co_X11_word : Cond.code yX11_word cX11_word 4 (some .long) ∈ Tg := tg_in (List.mem_append_right _ (List.mem_append_right _ (List.mem_append_right _ (List.mem_append_left _ (List.mem_of_getElem? (i := 207) rfl))))) rfl
theorem cn_X11_174 : Cond.constantLong RX11 174 (26982) ∈ Tg := tg_in (List.mem_append_right _ (List.mem_append_right _ (List.mem_append_right _ (List.mem_append_left _ (List.mem_of_getElem? (i := 208) rfl))))) rfl
theorem ml_X11_143 : Cond.methodLink RX11 143 yX11_bad ∈ Tg := tg_in (List.mem_append_right _ (List.mem_append_right _ (List.mem_append_right _ (List.mem_append_left _ (List.mem_of_getElem? (i := 209) rfl))))) rfl
theorem im_X11_bad : Cond.instanceMethod yX11_bad ∈ Tg := tg_in (List.mem_append_right _ (List.mem_append_right _ (List.mem_append_right _ (List.mem_append_left _ (List.mem_of_getElem? (i := 211) rfl))))) rfl
theorem co_X11_bad : Cond.code yX11_bad cX11_bad 2 none ∈ Tg := tg_in (List.mem_append_right _ (List.mem_append_right _ (List.mem_append_right _ (List.mem_append_left _ (List.mem_of_getElem? (i := 212) rfl))))) rfl
theorem ml_X11_149 : Cond.methodLink RX11 149 yX11_need ∈ Tg := tg_in (List.mem_append_right _ (List.mem_append_right _ (List.mem_append_right _ (List.mem_append_left _ (List.mem_of_getElem? (i := 213) rfl))))) rfl
theorem im_X11_need : Cond.instanceMethod yX11_need ∈ Tg := tg_in (List.mem_append_right _ (List.mem_append_right _ (List.mem_append_right _ (List.mem_append_left _ (List.mem_of_getElem? (i := 215) rfl))))) rfl
theorem co_X11_need : Cond.code yX11_need cX11_need 2 none ∈ Tg := tg_in (List.mem_append_right _ (List.mem_append_right _ (List.mem_append_right _ (List.mem_append_left _ (List.mem_of_getElem? (i := 216) rfl))))) rfl
theorem ml_X11_176 : Cond.methodLink RX11 176 yX11_readTest ∈ Tg := tg_in (List.mem_append_right _ (List.mem_append_right _ (List.mem_append_right _ (List.mem_append_left _ (List.mem_of_getElem? (i := 217) rfl))))) rfl
theorem im_X11_readTest : Cond.instanceMethod yX11_readTest ∈ Tg := tg_in (List.mem_append_right _ (List.mem_append_right _ (List.mem_append_right _ (List.mem_append_left _ (List.mem_of_getElem? (i := 219) rfl))))) rfl
theorem co_X11_readTest : Cond.code yX11_readTest cX11_readTest 6 none ∈ Tg := tg_in (List.mem_append_right _ (List.mem_append_right _ (List.mem_append_right _ (List.mem_append_left _ (List.mem_of_getElem? (i := 220) rfl))))) rfl
theorem cn_X11_160 : Cond.constantLong RX11 160 (6711655) ∈ Tg := tg_in (List.mem_append_right _ (List.mem_append_right _ (List.mem_append_right _ (List.mem_append_left _ (List.mem_of_getElem? (i := 221) rfl))))) rfl
theorem cn_X11_162 : Cond.constantLong RX11 162 (1935764837) ∈ Tg := tg_in (List.mem_append_right _ (List.mem_append_right _ (List.mem_append_right _ (List.mem_append_left _ (List.mem_of_getElem? (i := 222) rfl))))) rfl
theorem cn_X11_164 : Cond.constantLong RX11 164 (1885434739) ∈ Tg := tg_in (List.mem_append_right _ (List.mem_append_right _ (List.mem_append_right _ (List.mem_append_left _ (List.mem_of_getElem? (i := 223) rfl))))) rfl
theorem cn_X11_166 : Cond.constantLong RX11 166 (1702258030) ∈ Tg := tg_in (List.mem_append_right _ (List.mem_append_right _ (List.mem_append_right _ (List.mem_append_left _ (List.mem_of_getElem? (i := 224) rfl))))) rfl
theorem ml_X11_168 : Cond.methodLink RX11 168 yX11_numberIn ∈ Tg := tg_in (List.mem_append_right _ (List.mem_append_right _ (List.mem_append_right _ (List.mem_append_left _ (List.mem_of_getElem? (i := 225) rfl))))) rfl
theorem im_X11_numberIn : Cond.instanceMethod yX11_numberIn ∈ Tg := tg_in (List.mem_append_right _ (List.mem_append_right _ (List.mem_append_right _ (List.mem_append_left _ (List.mem_of_getElem? (i := 227) rfl))))) rfl
theorem co_X11_numberIn : Cond.code yX11_numberIn cX11_numberIn 5 (some .int) ∈ Tg := tg_in (List.mem_append_right _ (List.mem_append_right _ (List.mem_append_right _ (List.mem_append_left _ (List.mem_of_getElem? (i := 228) rfl))))) rfl
theorem cn_X11_172 : Cond.constantLong RX11 172 (24948) ∈ Tg := tg_in (List.mem_append_right _ (List.mem_append_right _ (List.mem_append_right _ (List.mem_append_left _ (List.mem_of_getElem? (i := 229) rfl))))) rfl
theorem cn_X11_178 : Cond.constantLong RX11 178 (6385252) ∈ Tg := tg_in (List.mem_append_right _ (List.mem_append_right _ (List.mem_append_right _ (List.mem_append_left _ (List.mem_of_getElem? (i := 230) rfl))))) rfl
theorem cn_X11_180 : Cond.constantLong RX11 180 (7561593) ∈ Tg := tg_in (List.mem_append_right _ (List.mem_append_right _ (List.mem_append_right _ (List.mem_append_left _ (List.mem_of_getElem? (i := 231) rfl))))) rfl
theorem cn_X11_188 : Cond.constant RX11 188 (-1000100) ∈ Tg := tg_in (List.mem_append_right _ (List.mem_append_right _ (List.mem_append_right _ (List.mem_append_left _ (List.mem_of_getElem? (i := 232) rfl))))) rfl
theorem ml_L_76 : Cond.methodLink RL 76 yX11_fault ∈ Tg := tg_in (List.mem_append_right _ (List.mem_append_right _ (List.mem_append_right _ (List.mem_append_left _ (List.mem_of_getElem? (i := 233) rfl))))) rfl
theorem im_X11_fault : Cond.instanceMethod yX11_fault ∈ Tg := tg_in (List.mem_append_right _ (List.mem_append_right _ (List.mem_append_right _ (List.mem_append_left _ (List.mem_of_getElem? (i := 234) rfl))))) rfl
theorem se_X11_fault : Cond.selects RX11 yX11_fault yX11_fault ∈ Tg := tg_in (List.mem_append_right _ (List.mem_append_right _ (List.mem_append_right _ (List.mem_append_left _ (List.mem_of_getElem? (i := 235) rfl))))) rfl
theorem co_X11_fault : Cond.code yX11_fault cX11_fault 1 (some .int) ∈ Tg := tg_in (List.mem_append_right _ (List.mem_append_right _ (List.mem_append_right _ (List.mem_append_left _ (List.mem_of_getElem? (i := 236) rfl))))) rfl
theorem ml_L_80 : Cond.methodLink RL 80 yX11_said ∈ Tg := tg_in (List.mem_append_right _ (List.mem_append_right _ (List.mem_append_right _ (List.mem_append_left _ (List.mem_of_getElem? (i := 237) rfl))))) rfl
theorem im_X11_said : Cond.instanceMethod yX11_said ∈ Tg := tg_in (List.mem_append_right _ (List.mem_append_right _ (List.mem_append_right _ (List.mem_append_left _ (List.mem_of_getElem? (i := 238) rfl))))) rfl
theorem se_X11_said : Cond.selects RX11 yX11_said yX11_said ∈ Tg := tg_in (List.mem_append_right _ (List.mem_append_right _ (List.mem_append_right _ (List.mem_append_left _ (List.mem_of_getElem? (i := 239) rfl))))) rfl
theorem co_X11_said : Cond.code yX11_said cX11_said 3 (some .int) ∈ Tg := tg_in (List.mem_append_right _ (List.mem_append_right _ (List.mem_append_right _ (List.mem_append_right _ (List.mem_of_getElem? (i := 0) rfl))))) rfl
theorem ml_X11_192 : Cond.methodLink RX11 192 yX11_isTrue ∈ Tg := tg_in (List.mem_append_right _ (List.mem_append_right _ (List.mem_append_right _ (List.mem_append_right _ (List.mem_of_getElem? (i := 1) rfl))))) rfl
theorem im_X11_isTrue : Cond.instanceMethod yX11_isTrue ∈ Tg := tg_in (List.mem_append_right _ (List.mem_append_right _ (List.mem_append_right _ (List.mem_append_right _ (List.mem_of_getElem? (i := 3) rfl))))) rfl
theorem co_X11_isTrue : Cond.code yX11_isTrue cX11_isTrue 9 (some .boolean) ∈ Tg := tg_in (List.mem_append_right _ (List.mem_append_right _ (List.mem_append_right _ (List.mem_append_right _ (List.mem_of_getElem? (i := 4) rfl))))) rfl
theorem ml_L_84 : Cond.methodLink RL 84 yX11_holds ∈ Tg := tg_in (List.mem_append_right _ (List.mem_append_right _ (List.mem_append_right _ (List.mem_append_right _ (List.mem_of_getElem? (i := 5) rfl))))) rfl
theorem im_X11_holds : Cond.instanceMethod yX11_holds ∈ Tg := tg_in (List.mem_append_right _ (List.mem_append_right _ (List.mem_append_right _ (List.mem_append_right _ (List.mem_of_getElem? (i := 6) rfl))))) rfl
theorem se_X11_holds : Cond.selects RX11 yX11_holds yX11_holds ∈ Tg := tg_in (List.mem_append_right _ (List.mem_append_right _ (List.mem_append_right _ (List.mem_append_right _ (List.mem_of_getElem? (i := 7) rfl))))) rfl
theorem co_X11_holds : Cond.code yX11_holds cX11_holds 2 (some .int) ∈ Tg := tg_in (List.mem_append_right _ (List.mem_append_right _ (List.mem_append_right _ (List.mem_append_right _ (List.mem_of_getElem? (i := 8) rfl))))) rfl
theorem ml_X11_195 : Cond.methodLink RX11 195 yX11_isRule ∈ Tg := tg_in (List.mem_append_right _ (List.mem_append_right _ (List.mem_append_right _ (List.mem_append_right _ (List.mem_of_getElem? (i := 9) rfl))))) rfl
theorem im_X11_isRule : Cond.instanceMethod yX11_isRule ∈ Tg := tg_in (List.mem_append_right _ (List.mem_append_right _ (List.mem_append_right _ (List.mem_append_right _ (List.mem_of_getElem? (i := 11) rfl))))) rfl
theorem co_X11_isRule : Cond.code yX11_isRule cX11_isRule 2 (some .boolean) ∈ Tg := tg_in (List.mem_append_right _ (List.mem_append_right _ (List.mem_append_right _ (List.mem_append_right _ (List.mem_of_getElem? (i := 12) rfl))))) rfl
theorem ml_L_88 : Cond.methodLink RL 88 yX11_record ∈ Tg := tg_in (List.mem_append_right _ (List.mem_append_right _ (List.mem_append_right _ (List.mem_append_right _ (List.mem_of_getElem? (i := 13) rfl))))) rfl
theorem im_X11_record : Cond.instanceMethod yX11_record ∈ Tg := tg_in (List.mem_append_right _ (List.mem_append_right _ (List.mem_append_right _ (List.mem_append_right _ (List.mem_of_getElem? (i := 14) rfl))))) rfl
theorem se_X11_record : Cond.selects RX11 yX11_record yX11_record ∈ Tg := tg_in (List.mem_append_right _ (List.mem_append_right _ (List.mem_append_right _ (List.mem_append_right _ (List.mem_of_getElem? (i := 15) rfl))))) rfl
theorem co_X11_record : Cond.code yX11_record cX11_record 2 (some .int) ∈ Tg := tg_in (List.mem_append_right _ (List.mem_append_right _ (List.mem_append_right _ (List.mem_append_right _ (List.mem_of_getElem? (i := 16) rfl))))) rfl
theorem ml_L_92 : Cond.methodLink RL 92 yX11_worth ∈ Tg := tg_in (List.mem_append_right _ (List.mem_append_right _ (List.mem_append_right _ (List.mem_append_right _ (List.mem_of_getElem? (i := 17) rfl))))) rfl
theorem im_X11_worth : Cond.instanceMethod yX11_worth ∈ Tg := tg_in (List.mem_append_right _ (List.mem_append_right _ (List.mem_append_right _ (List.mem_append_right _ (List.mem_of_getElem? (i := 18) rfl))))) rfl
theorem se_X11_worth : Cond.selects RX11 yX11_worth yX11_worth ∈ Tg := tg_in (List.mem_append_right _ (List.mem_append_right _ (List.mem_append_right _ (List.mem_append_right _ (List.mem_of_getElem? (i := 19) rfl))))) rfl
theorem co_X11_worth : Cond.code yX11_worth cX11_worth 3 (some .int) ∈ Tg := tg_in (List.mem_append_right _ (List.mem_append_right _ (List.mem_append_right _ (List.mem_append_right _ (List.mem_of_getElem? (i := 20) rfl))))) rfl
theorem cn_X11_207 : Cond.constantLong RX11 207 (3) ∈ Tg := tg_in (List.mem_append_right _ (List.mem_append_right _ (List.mem_append_right _ (List.mem_append_right _ (List.mem_of_getElem? (i := 21) rfl))))) rfl
theorem ml_X11_201 : Cond.methodLink RX11 201 yX11_holdsIn ∈ Tg := tg_in (List.mem_append_right _ (List.mem_append_right _ (List.mem_append_right _ (List.mem_append_right _ (List.mem_of_getElem? (i := 22) rfl))))) rfl
theorem im_X11_holdsIn : Cond.instanceMethod yX11_holdsIn ∈ Tg := tg_in (List.mem_append_right _ (List.mem_append_right _ (List.mem_append_right _ (List.mem_append_right _ (List.mem_of_getElem? (i := 24) rfl))))) rfl
theorem co_X11_holdsIn : Cond.code yX11_holdsIn cX11_holdsIn 5 (some .int) ∈ Tg := tg_in (List.mem_append_right _ (List.mem_append_right _ (List.mem_append_right _ (List.mem_append_right _ (List.mem_of_getElem? (i := 25) rfl))))) rfl
theorem ml_X11_209 : Cond.methodLink RX11 209 yX11_worthOf ∈ Tg := tg_in (List.mem_append_right _ (List.mem_append_right _ (List.mem_append_right _ (List.mem_append_right _ (List.mem_of_getElem? (i := 26) rfl))))) rfl
theorem im_X11_worthOf : Cond.instanceMethod yX11_worthOf ∈ Tg := tg_in (List.mem_append_right _ (List.mem_append_right _ (List.mem_append_right _ (List.mem_append_right _ (List.mem_of_getElem? (i := 28) rfl))))) rfl
theorem co_X11_worthOf : Cond.code yX11_worthOf cX11_worthOf 4 (some .int) ∈ Tg := tg_in (List.mem_append_right _ (List.mem_append_right _ (List.mem_append_right _ (List.mem_append_right _ (List.mem_of_getElem? (i := 29) rfl))))) rfl
theorem ml_X11_204 : Cond.methodLink RX11 204 yX11_cameSo ∈ Tg := tg_in (List.mem_append_right _ (List.mem_append_right _ (List.mem_append_right _ (List.mem_append_right _ (List.mem_of_getElem? (i := 30) rfl))))) rfl
theorem im_X11_cameSo : Cond.instanceMethod yX11_cameSo ∈ Tg := tg_in (List.mem_append_right _ (List.mem_append_right _ (List.mem_append_right _ (List.mem_append_right _ (List.mem_of_getElem? (i := 32) rfl))))) rfl
theorem co_X11_cameSo : Cond.code yX11_cameSo cX11_cameSo 4 (some .int) ∈ Tg := tg_in (List.mem_append_right _ (List.mem_append_right _ (List.mem_append_right _ (List.mem_append_right _ (List.mem_of_getElem? (i := 33) rfl))))) rfl
theorem ml_L_96 : Cond.methodLink RL 96 yX11_best ∈ Tg := tg_in (List.mem_append_right _ (List.mem_append_right _ (List.mem_append_right _ (List.mem_append_right _ (List.mem_of_getElem? (i := 34) rfl))))) rfl
theorem im_X11_best : Cond.instanceMethod yX11_best ∈ Tg := tg_in (List.mem_append_right _ (List.mem_append_right _ (List.mem_append_right _ (List.mem_append_right _ (List.mem_of_getElem? (i := 35) rfl))))) rfl
theorem se_X11_best : Cond.selects RX11 yX11_best yX11_best ∈ Tg := tg_in (List.mem_append_right _ (List.mem_append_right _ (List.mem_append_right _ (List.mem_append_right _ (List.mem_of_getElem? (i := 36) rfl))))) rfl
theorem co_X11_best : Cond.code yX11_best cX11_best 5 (some .int) ∈ Tg := tg_in (List.mem_append_right _ (List.mem_append_right _ (List.mem_append_right _ (List.mem_append_right _ (List.mem_of_getElem? (i := 37) rfl))))) rfl
theorem ml_L_100 : Cond.methodLink RL 100 yX11_kind ∈ Tg := tg_in (List.mem_append_right _ (List.mem_append_right _ (List.mem_append_right _ (List.mem_append_right _ (List.mem_of_getElem? (i := 38) rfl))))) rfl
theorem im_X11_kind : Cond.instanceMethod yX11_kind ∈ Tg := tg_in (List.mem_append_right _ (List.mem_append_right _ (List.mem_append_right _ (List.mem_append_right _ (List.mem_of_getElem? (i := 39) rfl))))) rfl
theorem se_X11_kind : Cond.selects RX11 yX11_kind yX11_kind ∈ Tg := tg_in (List.mem_append_right _ (List.mem_append_right _ (List.mem_append_right _ (List.mem_append_right _ (List.mem_of_getElem? (i := 40) rfl))))) rfl
theorem co_X11_kind : Cond.code yX11_kind cX11_kind 2 (some .int) ∈ Tg := tg_in (List.mem_append_right _ (List.mem_append_right _ (List.mem_append_right _ (List.mem_append_right _ (List.mem_of_getElem? (i := 41) rfl))))) rfl
theorem ml_X11_212 : Cond.methodLink RX11 212 yX11_kindOf ∈ Tg := tg_in (List.mem_append_right _ (List.mem_append_right _ (List.mem_append_right _ (List.mem_append_right _ (List.mem_of_getElem? (i := 42) rfl))))) rfl
theorem st_X11_kindOf : Cond.static yX11_kindOf ∈ Tg := tg_in (List.mem_append_right _ (List.mem_append_right _ (List.mem_append_right _ (List.mem_append_right _ (List.mem_of_getElem? (i := 43) rfl))))) rfl
theorem co_X11_kindOf : Cond.code yX11_kindOf cX11_kindOf 2 (some .int) ∈ Tg := tg_in (List.mem_append_right _ (List.mem_append_right _ (List.mem_append_right _ (List.mem_append_right _ (List.mem_of_getElem? (i := 44) rfl))))) rfl
theorem ml_L_104 : Cond.methodLink RL 104 yX11_as ∈ Tg := tg_in (List.mem_append_right _ (List.mem_append_right _ (List.mem_append_right _ (List.mem_append_right _ (List.mem_of_getElem? (i := 45) rfl))))) rfl
theorem im_X11_as : Cond.instanceMethod yX11_as ∈ Tg := tg_in (List.mem_append_right _ (List.mem_append_right _ (List.mem_append_right _ (List.mem_append_right _ (List.mem_of_getElem? (i := 46) rfl))))) rfl
theorem se_X11_as : Cond.selects RX11 yX11_as yX11_as ∈ Tg := tg_in (List.mem_append_right _ (List.mem_append_right _ (List.mem_append_right _ (List.mem_append_right _ (List.mem_of_getElem? (i := 47) rfl))))) rfl
theorem co_X11_as : Cond.code yX11_as cX11_as 4 (some .int) ∈ Tg := tg_in (List.mem_append_right _ (List.mem_append_right _ (List.mem_append_right _ (List.mem_append_right _ (List.mem_of_getElem? (i := 48) rfl))))) rfl
theorem ml_L_108 : Cond.methodLink RL 108 yX11_ask ∈ Tg := tg_in (List.mem_append_right _ (List.mem_append_right _ (List.mem_append_right _ (List.mem_append_right _ (List.mem_of_getElem? (i := 49) rfl))))) rfl
theorem im_X11_ask : Cond.instanceMethod yX11_ask ∈ Tg := tg_in (List.mem_append_right _ (List.mem_append_right _ (List.mem_append_right _ (List.mem_append_right _ (List.mem_of_getElem? (i := 50) rfl))))) rfl
theorem se_X11_ask : Cond.selects RX11 yX11_ask yX11_ask ∈ Tg := tg_in (List.mem_append_right _ (List.mem_append_right _ (List.mem_append_right _ (List.mem_append_right _ (List.mem_of_getElem? (i := 51) rfl))))) rfl
theorem co_X11_ask : Cond.code yX11_ask cX11_ask 3 (some .int) ∈ Tg := tg_in (List.mem_append_right _ (List.mem_append_right _ (List.mem_append_right _ (List.mem_append_right _ (List.mem_of_getElem? (i := 52) rfl))))) rfl
theorem ml_X11_227 : Cond.methodLink RX11 227 yX11_sized ∈ Tg := tg_in (List.mem_append_right _ (List.mem_append_right _ (List.mem_append_right _ (List.mem_append_right _ (List.mem_of_getElem? (i := 53) rfl))))) rfl
theorem im_X11_sized : Cond.instanceMethod yX11_sized ∈ Tg := tg_in (List.mem_append_right _ (List.mem_append_right _ (List.mem_append_right _ (List.mem_append_right _ (List.mem_of_getElem? (i := 55) rfl))))) rfl
theorem co_X11_sized : Cond.code yX11_sized cX11_sized 4 (some .int) ∈ Tg := tg_in (List.mem_append_right _ (List.mem_append_right _ (List.mem_append_right _ (List.mem_append_right _ (List.mem_of_getElem? (i := 56) rfl))))) rfl
theorem ml_X11_221 : Cond.methodLink RX11 221 yX11_oddSize ∈ Tg := tg_in (List.mem_append_right _ (List.mem_append_right _ (List.mem_append_right _ (List.mem_append_right _ (List.mem_of_getElem? (i := 57) rfl))))) rfl
theorem im_X11_oddSize : Cond.instanceMethod yX11_oddSize ∈ Tg := tg_in (List.mem_append_right _ (List.mem_append_right _ (List.mem_append_right _ (List.mem_append_right _ (List.mem_of_getElem? (i := 59) rfl))))) rfl
theorem co_X11_oddSize : Cond.code yX11_oddSize cX11_oddSize 2 (some .int) ∈ Tg := tg_in (List.mem_append_right _ (List.mem_append_right _ (List.mem_append_right _ (List.mem_append_right _ (List.mem_of_getElem? (i := 60) rfl))))) rfl
theorem ml_X11_218 : Cond.methodLink RX11 218 yX11_began ∈ Tg := tg_in (List.mem_append_right _ (List.mem_append_right _ (List.mem_append_right _ (List.mem_append_right _ (List.mem_of_getElem? (i := 61) rfl))))) rfl
theorem im_X11_began : Cond.instanceMethod yX11_began ∈ Tg := tg_in (List.mem_append_right _ (List.mem_append_right _ (List.mem_append_right _ (List.mem_append_right _ (List.mem_of_getElem? (i := 63) rfl))))) rfl
theorem co_X11_began : Cond.code yX11_began cX11_began 2 none ∈ Tg := tg_in (List.mem_append_right _ (List.mem_append_right _ (List.mem_append_right _ (List.mem_append_right _ (List.mem_of_getElem? (i := 64) rfl))))) rfl
theorem ml_X11_224 : Cond.methodLink RX11 224 yX11_marked ∈ Tg := tg_in (List.mem_append_right _ (List.mem_append_right _ (List.mem_append_right _ (List.mem_append_right _ (List.mem_of_getElem? (i := 65) rfl))))) rfl
theorem im_X11_marked : Cond.instanceMethod yX11_marked ∈ Tg := tg_in (List.mem_append_right _ (List.mem_append_right _ (List.mem_append_right _ (List.mem_append_right _ (List.mem_of_getElem? (i := 67) rfl))))) rfl
theorem co_X11_marked : Cond.code yX11_marked cX11_marked 3 (some .int) ∈ Tg := tg_in (List.mem_append_right _ (List.mem_append_right _ (List.mem_append_right _ (List.mem_append_right _ (List.mem_of_getElem? (i := 68) rfl))))) rfl
theorem ml_L_112 : Cond.methodLink RL 112 yX11_trace ∈ Tg := tg_in (List.mem_append_right _ (List.mem_append_right _ (List.mem_append_right _ (List.mem_append_right _ (List.mem_of_getElem? (i := 69) rfl))))) rfl
theorem im_X11_trace : Cond.instanceMethod yX11_trace ∈ Tg := tg_in (List.mem_append_right _ (List.mem_append_right _ (List.mem_append_right _ (List.mem_append_right _ (List.mem_of_getElem? (i := 70) rfl))))) rfl
theorem se_X11_trace : Cond.selects RX11 yX11_trace yX11_trace ∈ Tg := tg_in (List.mem_append_right _ (List.mem_append_right _ (List.mem_append_right _ (List.mem_append_right _ (List.mem_of_getElem? (i := 71) rfl))))) rfl
theorem co_X11_trace : Cond.code yX11_trace cX11_trace 2 (some .int) ∈ Tg := tg_in (List.mem_append_right _ (List.mem_append_right _ (List.mem_append_right _ (List.mem_append_right _ (List.mem_of_getElem? (i := 72) rfl))))) rfl
theorem ml_L_116 : Cond.methodLink RL 116 yX11_count ∈ Tg := tg_in (List.mem_append_right _ (List.mem_append_right _ (List.mem_append_right _ (List.mem_append_right _ (List.mem_of_getElem? (i := 73) rfl))))) rfl
theorem im_X11_count : Cond.instanceMethod yX11_count ∈ Tg := tg_in (List.mem_append_right _ (List.mem_append_right _ (List.mem_append_right _ (List.mem_append_right _ (List.mem_of_getElem? (i := 74) rfl))))) rfl
theorem se_X11_count : Cond.selects RX11 yX11_count yX11_count ∈ Tg := tg_in (List.mem_append_right _ (List.mem_append_right _ (List.mem_append_right _ (List.mem_append_right _ (List.mem_of_getElem? (i := 75) rfl))))) rfl
theorem co_X11_count : Cond.code yX11_count cX11_count 4 (some .int) ∈ Tg := tg_in (List.mem_append_right _ (List.mem_append_right _ (List.mem_append_right _ (List.mem_append_right _ (List.mem_of_getElem? (i := 76) rfl))))) rfl
theorem ml_L_120 : Cond.methodLink RL 120 yX11_status ∈ Tg := tg_in (List.mem_append_right _ (List.mem_append_right _ (List.mem_append_right _ (List.mem_append_right _ (List.mem_of_getElem? (i := 77) rfl))))) rfl
theorem im_X11_status : Cond.instanceMethod yX11_status ∈ Tg := tg_in (List.mem_append_right _ (List.mem_append_right _ (List.mem_append_right _ (List.mem_append_right _ (List.mem_of_getElem? (i := 78) rfl))))) rfl
theorem se_X11_status : Cond.selects RX11 yX11_status yX11_status ∈ Tg := tg_in (List.mem_append_right _ (List.mem_append_right _ (List.mem_append_right _ (List.mem_append_right _ (List.mem_of_getElem? (i := 79) rfl))))) rfl
theorem co_X11_status : Cond.code yX11_status cX11_status 1 (some .int) ∈ Tg := tg_in (List.mem_append_right _ (List.mem_append_right _ (List.mem_append_right _ (List.mem_append_right _ (List.mem_of_getElem? (i := 80) rfl))))) rfl
theorem cn_L_62 : Cond.constantLong RL 62 (4294967295) ∈ Tg := tg_in (List.mem_append_right _ (List.mem_append_right _ (List.mem_append_right _ (List.mem_append_right _ (List.mem_of_getElem? (i := 81) rfl))))) rfl
theorem se_X10_found : Cond.selects RX10 yX10_found yX10_found ∈ Tg := tg_sel (List.mem_append_left _ (List.mem_of_getElem? (i := 0) rfl))
theorem se_X10_done : Cond.selects RX10 yX10_done yX10_done ∈ Tg := tg_sel (List.mem_append_left _ (List.mem_of_getElem? (i := 1) rfl))
theorem se_X7_narrowed : Cond.selects RX7 yX7_narrowed yX7_narrowed ∈ Tg := tg_sel (List.mem_append_left _ (List.mem_of_getElem? (i := 2) rfl))
theorem se_X10_tellChart : Cond.selects RX10 yX10_tellChart yX10_tellChart ∈ Tg := tg_sel (List.mem_append_left _ (List.mem_of_getElem? (i := 3) rfl))
theorem se_X4_mayTellMore : Cond.selects RX4 yX4_mayTellMore yX4_mayTellMore ∈ Tg := tg_sel (List.mem_append_left _ (List.mem_of_getElem? (i := 4) rfl))
theorem se_X4_lookThrough : Cond.selects RX4 yX4_lookThrough yX4_lookThrough ∈ Tg := tg_sel (List.mem_append_left _ (List.mem_of_getElem? (i := 5) rfl))
theorem se_X9_place : Cond.selects RX9 yX9_place yX9_place ∈ Tg := tg_sel (List.mem_append_left _ (List.mem_of_getElem? (i := 6) rfl))
theorem se_X9_name : Cond.selects RX9 yX9_name yX9_name ∈ Tg := tg_sel (List.mem_append_left _ (List.mem_of_getElem? (i := 7) rfl))
theorem se_X9_joined : Cond.selects RX9 yX9_joined yX9_joined ∈ Tg := tg_sel (List.mem_append_left _ (List.mem_of_getElem? (i := 8) rfl))
theorem se_X5_readRule : Cond.selects RX5 yX5_readRule yX5_readRule ∈ Tg := tg_sel (List.mem_append_left _ (List.mem_of_getElem? (i := 9) rfl))
theorem se_X5_faultHere : Cond.selects RX5 yX5_faultHere yX5_faultHere ∈ Tg := tg_sel (List.mem_append_left _ (List.mem_of_getElem? (i := 10) rfl))
theorem se_X5_take : Cond.selects RX5 yX5_take yX5_take ∈ Tg := tg_sel (List.mem_append_left _ (List.mem_of_getElem? (i := 11) rfl))
theorem se_X5_readTest : Cond.selects RX5 yX5_readTest yX5_readTest ∈ Tg := tg_sel (List.mem_append_left _ (List.mem_of_getElem? (i := 12) rfl))
theorem se_X5_takeNumber : Cond.selects RX5 yX5_takeNumber yX5_takeNumber ∈ Tg := tg_sel (List.mem_append_left _ (List.mem_of_getElem? (i := 13) rfl))
theorem se_X0_fastSize : Cond.selects RX0 yX0_fastSize yX0_fastSize ∈ Tg := tg_sel (List.mem_append_left _ (List.mem_of_getElem? (i := 14) rfl))
theorem se_X0_begin : Cond.selects RX0 yX0_begin yX0_begin ∈ Tg := tg_sel (List.mem_append_left _ (List.mem_of_getElem? (i := 15) rfl))
theorem se_X0_evenSize : Cond.selects RX0 yX0_evenSize yX0_evenSize ∈ Tg := tg_sel (List.mem_append_right _ (List.mem_append_left _ (List.mem_of_getElem? (i := 0) rfl)))
theorem se_X0_lentSize : Cond.selects RX0 yX0_lentSize yX0_lentSize ∈ Tg := tg_sel (List.mem_append_right _ (List.mem_append_left _ (List.mem_of_getElem? (i := 1) rfl)))
theorem se_X0_fastMark : Cond.selects RX0 yX0_fastMark yX0_fastMark ∈ Tg := tg_sel (List.mem_append_right _ (List.mem_append_left _ (List.mem_of_getElem? (i := 2) rfl)))
theorem se_X0_lentMark : Cond.selects RX0 yX0_lentMark yX0_lentMark ∈ Tg := tg_sel (List.mem_append_right _ (List.mem_append_left _ (List.mem_of_getElem? (i := 3) rfl)))
theorem se_X0_oddSize : Cond.selects RX0 yX0_oddSize yX0_oddSize ∈ Tg := tg_sel (List.mem_append_right _ (List.mem_append_left _ (List.mem_of_getElem? (i := 4) rfl)))
theorem se_X0_oddMark : Cond.selects RX0 yX0_oddMark yX0_oddMark ∈ Tg := tg_sel (List.mem_append_right _ (List.mem_append_left _ (List.mem_of_getElem? (i := 5) rfl)))
theorem se_X10_sheetsThere : Cond.selects RX10 yX10_sheetsThere yX10_sheetsThere ∈ Tg := tg_sel (List.mem_append_right _ (List.mem_append_left _ (List.mem_of_getElem? (i := 6) rfl)))
theorem se_X11_found : Cond.selects RX11 yX11_found yX11_found ∈ Tg := tg_sel (List.mem_append_right _ (List.mem_append_left _ (List.mem_of_getElem? (i := 7) rfl)))
theorem se_X11_lay : Cond.selects RX11 yX11_lay yX11_lay ∈ Tg := tg_sel (List.mem_append_right _ (List.mem_append_left _ (List.mem_of_getElem? (i := 8) rfl)))
theorem se_X11_step : Cond.selects RX11 yX11_step yX11_step ∈ Tg := tg_sel (List.mem_append_right _ (List.mem_append_left _ (List.mem_of_getElem? (i := 9) rfl)))
theorem se_X11_byteAt : Cond.selects RX11 yX11_byteAt yX11_byteAt ∈ Tg := tg_sel (List.mem_append_right _ (List.mem_append_left _ (List.mem_of_getElem? (i := 10) rfl)))
theorem se_X11_readRule : Cond.selects RX11 yX11_readRule yX11_readRule ∈ Tg := tg_sel (List.mem_append_right _ (List.mem_append_left _ (List.mem_of_getElem? (i := 11) rfl)))
theorem se_X11_word : Cond.selects RX11 yX11_word yX11_word ∈ Tg := tg_sel (List.mem_append_right _ (List.mem_append_left _ (List.mem_of_getElem? (i := 12) rfl)))
theorem se_X11_bad : Cond.selects RX11 yX11_bad yX11_bad ∈ Tg := tg_sel (List.mem_append_right _ (List.mem_append_left _ (List.mem_of_getElem? (i := 13) rfl)))
theorem se_X11_need : Cond.selects RX11 yX11_need yX11_need ∈ Tg := tg_sel (List.mem_append_right _ (List.mem_append_left _ (List.mem_of_getElem? (i := 14) rfl)))
theorem se_X11_readTest : Cond.selects RX11 yX11_readTest yX11_readTest ∈ Tg := tg_sel (List.mem_append_right _ (List.mem_append_left _ (List.mem_of_getElem? (i := 15) rfl)))
theorem se_X11_numberIn : Cond.selects RX11 yX11_numberIn yX11_numberIn ∈ Tg := tg_sel (List.mem_append_right _ (List.mem_append_right _ (List.mem_of_getElem? (i := 0) rfl)))
theorem se_X11_isTrue : Cond.selects RX11 yX11_isTrue yX11_isTrue ∈ Tg := tg_sel (List.mem_append_right _ (List.mem_append_right _ (List.mem_of_getElem? (i := 1) rfl)))
theorem se_X11_isRule : Cond.selects RX11 yX11_isRule yX11_isRule ∈ Tg := tg_sel (List.mem_append_right _ (List.mem_append_right _ (List.mem_of_getElem? (i := 2) rfl)))
theorem se_X11_holdsIn : Cond.selects RX11 yX11_holdsIn yX11_holdsIn ∈ Tg := tg_sel (List.mem_append_right _ (List.mem_append_right _ (List.mem_of_getElem? (i := 3) rfl)))
theorem se_X11_worthOf : Cond.selects RX11 yX11_worthOf yX11_worthOf ∈ Tg := tg_sel (List.mem_append_right _ (List.mem_append_right _ (List.mem_of_getElem? (i := 4) rfl)))
theorem se_X11_cameSo : Cond.selects RX11 yX11_cameSo yX11_cameSo ∈ Tg := tg_sel (List.mem_append_right _ (List.mem_append_right _ (List.mem_of_getElem? (i := 5) rfl)))
theorem se_X11_sized : Cond.selects RX11 yX11_sized yX11_sized ∈ Tg := tg_sel (List.mem_append_right _ (List.mem_append_right _ (List.mem_of_getElem? (i := 6) rfl)))
theorem se_X11_oddSize : Cond.selects RX11 yX11_oddSize yX11_oddSize ∈ Tg := tg_sel (List.mem_append_right _ (List.mem_append_right _ (List.mem_of_getElem? (i := 7) rfl)))
theorem se_X11_began : Cond.selects RX11 yX11_began yX11_began ∈ Tg := tg_sel (List.mem_append_right _ (List.mem_append_right _ (List.mem_of_getElem? (i := 8) rfl)))
theorem se_X11_marked : Cond.selects RX11 yX11_marked yX11_marked ∈ Tg := tg_sel (List.mem_append_right _ (List.mem_append_right _ (List.mem_of_getElem? (i := 9) rfl)))
theorem uw_X0 : ∀ w ∈ u_ws RX0 TX0 2, w ∈ Tg := by
  have h : (u_ws RX0 TX0 2).all (fun w => decide (w ∈ tables_1) && goodWord w) = true := by decide +kernel
  intro w hw
  have h1 := List.all_eq_true.mp h w hw
  simp only [Bool.and_eq_true, decide_eq_true_eq] at h1
  exact tg_in h1.1 h1.2
theorem uw_X1 : ∀ w ∈ u_ws RX1 TX1 5, w ∈ Tg := by
  have h : (u_ws RX1 TX1 5).all (fun w => decide (w ∈ tables_1) && goodWord w) = true := by decide +kernel
  intro w hw
  have h1 := List.all_eq_true.mp h w hw
  simp only [Bool.and_eq_true, decide_eq_true_eq] at h1
  exact tg_in h1.1 h1.2
theorem uw_X4 : ∀ w ∈ u_ws RX4 TX4 10, w ∈ Tg := by
  have h : (u_ws RX4 TX4 10).all (fun w => decide (w ∈ tables_1) && goodWord w) = true := by decide +kernel
  intro w hw
  have h1 := List.all_eq_true.mp h w hw
  simp only [Bool.and_eq_true, decide_eq_true_eq] at h1
  exact tg_in h1.1 h1.2
theorem uw_X5 : ∀ w ∈ u_ws RX5 TX5 5, w ∈ Tg := by
  have h : (u_ws RX5 TX5 5).all (fun w => decide (w ∈ tables_1) && goodWord w) = true := by decide +kernel
  intro w hw
  have h1 := List.all_eq_true.mp h w hw
  simp only [Bool.and_eq_true, decide_eq_true_eq] at h1
  exact tg_in h1.1 h1.2
theorem uw_X6 : ∀ w ∈ u_ws RX6 TX6 6, w ∈ Tg := by
  have h : (u_ws RX6 TX6 6).all (fun w => decide (w ∈ tables_1) && goodWord w) = true := by decide +kernel
  intro w hw
  have h1 := List.all_eq_true.mp h w hw
  simp only [Bool.and_eq_true, decide_eq_true_eq] at h1
  exact tg_in h1.1 h1.2
theorem uw_X7 : ∀ w ∈ u_ws RX7 TX7 3, w ∈ Tg := by
  have h : (u_ws RX7 TX7 3).all (fun w => decide (w ∈ tables_1) && goodWord w) = true := by decide +kernel
  intro w hw
  have h1 := List.all_eq_true.mp h w hw
  simp only [Bool.and_eq_true, decide_eq_true_eq] at h1
  exact tg_in h1.1 h1.2
theorem uw_X8 : ∀ w ∈ u_ws RX8 TX8 2, w ∈ Tg := by
  have h : (u_ws RX8 TX8 2).all (fun w => decide (w ∈ tables_1) && goodWord w) = true := by decide +kernel
  intro w hw
  have h1 := List.all_eq_true.mp h w hw
  simp only [Bool.and_eq_true, decide_eq_true_eq] at h1
  exact tg_in h1.1 h1.2
theorem uw_X9 : ∀ w ∈ u_ws RX9 TX9 7, w ∈ Tg := by
  have h : (u_ws RX9 TX9 7).all (fun w => decide (w ∈ tables_1) && goodWord w) = true := by decide +kernel
  intro w hw
  have h1 := List.all_eq_true.mp h w hw
  simp only [Bool.and_eq_true, decide_eq_true_eq] at h1
  exact tg_in h1.1 h1.2
theorem uw_X10 : ∀ w ∈ u_ws RX10 TX10 12, w ∈ Tg := by
  have h : (u_ws RX10 TX10 12).all (fun w => decide (w ∈ tables_1) && goodWord w) = true := by decide +kernel
  intro w hw
  have h1 := List.all_eq_true.mp h w hw
  simp only [Bool.and_eq_true, decide_eq_true_eq] at h1
  exact tg_in h1.1 h1.2
theorem uw_X11 : ∀ w ∈ u_ws RX11 TX11 30, w ∈ Tg := by
  have h : (u_ws RX11 TX11 30).all (fun w => decide (w ∈ tables_1) && goodWord w) = true := by decide +kernel
  intro w hw
  have h1 := List.all_eq_true.mp h w hw
  simp only [Bool.and_eq_true, decide_eq_true_eq] at h1
  exact tg_in h1.1 h1.2
def MI (y : MethodName) (cc : ByteArray) (maxL : Nat) (ret : Option FieldType) (n : Nat) : Prop := Cond.code y cc maxL ret ∈ Tg ∧ Cond.initialized y.cls ∈ Tg ∧ y.cls ≠ "java/lang/invoke/MethodHandle" ∧ y.cls ≠ "java/lang/invoke/VarHandle" ∧ (parseMethodDescriptor y.desc).map (fun d => d.parameters.length) = some n ∧ plainName y.cls = true
theorem mi_X10_init : MI yX10_init cX10_init 2 none 0 := ⟨co_X10_init, in_X10, by decide +kernel, by decide +kernel, by decide +kernel, by decide +kernel⟩
theorem mi_X10_add : MI yX10_add cX10_add 3 (some .int) 2 := ⟨co_X10_add, in_X10, by decide +kernel, by decide +kernel, by decide +kernel, by decide +kernel⟩
theorem mi_X10_as : MI yX10_as cX10_as 3 (some .int) 2 := ⟨co_X10_as, in_X10, by decide +kernel, by decide +kernel, by decide +kernel, by decide +kernel⟩
theorem mi_X10_ask : MI yX10_ask cX10_ask 3 (some .int) 2 := ⟨co_X10_ask, in_X10, by decide +kernel, by decide +kernel, by decide +kernel, by decide +kernel⟩
theorem mi_X10_at : MI yX10_at cX10_at 2 (some .int) 1 := ⟨co_X10_at, in_X10, by decide +kernel, by decide +kernel, by decide +kernel, by decide +kernel⟩
theorem mi_X10_best : MI yX10_best cX10_best 5 (some .int) 0 := ⟨co_X10_best, in_X10, by decide +kernel, by decide +kernel, by decide +kernel, by decide +kernel⟩
theorem mi_X10_cast : MI yX10_cast cX10_cast 4 (some .int) 2 := ⟨co_X10_cast, in_X10, by decide +kernel, by decide +kernel, by decide +kernel, by decide +kernel⟩
theorem mi_X10_chart : MI yX10_chart cX10_chart 3 (some .int) 1 := ⟨co_X10_chart, in_X10, by decide +kernel, by decide +kernel, by decide +kernel, by decide +kernel⟩
theorem mi_X10_copy : MI yX10_copy cX10_copy 8 (some .int) 5 := ⟨co_X10_copy, in_X10, by decide +kernel, by decide +kernel, by decide +kernel, by decide +kernel⟩
theorem mi_X10_count : MI yX10_count cX10_count 2 (some .int) 1 := ⟨co_X10_count, in_X10, by decide +kernel, by decide +kernel, by decide +kernel, by decide +kernel⟩
theorem mi_X10_done : MI yX10_done cX10_done 2 (some .int) 1 := ⟨co_X10_done, in_X10, by decide +kernel, by decide +kernel, by decide +kernel, by decide +kernel⟩
theorem mi_X10_drawing : MI yX10_drawing cX10_drawing 6 (some .int) 3 := ⟨co_X10_drawing, in_X10, by decide +kernel, by decide +kernel, by decide +kernel, by decide +kernel⟩
theorem mi_X10_drop : MI yX10_drop cX10_drop 3 (some .int) 1 := ⟨co_X10_drop, in_X10, by decide +kernel, by decide +kernel, by decide +kernel, by decide +kernel⟩
theorem mi_X10_fault : MI yX10_fault cX10_fault 1 (some .int) 0 := ⟨co_X10_fault, in_X10, by decide +kernel, by decide +kernel, by decide +kernel, by decide +kernel⟩
theorem mi_X10_feed : MI yX10_feed cX10_feed 4 (some .int) 2 := ⟨co_X10_feed, in_X10, by decide +kernel, by decide +kernel, by decide +kernel, by decide +kernel⟩
theorem mi_X10_found : MI yX10_found cX10_found 2 (some .int) 1 := ⟨co_X10_found, in_X10, by decide +kernel, by decide +kernel, by decide +kernel, by decide +kernel⟩
theorem mi_X10_holds : MI yX10_holds cX10_holds 2 (some .int) 1 := ⟨co_X10_holds, in_X10, by decide +kernel, by decide +kernel, by decide +kernel, by decide +kernel⟩
theorem mi_X10_isPlace : MI yX10_isPlace cX10_isPlace 1 (some .boolean) 1 := ⟨co_X10_isPlace, in_X10, by decide +kernel, by decide +kernel, by decide +kernel, by decide +kernel⟩
theorem mi_X10_isSheet : MI yX10_isSheet cX10_isSheet 1 (some .boolean) 1 := ⟨co_X10_isSheet, in_X10, by decide +kernel, by decide +kernel, by decide +kernel, by decide +kernel⟩
theorem mi_X10_kind : MI yX10_kind cX10_kind 2 (some .int) 1 := ⟨co_X10_kind, in_X10, by decide +kernel, by decide +kernel, by decide +kernel, by decide +kernel⟩
theorem mi_X10_point : MI yX10_point cX10_point 1 (some .int) 0 := ⟨co_X10_point, in_X10, by decide +kernel, by decide +kernel, by decide +kernel, by decide +kernel⟩
theorem mi_X10_record : MI yX10_record cX10_record 2 (some .int) 1 := ⟨co_X10_record, in_X10, by decide +kernel, by decide +kernel, by decide +kernel, by decide +kernel⟩
theorem mi_X10_rules : MI yX10_rules cX10_rules 3 (some .int) 0 := ⟨co_X10_rules, in_X10, by decide +kernel, by decide +kernel, by decide +kernel, by decide +kernel⟩
theorem mi_X10_said : MI yX10_said cX10_said 3 (some .int) 1 := ⟨co_X10_said, in_X10, by decide +kernel, by decide +kernel, by decide +kernel, by decide +kernel⟩
theorem mi_X10_seen : MI yX10_seen cX10_seen 2 (some .int) 1 := ⟨co_X10_seen, in_X10, by decide +kernel, by decide +kernel, by decide +kernel, by decide +kernel⟩
theorem mi_X10_set : MI yX10_set cX10_set 5 (some .int) 3 := ⟨co_X10_set, in_X10, by decide +kernel, by decide +kernel, by decide +kernel, by decide +kernel⟩
theorem mi_X10_sheet : MI yX10_sheet cX10_sheet 4 (some .int) 3 := ⟨co_X10_sheet, in_X10, by decide +kernel, by decide +kernel, by decide +kernel, by decide +kernel⟩
theorem mi_X10_sheetsThere : MI yX10_sheetsThere cX10_sheetsThere 3 (some .int) 0 := ⟨co_X10_sheetsThere, in_X10, by decide +kernel, by decide +kernel, by decide +kernel, by decide +kernel⟩
theorem mi_X10_status : MI yX10_status cX10_status 1 (some .int) 0 := ⟨co_X10_status, in_X10, by decide +kernel, by decide +kernel, by decide +kernel, by decide +kernel⟩
theorem mi_X10_tellChart : MI yX10_tellChart cX10_tellChart 2 none 1 := ⟨co_X10_tellChart, in_X10, by decide +kernel, by decide +kernel, by decide +kernel, by decide +kernel⟩
theorem mi_X10_trace : MI yX10_trace cX10_trace 2 (some .int) 1 := ⟨co_X10_trace, in_X10, by decide +kernel, by decide +kernel, by decide +kernel, by decide +kernel⟩
theorem mi_X10_worth : MI yX10_worth cX10_worth 3 (some .int) 2 := ⟨co_X10_worth, in_X10, by decide +kernel, by decide +kernel, by decide +kernel, by decide +kernel⟩
theorem mi_X0_init : MI yX0_init cX0_init 1 none 0 := ⟨co_X0_init, in_X0, by decide +kernel, by decide +kernel, by decide +kernel, by decide +kernel⟩
theorem mi_X0_begin : MI yX0_begin cX0_begin 2 none 1 := ⟨co_X0_begin, in_X0, by decide +kernel, by decide +kernel, by decide +kernel, by decide +kernel⟩
theorem mi_X0_emptyTrace : MI yX0_emptyTrace cX0_emptyTrace 1 none 0 := ⟨co_X0_emptyTrace, in_X0, by decide +kernel, by decide +kernel, by decide +kernel, by decide +kernel⟩
theorem mi_X0_evenSize : MI yX0_evenSize cX0_evenSize 2 (some .int) 1 := ⟨co_X0_evenSize, in_X0, by decide +kernel, by decide +kernel, by decide +kernel, by decide +kernel⟩
theorem mi_X0_fastMark : MI yX0_fastMark cX0_fastMark 2 (some .int) 1 := ⟨co_X0_fastMark, in_X0, by decide +kernel, by decide +kernel, by decide +kernel, by decide +kernel⟩
theorem mi_X0_fastSize : MI yX0_fastSize cX0_fastSize 2 (some .int) 1 := ⟨co_X0_fastSize, in_X0, by decide +kernel, by decide +kernel, by decide +kernel, by decide +kernel⟩
theorem mi_X0_lentMark : MI yX0_lentMark cX0_lentMark 2 (some .int) 1 := ⟨co_X0_lentMark, in_X0, by decide +kernel, by decide +kernel, by decide +kernel, by decide +kernel⟩
theorem mi_X0_lentSize : MI yX0_lentSize cX0_lentSize 2 (some .int) 1 := ⟨co_X0_lentSize, in_X0, by decide +kernel, by decide +kernel, by decide +kernel, by decide +kernel⟩
theorem mi_X0_markOf : MI yX0_markOf cX0_markOf 2 (some .int) 1 := ⟨co_X0_markOf, in_X0, by decide +kernel, by decide +kernel, by decide +kernel, by decide +kernel⟩
theorem mi_X0_oddMark : MI yX0_oddMark cX0_oddMark 2 (some .int) 1 := ⟨co_X0_oddMark, in_X0, by decide +kernel, by decide +kernel, by decide +kernel, by decide +kernel⟩
theorem mi_X0_oddSize : MI yX0_oddSize cX0_oddSize 2 (some .int) 1 := ⟨co_X0_oddSize, in_X0, by decide +kernel, by decide +kernel, by decide +kernel, by decide +kernel⟩
theorem mi_X0_sizeOf : MI yX0_sizeOf cX0_sizeOf 2 (some .int) 1 := ⟨co_X0_sizeOf, in_X0, by decide +kernel, by decide +kernel, by decide +kernel, by decide +kernel⟩
theorem mi_X0_traced : MI yX0_traced cX0_traced 2 (some .int) 1 := ⟨co_X0_traced, in_X0, by decide +kernel, by decide +kernel, by decide +kernel, by decide +kernel⟩
theorem mi_X1_init : MI yX1_init cX1_init 1 none 0 := ⟨co_X1_init, in_X1, by decide +kernel, by decide +kernel, by decide +kernel, by decide +kernel⟩
theorem mi_X1_answerTo : MI yX1_answerTo cX1_answerTo 2 (some .int) 1 := ⟨co_X1_answerTo, in_X1, by decide +kernel, by decide +kernel, by decide +kernel, by decide +kernel⟩
theorem mi_X1_casesKnown : MI yX1_casesKnown cX1_casesKnown 1 (some .int) 0 := ⟨co_X1_casesKnown, in_X1, by decide +kernel, by decide +kernel, by decide +kernel, by decide +kernel⟩
theorem mi_X1_casesYes : MI yX1_casesYes cX1_casesYes 1 (some .int) 0 := ⟨co_X1_casesYes, in_X1, by decide +kernel, by decide +kernel, by decide +kernel, by decide +kernel⟩
theorem mi_X1_holdAgainst : MI yX1_holdAgainst cX1_holdAgainst 4 none 2 := ⟨co_X1_holdAgainst, in_X1, by decide +kernel, by decide +kernel, by decide +kernel, by decide +kernel⟩
theorem mi_X1_isEnd : MI yX1_isEnd cX1_isEnd 1 (some .boolean) 1 := ⟨co_X1_isEnd, in_X1, by decide +kernel, by decide +kernel, by decide +kernel, by decide +kernel⟩
theorem mi_X1_isFull : MI yX1_isFull cX1_isFull 1 (some .boolean) 0 := ⟨co_X1_isFull, in_X1, by decide +kernel, by decide +kernel, by decide +kernel, by decide +kernel⟩
theorem mi_X1_worthHeld : MI yX1_worthHeld cX1_worthHeld 1 (some .int) 0 := ⟨co_X1_worthHeld, in_X1, by decide +kernel, by decide +kernel, by decide +kernel, by decide +kernel⟩
theorem mi_X1_write : MI yX1_write cX1_write 4 none 2 := ⟨co_X1_write, in_X1, by decide +kernel, by decide +kernel, by decide +kernel, by decide +kernel⟩
theorem mi_X2_daughterOf : MI yX2_daughterOf cX2_daughterOf 4 (some .int) 2 := ⟨co_X2_daughterOf, in_X2, by decide +kernel, by decide +kernel, by decide +kernel, by decide +kernel⟩
theorem mi_X2_endsOfPoint : MI yX2_endsOfPoint cX2_endsOfPoint 6 (some .int) 1 := ⟨co_X2_endsOfPoint, in_X2, by decide +kernel, by decide +kernel, by decide +kernel, by decide +kernel⟩
theorem mi_X2_figureAt : MI yX2_figureAt cX2_figureAt 3 (some .int) 2 := ⟨co_X2_figureAt, in_X2, by decide +kernel, by decide +kernel, by decide +kernel, by decide +kernel⟩
theorem mi_X2_firstAbove : MI yX2_firstAbove cX2_firstAbove 1 (some .int) 1 := ⟨co_X2_firstAbove, in_X2, by decide +kernel, by decide +kernel, by decide +kernel, by decide +kernel⟩
theorem mi_X2_ofCode : MI yX2_ofCode cX2_ofCode 5 (some .long) 1 := ⟨co_X2_ofCode, in_X2, by decide +kernel, by decide +kernel, by decide +kernel, by decide +kernel⟩
theorem mi_X2_timesSeen : MI yX2_timesSeen cX2_timesSeen 7 (some .int) 4 := ⟨co_X2_timesSeen, in_X2, by decide +kernel, by decide +kernel, by decide +kernel, by decide +kernel⟩
theorem mi_X2_wayUp : MI yX2_wayUp cX2_wayUp 5 (some .int) 2 := ⟨co_X2_wayUp, in_X2, by decide +kernel, by decide +kernel, by decide +kernel, by decide +kernel⟩
theorem mi_X2_withFigure : MI yX2_withFigure cX2_withFigure 4 (some .long) 3 := ⟨co_X2_withFigure, in_X2, by decide +kernel, by decide +kernel, by decide +kernel, by decide +kernel⟩
theorem mi_X3_dots : MI yX3_dots cX3_dots 1 (some .int) 1 := ⟨co_X3_dots, in_X3, by decide +kernel, by decide +kernel, by decide +kernel, by decide +kernel⟩
theorem mi_X3_isEven : MI yX3_isEven cX3_isEven 1 (some .boolean) 1 := ⟨co_X3_isEven, in_X3, by decide +kernel, by decide +kernel, by decide +kernel, by decide +kernel⟩
theorem mi_X3_isFigure : MI yX3_isFigure cX3_isFigure 1 (some .boolean) 1 := ⟨co_X3_isFigure, in_X3, by decide +kernel, by decide +kernel, by decide +kernel, by decide +kernel⟩
theorem mi_X3_isOfKind : MI yX3_isOfKind cX3_isOfKind 3 (some .boolean) 2 := ⟨co_X3_isOfKind, in_X3, by decide +kernel, by decide +kernel, by decide +kernel, by decide +kernel⟩
theorem mi_X3_row : MI yX3_row cX3_row 2 (some .int) 2 := ⟨co_X3_row, in_X3, by decide +kernel, by decide +kernel, by decide +kernel, by decide +kernel⟩
theorem mi_X3_toldKind : MI yX3_toldKind cX3_toldKind 1 (some .int) 1 := ⟨co_X3_toldKind, in_X3, by decide +kernel, by decide +kernel, by decide +kernel, by decide +kernel⟩
theorem mi_X4_init : MI yX4_init cX4_init 4 none 0 := ⟨co_X4_init, in_X4, by decide +kernel, by decide +kernel, by decide +kernel, by decide +kernel⟩
theorem mi_X4_agreesUpTo : MI yX4_agreesUpTo cX4_agreesUpTo 3 (some .boolean) 2 := ⟨co_X4_agreesUpTo, in_X4, by decide +kernel, by decide +kernel, by decide +kernel, by decide +kernel⟩
theorem mi_X4_answerTo : MI yX4_answerTo cX4_answerTo 2 (some .int) 1 := ⟨co_X4_answerTo, in_X4, by decide +kernel, by decide +kernel, by decide +kernel, by decide +kernel⟩
theorem mi_X4_fillWithCharts : MI yX4_fillWithCharts cX4_fillWithCharts 4 none 2 := ⟨co_X4_fillWithCharts, in_X4, by decide +kernel, by decide +kernel, by decide +kernel, by decide +kernel⟩
theorem mi_X4_lookAt : MI yX4_lookAt cX4_lookAt 8 none 2 := ⟨co_X4_lookAt, in_X4, by decide +kernel, by decide +kernel, by decide +kernel, by decide +kernel⟩
theorem mi_X4_lookThrough : MI yX4_lookThrough cX4_lookThrough 8 none 2 := ⟨co_X4_lookThrough, in_X4, by decide +kernel, by decide +kernel, by decide +kernel, by decide +kernel⟩
theorem mi_X4_mayTellMore : MI yX4_mayTellMore cX4_mayTellMore 3 (some .boolean) 1 := ⟨co_X4_mayTellMore, in_X4, by decide +kernel, by decide +kernel, by decide +kernel, by decide +kernel⟩
theorem mi_X5_init : MI yX5_init cX5_init 1 none 0 := ⟨co_X5_init, in_X5, by decide +kernel, by decide +kernel, by decide +kernel, by decide +kernel⟩
theorem mi_X5_faultHere : MI yX5_faultHere cX5_faultHere 2 (some .boolean) 1 := ⟨co_X5_faultHere, in_X5, by decide +kernel, by decide +kernel, by decide +kernel, by decide +kernel⟩
theorem mi_X5_readInto : MI yX5_readInto cX5_readInto 4 (some .boolean) 2 := ⟨co_X5_readInto, in_X5, by decide +kernel, by decide +kernel, by decide +kernel, by decide +kernel⟩
theorem mi_X5_readRule : MI yX5_readRule cX5_readRule 3 (some .boolean) 1 := ⟨co_X5_readRule, in_X5, by decide +kernel, by decide +kernel, by decide +kernel, by decide +kernel⟩
theorem mi_X5_readTest : MI yX5_readTest cX5_readTest 6 (some .boolean) 1 := ⟨co_X5_readTest, in_X5, by decide +kernel, by decide +kernel, by decide +kernel, by decide +kernel⟩
theorem mi_X5_take : MI yX5_take cX5_take 2 (some .boolean) 1 := ⟨co_X5_take, in_X5, by decide +kernel, by decide +kernel, by decide +kernel, by decide +kernel⟩
theorem mi_X5_takeNumber : MI yX5_takeNumber cX5_takeNumber 3 (some .boolean) 2 := ⟨co_X5_takeNumber, in_X5, by decide +kernel, by decide +kernel, by decide +kernel, by decide +kernel⟩
theorem mi_X6_init : MI yX6_init cX6_init 1 none 0 := ⟨co_X6_init, in_X6, by decide +kernel, by decide +kernel, by decide +kernel, by decide +kernel⟩
theorem mi_X6_addTest : MI yX6_addTest cX6_addTest 5 none 3 := ⟨co_X6_addTest, in_X6, by decide +kernel, by decide +kernel, by decide +kernel, by decide +kernel⟩
theorem mi_X6_beginRule : MI yX6_beginRule cX6_beginRule 1 none 0 := ⟨co_X6_beginRule, in_X6, by decide +kernel, by decide +kernel, by decide +kernel, by decide +kernel⟩
theorem mi_X6_endRule : MI yX6_endRule cX6_endRule 2 none 1 := ⟨co_X6_endRule, in_X6, by decide +kernel, by decide +kernel, by decide +kernel, by decide +kernel⟩
theorem mi_X6_firstThatHolds : MI yX6_firstThatHolds cX6_firstThatHolds 4 (some .int) 1 := ⟨co_X6_firstThatHolds, in_X6, by decide +kernel, by decide +kernel, by decide +kernel, by decide +kernel⟩
theorem mi_X6_hasRule : MI yX6_hasRule cX6_hasRule 2 (some .boolean) 1 := ⟨co_X6_hasRule, in_X6, by decide +kernel, by decide +kernel, by decide +kernel, by decide +kernel⟩
theorem mi_X6_isFull : MI yX6_isFull cX6_isFull 1 (some .boolean) 0 := ⟨co_X6_isFull, in_X6, by decide +kernel, by decide +kernel, by decide +kernel, by decide +kernel⟩
theorem mi_X6_isTrueOf : MI yX6_isTrueOf cX6_isTrueOf 6 (some .boolean) 2 := ⟨co_X6_isTrueOf, in_X6, by decide +kernel, by decide +kernel, by decide +kernel, by decide +kernel⟩
theorem mi_X6_numberSaid : MI yX6_numberSaid cX6_numberSaid 2 (some .int) 1 := ⟨co_X6_numberSaid, in_X6, by decide +kernel, by decide +kernel, by decide +kernel, by decide +kernel⟩
theorem mi_X6_testIsTrue : MI yX6_testIsTrue cX6_testIsTrue 5 (some .boolean) 4 := ⟨co_X6_testIsTrue, in_X6, by decide +kernel, by decide +kernel, by decide +kernel, by decide +kernel⟩
theorem mi_X7_init : MI yX7_init cX7_init 1 none 0 := ⟨co_X7_init, in_X7, by decide +kernel, by decide +kernel, by decide +kernel, by decide +kernel⟩
theorem mi_X7_areWithin : MI yX7_areWithin cX7_areWithin 6 (some .boolean) 4 := ⟨co_X7_areWithin, in_X7, by decide +kernel, by decide +kernel, by decide +kernel, by decide +kernel⟩
theorem mi_X7_begin : MI yX7_begin cX7_begin 4 none 2 := ⟨co_X7_begin, in_X7, by decide +kernel, by decide +kernel, by decide +kernel, by decide +kernel⟩
theorem mi_X7_drawnRows : MI yX7_drawnRows cX7_drawnRows 5 (some .long) 1 := ⟨co_X7_drawnRows, in_X7, by decide +kernel, by decide +kernel, by decide +kernel, by decide +kernel⟩
theorem mi_X7_findingOf : MI yX7_findingOf cX7_findingOf 3 (some .int) 2 := ⟨co_X7_findingOf, in_X7, by decide +kernel, by decide +kernel, by decide +kernel, by decide +kernel⟩
theorem mi_X7_forget : MI yX7_forget cX7_forget 1 none 0 := ⟨co_X7_forget, in_X7, by decide +kernel, by decide +kernel, by decide +kernel, by decide +kernel⟩
theorem mi_X7_hasItems : MI yX7_hasItems cX7_hasItems 3 (some .boolean) 2 := ⟨co_X7_hasItems, in_X7, by decide +kernel, by decide +kernel, by decide +kernel, by decide +kernel⟩
theorem mi_X7_isLane : MI yX7_isLane cX7_isLane 1 (some .boolean) 1 := ⟨co_X7_isLane, in_X7, by decide +kernel, by decide +kernel, by decide +kernel, by decide +kernel⟩
theorem mi_X7_isMissing : MI yX7_isMissing cX7_isMissing 1 (some .boolean) 0 := ⟨co_X7_isMissing, in_X7, by decide +kernel, by decide +kernel, by decide +kernel, by decide +kernel⟩
theorem mi_X7_narrowed : MI yX7_narrowed cX7_narrowed 2 (some .int) 1 := ⟨co_X7_narrowed, in_X7, by decide +kernel, by decide +kernel, by decide +kernel, by decide +kernel⟩
theorem mi_X7_oddOnes : MI yX7_oddOnes cX7_oddOnes 4 (some .int) 1 := ⟨co_X7_oddOnes, in_X7, by decide +kernel, by decide +kernel, by decide +kernel, by decide +kernel⟩
theorem mi_X7_put : MI yX7_put cX7_put 3 (some .int) 2 := ⟨co_X7_put, in_X7, by decide +kernel, by decide +kernel, by decide +kernel, by decide +kernel⟩
theorem mi_X7_untornRows : MI yX7_untornRows cX7_untornRows 5 (some .long) 1 := ⟨co_X7_untornRows, in_X7, by decide +kernel, by decide +kernel, by decide +kernel, by decide +kernel⟩
theorem mi_X8_init : MI yX8_init cX8_init 1 none 0 := ⟨co_X8_init, in_X8, by decide +kernel, by decide +kernel, by decide +kernel, by decide +kernel⟩
theorem mi_X8_append : MI yX8_append cX8_append 5 none 2 := ⟨co_X8_append, in_X8, by decide +kernel, by decide +kernel, by decide +kernel, by decide +kernel⟩
theorem mi_X8_byteAt : MI yX8_byteAt cX8_byteAt 2 (some .int) 1 := ⟨co_X8_byteAt, in_X8, by decide +kernel, by decide +kernel, by decide +kernel, by decide +kernel⟩
theorem mi_X8_hasRoom : MI yX8_hasRoom cX8_hasRoom 2 (some .boolean) 1 := ⟨co_X8_hasRoom, in_X8, by decide +kernel, by decide +kernel, by decide +kernel, by decide +kernel⟩
theorem mi_X9_init : MI yX9_init cX9_init 1 none 0 := ⟨co_X9_init, in_X9, by decide +kernel, by decide +kernel, by decide +kernel, by decide +kernel⟩
theorem mi_X9_cut : MI yX9_cut cX9_cut 5 none 1 := ⟨co_X9_cut, in_X9, by decide +kernel, by decide +kernel, by decide +kernel, by decide +kernel⟩
theorem mi_X9_joined : MI yX9_joined cX9_joined 7 (some .int) 4 := ⟨co_X9_joined, in_X9, by decide +kernel, by decide +kernel, by decide +kernel, by decide +kernel⟩
theorem mi_X9_kindOf : MI yX9_kindOf cX9_kindOf 2 (some .int) 1 := ⟨co_X9_kindOf, in_X9, by decide +kernel, by decide +kernel, by decide +kernel, by decide +kernel⟩
theorem mi_X9_name : MI yX9_name cX9_name 3 none 2 := ⟨co_X9_name, in_X9, by decide +kernel, by decide +kernel, by decide +kernel, by decide +kernel⟩
theorem mi_X9_place : MI yX9_place cX9_place 4 none 3 := ⟨co_X9_place, in_X9, by decide +kernel, by decide +kernel, by decide +kernel, by decide +kernel⟩
theorem mi_X9_sortOf : MI yX9_sortOf cX9_sortOf 1 (some .int) 1 := ⟨co_X9_sortOf, in_X9, by decide +kernel, by decide +kernel, by decide +kernel, by decide +kernel⟩
theorem mi_X9_startOf : MI yX9_startOf cX9_startOf 2 (some .int) 1 := ⟨co_X9_startOf, in_X9, by decide +kernel, by decide +kernel, by decide +kernel, by decide +kernel⟩
theorem mi_X9_valueOf : MI yX9_valueOf cX9_valueOf 2 (some .int) 1 := ⟨co_X9_valueOf, in_X9, by decide +kernel, by decide +kernel, by decide +kernel, by decide +kernel⟩
theorem mi_X11_init : MI yX11_init cX11_init 1 none 0 := ⟨co_X11_init, in_X11, by decide +kernel, by decide +kernel, by decide +kernel, by decide +kernel⟩
theorem mi_X11_above : MI yX11_above cX11_above 1 (some .int) 1 := ⟨co_X11_above, in_X11, by decide +kernel, by decide +kernel, by decide +kernel, by decide +kernel⟩
theorem mi_X11_add : MI yX11_add cX11_add 3 (some .int) 2 := ⟨co_X11_add, in_X11, by decide +kernel, by decide +kernel, by decide +kernel, by decide +kernel⟩
theorem mi_X11_as : MI yX11_as cX11_as 4 (some .int) 2 := ⟨co_X11_as, in_X11, by decide +kernel, by decide +kernel, by decide +kernel, by decide +kernel⟩
theorem mi_X11_ask : MI yX11_ask cX11_ask 3 (some .int) 2 := ⟨co_X11_ask, in_X11, by decide +kernel, by decide +kernel, by decide +kernel, by decide +kernel⟩
theorem mi_X11_at : MI yX11_at cX11_at 2 (some .int) 1 := ⟨co_X11_at, in_X11, by decide +kernel, by decide +kernel, by decide +kernel, by decide +kernel⟩
theorem mi_X11_bad : MI yX11_bad cX11_bad 2 none 1 := ⟨co_X11_bad, in_X11, by decide +kernel, by decide +kernel, by decide +kernel, by decide +kernel⟩
theorem mi_X11_began : MI yX11_began cX11_began 2 none 1 := ⟨co_X11_began, in_X11, by decide +kernel, by decide +kernel, by decide +kernel, by decide +kernel⟩
theorem mi_X11_best : MI yX11_best cX11_best 5 (some .int) 0 := ⟨co_X11_best, in_X11, by decide +kernel, by decide +kernel, by decide +kernel, by decide +kernel⟩
theorem mi_X11_byteAt : MI yX11_byteAt cX11_byteAt 2 (some .int) 1 := ⟨co_X11_byteAt, in_X11, by decide +kernel, by decide +kernel, by decide +kernel, by decide +kernel⟩
theorem mi_X11_cameSo : MI yX11_cameSo cX11_cameSo 4 (some .int) 1 := ⟨co_X11_cameSo, in_X11, by decide +kernel, by decide +kernel, by decide +kernel, by decide +kernel⟩
theorem mi_X11_cast : MI yX11_cast cX11_cast 6 (some .int) 2 := ⟨co_X11_cast, in_X11, by decide +kernel, by decide +kernel, by decide +kernel, by decide +kernel⟩
theorem mi_X11_chart : MI yX11_chart cX11_chart 3 (some .int) 1 := ⟨co_X11_chart, in_X11, by decide +kernel, by decide +kernel, by decide +kernel, by decide +kernel⟩
theorem mi_X11_copy : MI yX11_copy cX11_copy 9 (some .int) 5 := ⟨co_X11_copy, in_X11, by decide +kernel, by decide +kernel, by decide +kernel, by decide +kernel⟩
theorem mi_X11_count : MI yX11_count cX11_count 4 (some .int) 1 := ⟨co_X11_count, in_X11, by decide +kernel, by decide +kernel, by decide +kernel, by decide +kernel⟩
theorem mi_X11_drawing : MI yX11_drawing cX11_drawing 14 (some .int) 3 := ⟨co_X11_drawing, in_X11, by decide +kernel, by decide +kernel, by decide +kernel, by decide +kernel⟩
theorem mi_X11_drop : MI yX11_drop cX11_drop 2 (some .int) 1 := ⟨co_X11_drop, in_X11, by decide +kernel, by decide +kernel, by decide +kernel, by decide +kernel⟩
theorem mi_X11_fault : MI yX11_fault cX11_fault 1 (some .int) 0 := ⟨co_X11_fault, in_X11, by decide +kernel, by decide +kernel, by decide +kernel, by decide +kernel⟩
theorem mi_X11_feed : MI yX11_feed cX11_feed 5 (some .int) 2 := ⟨co_X11_feed, in_X11, by decide +kernel, by decide +kernel, by decide +kernel, by decide +kernel⟩
theorem mi_X11_found : MI yX11_found cX11_found 2 (some .int) 1 := ⟨co_X11_found, in_X11, by decide +kernel, by decide +kernel, by decide +kernel, by decide +kernel⟩
theorem mi_X11_holds : MI yX11_holds cX11_holds 2 (some .int) 1 := ⟨co_X11_holds, in_X11, by decide +kernel, by decide +kernel, by decide +kernel, by decide +kernel⟩
theorem mi_X11_holdsIn : MI yX11_holdsIn cX11_holdsIn 5 (some .int) 2 := ⟨co_X11_holdsIn, in_X11, by decide +kernel, by decide +kernel, by decide +kernel, by decide +kernel⟩
theorem mi_X11_in : MI yX11_in cX11_in 6 (some .boolean) 3 := ⟨co_X11_in, in_X11, by decide +kernel, by decide +kernel, by decide +kernel, by decide +kernel⟩
theorem mi_X11_isFigure : MI yX11_isFigure cX11_isFigure 1 (some .boolean) 1 := ⟨co_X11_isFigure, in_X11, by decide +kernel, by decide +kernel, by decide +kernel, by decide +kernel⟩
theorem mi_X11_isFigure16 : MI yX11_isFigure16 cX11_isFigure16 1 (some .boolean) 1 := ⟨co_X11_isFigure16, in_X11, by decide +kernel, by decide +kernel, by decide +kernel, by decide +kernel⟩
theorem mi_X11_isLetter : MI yX11_isLetter cX11_isLetter 1 (some .boolean) 1 := ⟨co_X11_isLetter, in_X11, by decide +kernel, by decide +kernel, by decide +kernel, by decide +kernel⟩
theorem mi_X11_isRule : MI yX11_isRule cX11_isRule 2 (some .boolean) 1 := ⟨co_X11_isRule, in_X11, by decide +kernel, by decide +kernel, by decide +kernel, by decide +kernel⟩
theorem mi_X11_isSheet : MI yX11_isSheet cX11_isSheet 1 (some .boolean) 1 := ⟨co_X11_isSheet, in_X11, by decide +kernel, by decide +kernel, by decide +kernel, by decide +kernel⟩
theorem mi_X11_isTrue : MI yX11_isTrue cX11_isTrue 9 (some .boolean) 1 := ⟨co_X11_isTrue, in_X11, by decide +kernel, by decide +kernel, by decide +kernel, by decide +kernel⟩
theorem mi_X11_kind : MI yX11_kind cX11_kind 2 (some .int) 1 := ⟨co_X11_kind, in_X11, by decide +kernel, by decide +kernel, by decide +kernel, by decide +kernel⟩
theorem mi_X11_kindOf : MI yX11_kindOf cX11_kindOf 2 (some .int) 1 := ⟨co_X11_kindOf, in_X11, by decide +kernel, by decide +kernel, by decide +kernel, by decide +kernel⟩
theorem mi_X11_lay : MI yX11_lay cX11_lay 4 none 1 := ⟨co_X11_lay, in_X11, by decide +kernel, by decide +kernel, by decide +kernel, by decide +kernel⟩
theorem mi_X11_marked : MI yX11_marked cX11_marked 3 (some .int) 1 := ⟨co_X11_marked, in_X11, by decide +kernel, by decide +kernel, by decide +kernel, by decide +kernel⟩
theorem mi_X11_need : MI yX11_need cX11_need 2 none 1 := ⟨co_X11_need, in_X11, by decide +kernel, by decide +kernel, by decide +kernel, by decide +kernel⟩
theorem mi_X11_numberIn : MI yX11_numberIn cX11_numberIn 5 (some .int) 2 := ⟨co_X11_numberIn, in_X11, by decide +kernel, by decide +kernel, by decide +kernel, by decide +kernel⟩
theorem mi_X11_oddSize : MI yX11_oddSize cX11_oddSize 2 (some .int) 1 := ⟨co_X11_oddSize, in_X11, by decide +kernel, by decide +kernel, by decide +kernel, by decide +kernel⟩
theorem mi_X11_point : MI yX11_point cX11_point 7 (some .int) 0 := ⟨co_X11_point, in_X11, by decide +kernel, by decide +kernel, by decide +kernel, by decide +kernel⟩
theorem mi_X11_readRule : MI yX11_readRule cX11_readRule 3 none 0 := ⟨co_X11_readRule, in_X11, by decide +kernel, by decide +kernel, by decide +kernel, by decide +kernel⟩
theorem mi_X11_readTest : MI yX11_readTest cX11_readTest 6 none 1 := ⟨co_X11_readTest, in_X11, by decide +kernel, by decide +kernel, by decide +kernel, by decide +kernel⟩
theorem mi_X11_record : MI yX11_record cX11_record 2 (some .int) 1 := ⟨co_X11_record, in_X11, by decide +kernel, by decide +kernel, by decide +kernel, by decide +kernel⟩
theorem mi_X11_rules : MI yX11_rules cX11_rules 3 (some .int) 0 := ⟨co_X11_rules, in_X11, by decide +kernel, by decide +kernel, by decide +kernel, by decide +kernel⟩
theorem mi_X11_said : MI yX11_said cX11_said 3 (some .int) 1 := ⟨co_X11_said, in_X11, by decide +kernel, by decide +kernel, by decide +kernel, by decide +kernel⟩
theorem mi_X11_seen : MI yX11_seen cX11_seen 4 (some .int) 1 := ⟨co_X11_seen, in_X11, by decide +kernel, by decide +kernel, by decide +kernel, by decide +kernel⟩
theorem mi_X11_set : MI yX11_set cX11_set 4 (some .int) 3 := ⟨co_X11_set, in_X11, by decide +kernel, by decide +kernel, by decide +kernel, by decide +kernel⟩
theorem mi_X11_sheet : MI yX11_sheet cX11_sheet 5 (some .int) 3 := ⟨co_X11_sheet, in_X11, by decide +kernel, by decide +kernel, by decide +kernel, by decide +kernel⟩
theorem mi_X11_singles : MI yX11_singles cX11_singles 1 (some .int) 1 := ⟨co_X11_singles, in_X11, by decide +kernel, by decide +kernel, by decide +kernel, by decide +kernel⟩
theorem mi_X11_sized : MI yX11_sized cX11_sized 4 (some .int) 1 := ⟨co_X11_sized, in_X11, by decide +kernel, by decide +kernel, by decide +kernel, by decide +kernel⟩
theorem mi_X11_status : MI yX11_status cX11_status 1 (some .int) 0 := ⟨co_X11_status, in_X11, by decide +kernel, by decide +kernel, by decide +kernel, by decide +kernel⟩
theorem mi_X11_step : MI yX11_step cX11_step 2 none 0 := ⟨co_X11_step, in_X11, by decide +kernel, by decide +kernel, by decide +kernel, by decide +kernel⟩
theorem mi_X11_trace : MI yX11_trace cX11_trace 2 (some .int) 1 := ⟨co_X11_trace, in_X11, by decide +kernel, by decide +kernel, by decide +kernel, by decide +kernel⟩
theorem mi_X11_word : MI yX11_word cX11_word 4 (some .long) 0 := ⟨co_X11_word, in_X11, by decide +kernel, by decide +kernel, by decide +kernel, by decide +kernel⟩
theorem mi_X11_worth : MI yX11_worth cX11_worth 3 (some .int) 2 := ⟨co_X11_worth, in_X11, by decide +kernel, by decide +kernel, by decide +kernel, by decide +kernel⟩
theorem mi_X11_worthOf : MI yX11_worthOf cX11_worthOf 4 (some .int) 1 := ⟨co_X11_worthOf, in_X11, by decide +kernel, by decide +kernel, by decide +kernel, by decide +kernel⟩
theorem mi_J6_bitCount_0f7a4 : MI yJ6_bitCount_0f7a4 cJ6_bitCount_0f7a4 1 (some .int) 1 := ⟨co_J6_bitCount_0f7a4, in_J6, by decide +kernel, by decide +kernel, by decide +kernel, by decide +kernel⟩
theorem mi_J13_bitCount_95d88 : MI yJ13_bitCount_95d88 cJ13_bitCount_95d88 2 (some .int) 1 := ⟨co_J13_bitCount_95d88, in_J13, by decide +kernel, by decide +kernel, by decide +kernel, by decide +kernel⟩
end
section
theorem dX0_init_0 : decode cX0_init 0 = .ok (.aload_n 0, 1) := by decide +kernel
theorem dX0_init_1 : decode cX0_init 1 = .ok (.invokespecial 3, 3) := by decide +kernel
theorem dX0_init_4 : decode cX0_init 4 = .ok (.aload_n 0, 1) := by decide +kernel
theorem dX0_init_5 : decode cX0_init 5 = .ok (.bipush 16, 2) := by decide +kernel
theorem dX0_init_7 : decode cX0_init 7 = .ok (.newarray .int, 2) := by decide +kernel
theorem dX0_init_9 : decode cX0_init 9 = .ok (.putfield 11, 3) := by decide +kernel
theorem dX0_init_12 : decode cX0_init 12 = .ok (.aload_n 0, 1) := by decide +kernel
theorem dX0_init_13 : decode cX0_init 13 = .ok (.iconst 0, 1) := by decide +kernel
theorem dX0_init_14 : decode cX0_init 14 = .ok (.putfield 15, 3) := by decide +kernel
theorem dX0_init_17 : decode cX0_init 17 = .ok (.return_, 1) := by decide +kernel
theorem dX0_emptyTrace_0 : decode cX0_emptyTrace 0 = .ok (.aload_n 0, 1) := by decide +kernel
theorem dX0_emptyTrace_1 : decode cX0_emptyTrace 1 = .ok (.iconst 0, 1) := by decide +kernel
theorem dX0_emptyTrace_2 : decode cX0_emptyTrace 2 = .ok (.putfield 15, 3) := by decide +kernel
theorem dX0_emptyTrace_5 : decode cX0_emptyTrace 5 = .ok (.return_, 1) := by decide +kernel
theorem dX0_traced_0 : decode cX0_traced 0 = .ok (.iload_n 1, 1) := by decide +kernel
theorem dX0_traced_1 : decode cX0_traced 1 = .ok (.ifCond .lt 20, 3) := by decide +kernel
theorem dX0_traced_4 : decode cX0_traced 4 = .ok (.iload_n 1, 1) := by decide +kernel
theorem dX0_traced_5 : decode cX0_traced 5 = .ok (.aload_n 0, 1) := by decide +kernel
theorem dX0_traced_6 : decode cX0_traced 6 = .ok (.getfield 15, 3) := by decide +kernel
theorem dX0_traced_9 : decode cX0_traced 9 = .ok (.if_icmp .ge 12, 3) := by decide +kernel
theorem dX0_traced_12 : decode cX0_traced 12 = .ok (.aload_n 0, 1) := by decide +kernel
theorem dX0_traced_13 : decode cX0_traced 13 = .ok (.getfield 11, 3) := by decide +kernel
theorem dX0_traced_16 : decode cX0_traced 16 = .ok (.iload_n 1, 1) := by decide +kernel
theorem dX0_traced_17 : decode cX0_traced 17 = .ok (.iaload, 1) := by decide +kernel
theorem dX0_traced_18 : decode cX0_traced 18 = .ok (.goto 5, 3) := by decide +kernel
theorem dX0_traced_21 : decode cX0_traced 21 = .ok (.ldc 19, 2) := by decide +kernel
theorem dX0_traced_23 : decode cX0_traced 23 = .ok (.ireturn, 1) := by decide +kernel
theorem dX0_sizeOf_0 : decode cX0_sizeOf 0 = .ok (.iload_n 1, 1) := by decide +kernel
theorem dX0_sizeOf_1 : decode cX0_sizeOf 1 = .ok (.invokestatic 20, 3) := by decide +kernel
theorem dX0_sizeOf_4 : decode cX0_sizeOf 4 = .ok (.lookupswitch 40 #[(1, 34), (2, 28)], 28) := by decide +kernel
theorem dX0_sizeOf_32 : decode cX0_sizeOf 32 = .ok (.aload_n 0, 1) := by decide +kernel
theorem dX0_sizeOf_33 : decode cX0_sizeOf 33 = .ok (.iload_n 1, 1) := by decide +kernel
theorem dX0_sizeOf_34 : decode cX0_sizeOf 34 = .ok (.invokevirtual 26, 3) := by decide +kernel
theorem dX0_sizeOf_37 : decode cX0_sizeOf 37 = .ok (.ireturn, 1) := by decide +kernel
theorem dX0_sizeOf_38 : decode cX0_sizeOf 38 = .ok (.aload_n 0, 1) := by decide +kernel
theorem dX0_sizeOf_39 : decode cX0_sizeOf 39 = .ok (.iload_n 1, 1) := by decide +kernel
theorem dX0_sizeOf_40 : decode cX0_sizeOf 40 = .ok (.invokevirtual 29, 3) := by decide +kernel
theorem dX0_sizeOf_43 : decode cX0_sizeOf 43 = .ok (.ireturn, 1) := by decide +kernel
theorem dX0_sizeOf_44 : decode cX0_sizeOf 44 = .ok (.aload_n 0, 1) := by decide +kernel
theorem dX0_sizeOf_45 : decode cX0_sizeOf 45 = .ok (.iload_n 1, 1) := by decide +kernel
theorem dX0_sizeOf_46 : decode cX0_sizeOf 46 = .ok (.invokevirtual 32, 3) := by decide +kernel
theorem dX0_sizeOf_49 : decode cX0_sizeOf 49 = .ok (.ireturn, 1) := by decide +kernel
theorem dX0_markOf_0 : decode cX0_markOf 0 = .ok (.iload_n 1, 1) := by decide +kernel
theorem dX0_markOf_1 : decode cX0_markOf 1 = .ok (.invokestatic 20, 3) := by decide +kernel
theorem dX0_markOf_4 : decode cX0_markOf 4 = .ok (.lookupswitch 40 #[(1, 34), (2, 28)], 28) := by decide +kernel
theorem dX0_markOf_32 : decode cX0_markOf 32 = .ok (.aload_n 0, 1) := by decide +kernel
theorem dX0_markOf_33 : decode cX0_markOf 33 = .ok (.iload_n 1, 1) := by decide +kernel
theorem dX0_markOf_34 : decode cX0_markOf 34 = .ok (.invokevirtual 35, 3) := by decide +kernel
theorem dX0_markOf_37 : decode cX0_markOf 37 = .ok (.ireturn, 1) := by decide +kernel
theorem dX0_markOf_38 : decode cX0_markOf 38 = .ok (.aload_n 0, 1) := by decide +kernel
theorem dX0_markOf_39 : decode cX0_markOf 39 = .ok (.iload_n 1, 1) := by decide +kernel
theorem dX0_markOf_40 : decode cX0_markOf 40 = .ok (.invokevirtual 38, 3) := by decide +kernel
theorem dX0_markOf_43 : decode cX0_markOf 43 = .ok (.ireturn, 1) := by decide +kernel
theorem dX0_markOf_44 : decode cX0_markOf 44 = .ok (.aload_n 0, 1) := by decide +kernel
theorem dX0_markOf_45 : decode cX0_markOf 45 = .ok (.iload_n 1, 1) := by decide +kernel
theorem dX0_markOf_46 : decode cX0_markOf 46 = .ok (.invokevirtual 41, 3) := by decide +kernel
theorem dX0_markOf_49 : decode cX0_markOf 49 = .ok (.ireturn, 1) := by decide +kernel
theorem dX0_lentSize_0 : decode cX0_lentSize 0 = .ok (.aload_n 0, 1) := by decide +kernel
theorem dX0_lentSize_1 : decode cX0_lentSize 1 = .ok (.bipush 10, 2) := by decide +kernel
theorem dX0_lentSize_3 : decode cX0_lentSize 3 = .ok (.invokevirtual 44, 3) := by decide +kernel
theorem dX0_lentSize_6 : decode cX0_lentSize 6 = .ok (.iload_n 1, 1) := by decide +kernel
theorem dX0_lentSize_7 : decode cX0_lentSize 7 = .ok (.invokestatic 48, 3) := by decide +kernel
theorem dX0_lentSize_10 : decode cX0_lentSize 10 = .ok (.ireturn, 1) := by decide +kernel
theorem dX0_evenSize_0 : decode cX0_evenSize 0 = .ok (.aload_n 0, 1) := by decide +kernel
theorem dX0_evenSize_1 : decode cX0_evenSize 1 = .ok (.bipush 11, 2) := by decide +kernel
theorem dX0_evenSize_3 : decode cX0_evenSize 3 = .ok (.invokevirtual 44, 3) := by decide +kernel
theorem dX0_evenSize_6 : decode cX0_evenSize 6 = .ok (.aload_n 0, 1) := by decide +kernel
theorem dX0_evenSize_7 : decode cX0_evenSize 7 = .ok (.iload_n 1, 1) := by decide +kernel
theorem dX0_evenSize_8 : decode cX0_evenSize 8 = .ok (.invokevirtual 51, 3) := by decide +kernel
theorem dX0_evenSize_11 : decode cX0_evenSize 11 = .ok (.iload_n 1, 1) := by decide +kernel
theorem dX0_evenSize_12 : decode cX0_evenSize 12 = .ok (.iadd, 1) := by decide +kernel
theorem dX0_evenSize_13 : decode cX0_evenSize 13 = .ok (.ireturn, 1) := by decide +kernel
theorem dX0_fastSize_0 : decode cX0_fastSize 0 = .ok (.aload_n 0, 1) := by decide +kernel
theorem dX0_fastSize_1 : decode cX0_fastSize 1 = .ok (.bipush 12, 2) := by decide +kernel
theorem dX0_fastSize_3 : decode cX0_fastSize 3 = .ok (.invokevirtual 44, 3) := by decide +kernel
theorem dX0_fastSize_6 : decode cX0_fastSize 6 = .ok (.aload_n 0, 1) := by decide +kernel
theorem dX0_fastSize_7 : decode cX0_fastSize 7 = .ok (.iload_n 1, 1) := by decide +kernel
theorem dX0_fastSize_8 : decode cX0_fastSize 8 = .ok (.invokevirtual 29, 3) := by decide +kernel
theorem dX0_fastSize_11 : decode cX0_fastSize 11 = .ok (.aload_n 0, 1) := by decide +kernel
theorem dX0_fastSize_12 : decode cX0_fastSize 12 = .ok (.iload_n 1, 1) := by decide +kernel
theorem dX0_fastSize_13 : decode cX0_fastSize 13 = .ok (.invokevirtual 35, 3) := by decide +kernel
theorem dX0_fastSize_16 : decode cX0_fastSize 16 = .ok (.iadd, 1) := by decide +kernel
theorem dX0_fastSize_17 : decode cX0_fastSize 17 = .ok (.ireturn, 1) := by decide +kernel
theorem dX0_oddSize_0 : decode cX0_oddSize 0 = .ok (.aload_n 0, 1) := by decide +kernel
theorem dX0_oddSize_1 : decode cX0_oddSize 1 = .ok (.bipush 13, 2) := by decide +kernel
theorem dX0_oddSize_3 : decode cX0_oddSize 3 = .ok (.invokevirtual 44, 3) := by decide +kernel
theorem dX0_oddSize_6 : decode cX0_oddSize 6 = .ok (.iconst 2, 1) := by decide +kernel
theorem dX0_oddSize_7 : decode cX0_oddSize 7 = .ok (.aload_n 0, 1) := by decide +kernel
theorem dX0_oddSize_8 : decode cX0_oddSize 8 = .ok (.iload_n 1, 1) := by decide +kernel
theorem dX0_oddSize_9 : decode cX0_oddSize 9 = .ok (.invokevirtual 51, 3) := by decide +kernel
theorem dX0_oddSize_12 : decode cX0_oddSize 12 = .ok (.imul, 1) := by decide +kernel
theorem dX0_oddSize_13 : decode cX0_oddSize 13 = .ok (.ireturn, 1) := by decide +kernel
theorem dX0_lentMark_0 : decode cX0_lentMark 0 = .ok (.aload_n 0, 1) := by decide +kernel
theorem dX0_lentMark_1 : decode cX0_lentMark 1 = .ok (.bipush 20, 2) := by decide +kernel
theorem dX0_lentMark_3 : decode cX0_lentMark 3 = .ok (.invokevirtual 44, 3) := by decide +kernel
theorem dX0_lentMark_6 : decode cX0_lentMark 6 = .ok (.iload_n 1, 1) := by decide +kernel
theorem dX0_lentMark_7 : decode cX0_lentMark 7 = .ok (.ireturn, 1) := by decide +kernel
theorem dX0_fastMark_0 : decode cX0_fastMark 0 = .ok (.aload_n 0, 1) := by decide +kernel
theorem dX0_fastMark_1 : decode cX0_fastMark 1 = .ok (.bipush 21, 2) := by decide +kernel
theorem dX0_fastMark_3 : decode cX0_fastMark 3 = .ok (.invokevirtual 44, 3) := by decide +kernel
theorem dX0_fastMark_6 : decode cX0_fastMark 6 = .ok (.aload_n 0, 1) := by decide +kernel
theorem dX0_fastMark_7 : decode cX0_fastMark 7 = .ok (.iload_n 1, 1) := by decide +kernel
theorem dX0_fastMark_8 : decode cX0_fastMark 8 = .ok (.invokevirtual 38, 3) := by decide +kernel
theorem dX0_fastMark_11 : decode cX0_fastMark 11 = .ok (.bipush 100, 2) := by decide +kernel
theorem dX0_fastMark_13 : decode cX0_fastMark 13 = .ok (.iadd, 1) := by decide +kernel
theorem dX0_fastMark_14 : decode cX0_fastMark 14 = .ok (.ireturn, 1) := by decide +kernel
theorem dX0_oddMark_0 : decode cX0_oddMark 0 = .ok (.aload_n 0, 1) := by decide +kernel
theorem dX0_oddMark_1 : decode cX0_oddMark 1 = .ok (.bipush 22, 2) := by decide +kernel
theorem dX0_oddMark_3 : decode cX0_oddMark 3 = .ok (.invokevirtual 44, 3) := by decide +kernel
theorem dX0_oddMark_6 : decode cX0_oddMark 6 = .ok (.aload_n 0, 1) := by decide +kernel
theorem dX0_oddMark_7 : decode cX0_oddMark 7 = .ok (.iload_n 1, 1) := by decide +kernel
theorem dX0_oddMark_8 : decode cX0_oddMark 8 = .ok (.invokevirtual 38, 3) := by decide +kernel
theorem dX0_oddMark_11 : decode cX0_oddMark 11 = .ok (.aload_n 0, 1) := by decide +kernel
theorem dX0_oddMark_12 : decode cX0_oddMark 12 = .ok (.iload_n 1, 1) := by decide +kernel
theorem dX0_oddMark_13 : decode cX0_oddMark 13 = .ok (.invokevirtual 32, 3) := by decide +kernel
theorem dX0_oddMark_16 : decode cX0_oddMark 16 = .ok (.iadd, 1) := by decide +kernel
theorem dX0_oddMark_17 : decode cX0_oddMark 17 = .ok (.ireturn, 1) := by decide +kernel
theorem dX0_begin_0 : decode cX0_begin 0 = .ok (.aload_n 0, 1) := by decide +kernel
theorem dX0_begin_1 : decode cX0_begin 1 = .ok (.getfield 15, 3) := by decide +kernel
theorem dX0_begin_4 : decode cX0_begin 4 = .ok (.bipush 16, 2) := by decide +kernel
theorem dX0_begin_6 : decode cX0_begin 6 = .ok (.if_icmp .ge 23, 3) := by decide +kernel
theorem dX0_begin_9 : decode cX0_begin 9 = .ok (.aload_n 0, 1) := by decide +kernel
theorem dX0_begin_10 : decode cX0_begin 10 = .ok (.getfield 11, 3) := by decide +kernel
theorem dX0_begin_13 : decode cX0_begin 13 = .ok (.aload_n 0, 1) := by decide +kernel
theorem dX0_begin_14 : decode cX0_begin 14 = .ok (.getfield 15, 3) := by decide +kernel
theorem dX0_begin_17 : decode cX0_begin 17 = .ok (.iload_n 1, 1) := by decide +kernel
theorem dX0_begin_18 : decode cX0_begin 18 = .ok (.iastore, 1) := by decide +kernel
theorem dX0_begin_19 : decode cX0_begin 19 = .ok (.aload_n 0, 1) := by decide +kernel
theorem dX0_begin_20 : decode cX0_begin 20 = .ok (.dup, 1) := by decide +kernel
theorem dX0_begin_21 : decode cX0_begin 21 = .ok (.getfield 15, 3) := by decide +kernel
theorem dX0_begin_24 : decode cX0_begin 24 = .ok (.iconst 1, 1) := by decide +kernel
theorem dX0_begin_25 : decode cX0_begin 25 = .ok (.iadd, 1) := by decide +kernel
theorem dX0_begin_26 : decode cX0_begin 26 = .ok (.putfield 15, 3) := by decide +kernel
theorem dX0_begin_29 : decode cX0_begin 29 = .ok (.return_, 1) := by decide +kernel
theorem dX1_init_0 : decode cX1_init 0 = .ok (.aload_n 0, 1) := by decide +kernel
theorem dX1_init_1 : decode cX1_init 1 = .ok (.invokespecial 3, 3) := by decide +kernel
theorem dX1_init_4 : decode cX1_init 4 = .ok (.aload_n 0, 1) := by decide +kernel
theorem dX1_init_5 : decode cX1_init 5 = .ok (.bipush 100, 2) := by decide +kernel
theorem dX1_init_7 : decode cX1_init 7 = .ok (.newarray .long, 2) := by decide +kernel
theorem dX1_init_9 : decode cX1_init 9 = .ok (.putfield 11, 3) := by decide +kernel
theorem dX1_init_12 : decode cX1_init 12 = .ok (.aload_n 0, 1) := by decide +kernel
theorem dX1_init_13 : decode cX1_init 13 = .ok (.bipush 100, 2) := by decide +kernel
theorem dX1_init_15 : decode cX1_init 15 = .ok (.newarray .int, 2) := by decide +kernel
theorem dX1_init_17 : decode cX1_init 17 = .ok (.putfield 15, 3) := by decide +kernel
theorem dX1_init_20 : decode cX1_init 20 = .ok (.aload_n 0, 1) := by decide +kernel
theorem dX1_init_21 : decode cX1_init 21 = .ok (.iconst 3, 1) := by decide +kernel
theorem dX1_init_22 : decode cX1_init 22 = .ok (.newarray .int, 2) := by decide +kernel
theorem dX1_init_24 : decode cX1_init 24 = .ok (.putfield 19, 3) := by decide +kernel
theorem dX1_init_27 : decode cX1_init 27 = .ok (.aload_n 0, 1) := by decide +kernel
theorem dX1_init_28 : decode cX1_init 28 = .ok (.iconst 3, 1) := by decide +kernel
theorem dX1_init_29 : decode cX1_init 29 = .ok (.newarray .int, 2) := by decide +kernel
theorem dX1_init_31 : decode cX1_init 31 = .ok (.putfield 22, 3) := by decide +kernel
theorem dX1_init_34 : decode cX1_init 34 = .ok (.aload_n 0, 1) := by decide +kernel
theorem dX1_init_35 : decode cX1_init 35 = .ok (.iconst 0, 1) := by decide +kernel
theorem dX1_init_36 : decode cX1_init 36 = .ok (.putfield 25, 3) := by decide +kernel
theorem dX1_init_39 : decode cX1_init 39 = .ok (.return_, 1) := by decide +kernel
theorem dX1_isEnd_0 : decode cX1_isEnd 0 = .ok (.iload_n 0, 1) := by decide +kernel
theorem dX1_isEnd_1 : decode cX1_isEnd 1 = .ok (.ifCond .lt 12, 3) := by decide +kernel
theorem dX1_isEnd_4 : decode cX1_isEnd 4 = .ok (.iload_n 0, 1) := by decide +kernel
theorem dX1_isEnd_5 : decode cX1_isEnd 5 = .ok (.iconst 2, 1) := by decide +kernel
theorem dX1_isEnd_6 : decode cX1_isEnd 6 = .ok (.if_icmp .gt 7, 3) := by decide +kernel
theorem dX1_isEnd_9 : decode cX1_isEnd 9 = .ok (.iconst 1, 1) := by decide +kernel
theorem dX1_isEnd_10 : decode cX1_isEnd 10 = .ok (.goto 4, 3) := by decide +kernel
theorem dX1_isEnd_13 : decode cX1_isEnd 13 = .ok (.iconst 0, 1) := by decide +kernel
theorem dX1_isEnd_14 : decode cX1_isEnd 14 = .ok (.ireturn, 1) := by decide +kernel
theorem dX1_isFull_0 : decode cX1_isFull 0 = .ok (.aload_n 0, 1) := by decide +kernel
theorem dX1_isFull_1 : decode cX1_isFull 1 = .ok (.getfield 25, 3) := by decide +kernel
theorem dX1_isFull_4 : decode cX1_isFull 4 = .ok (.bipush 100, 2) := by decide +kernel
theorem dX1_isFull_6 : decode cX1_isFull 6 = .ok (.if_icmp .lt 7, 3) := by decide +kernel
theorem dX1_isFull_9 : decode cX1_isFull 9 = .ok (.iconst 1, 1) := by decide +kernel
theorem dX1_isFull_10 : decode cX1_isFull 10 = .ok (.goto 4, 3) := by decide +kernel
theorem dX1_isFull_13 : decode cX1_isFull 13 = .ok (.iconst 0, 1) := by decide +kernel
theorem dX1_isFull_14 : decode cX1_isFull 14 = .ok (.ireturn, 1) := by decide +kernel
theorem dX1_write_0 : decode cX1_write 0 = .ok (.aload_n 0, 1) := by decide +kernel
theorem dX1_write_1 : decode cX1_write 1 = .ok (.invokevirtual 29, 3) := by decide +kernel
theorem dX1_write_4 : decode cX1_write 4 = .ok (.ifCond .ne 50, 3) := by decide +kernel
theorem dX1_write_7 : decode cX1_write 7 = .ok (.iload_n 3, 1) := by decide +kernel
theorem dX1_write_8 : decode cX1_write 8 = .ok (.invokestatic 33, 3) := by decide +kernel
theorem dX1_write_11 : decode cX1_write 11 = .ok (.ifCond .eq 43, 3) := by decide +kernel
theorem dX1_write_14 : decode cX1_write 14 = .ok (.aload_n 0, 1) := by decide +kernel
theorem dX1_write_15 : decode cX1_write 15 = .ok (.getfield 11, 3) := by decide +kernel
theorem dX1_write_18 : decode cX1_write 18 = .ok (.aload_n 0, 1) := by decide +kernel
theorem dX1_write_19 : decode cX1_write 19 = .ok (.getfield 25, 3) := by decide +kernel
theorem dX1_write_22 : decode cX1_write 22 = .ok (.lload_n 1, 1) := by decide +kernel
theorem dX1_write_23 : decode cX1_write 23 = .ok (.lastore, 1) := by decide +kernel
theorem dX1_write_24 : decode cX1_write 24 = .ok (.aload_n 0, 1) := by decide +kernel
theorem dX1_write_25 : decode cX1_write 25 = .ok (.getfield 15, 3) := by decide +kernel
theorem dX1_write_28 : decode cX1_write 28 = .ok (.aload_n 0, 1) := by decide +kernel
theorem dX1_write_29 : decode cX1_write 29 = .ok (.getfield 25, 3) := by decide +kernel
theorem dX1_write_32 : decode cX1_write 32 = .ok (.iload_n 3, 1) := by decide +kernel
theorem dX1_write_33 : decode cX1_write 33 = .ok (.iastore, 1) := by decide +kernel
theorem dX1_write_34 : decode cX1_write 34 = .ok (.aload_n 0, 1) := by decide +kernel
theorem dX1_write_35 : decode cX1_write 35 = .ok (.getfield 19, 3) := by decide +kernel
theorem dX1_write_38 : decode cX1_write 38 = .ok (.iload_n 3, 1) := by decide +kernel
theorem dX1_write_39 : decode cX1_write 39 = .ok (.dup2, 1) := by decide +kernel
theorem dX1_write_40 : decode cX1_write 40 = .ok (.iaload, 1) := by decide +kernel
theorem dX1_write_41 : decode cX1_write 41 = .ok (.iconst 1, 1) := by decide +kernel
theorem dX1_write_42 : decode cX1_write 42 = .ok (.iadd, 1) := by decide +kernel
theorem dX1_write_43 : decode cX1_write 43 = .ok (.iastore, 1) := by decide +kernel
theorem dX1_write_44 : decode cX1_write 44 = .ok (.aload_n 0, 1) := by decide +kernel
theorem dX1_write_45 : decode cX1_write 45 = .ok (.dup, 1) := by decide +kernel
theorem dX1_write_46 : decode cX1_write 46 = .ok (.getfield 25, 3) := by decide +kernel
theorem dX1_write_49 : decode cX1_write 49 = .ok (.iconst 1, 1) := by decide +kernel
theorem dX1_write_50 : decode cX1_write 50 = .ok (.iadd, 1) := by decide +kernel
theorem dX1_write_51 : decode cX1_write 51 = .ok (.putfield 25, 3) := by decide +kernel
theorem dX1_write_54 : decode cX1_write 54 = .ok (.return_, 1) := by decide +kernel
theorem dX1_holdAgainst_0 : decode cX1_holdAgainst 0 = .ok (.iconst 0, 1) := by decide +kernel
theorem dX1_holdAgainst_1 : decode cX1_holdAgainst 1 = .ok (.istore_n 3, 1) := by decide +kernel
theorem dX1_holdAgainst_2 : decode cX1_holdAgainst 2 = .ok (.iload_n 3, 1) := by decide +kernel
theorem dX1_holdAgainst_3 : decode cX1_holdAgainst 3 = .ok (.iconst 2, 1) := by decide +kernel
theorem dX1_holdAgainst_4 : decode cX1_holdAgainst 4 = .ok (.if_icmp .gt 16, 3) := by decide +kernel
theorem dX1_holdAgainst_7 : decode cX1_holdAgainst 7 = .ok (.aload_n 0, 1) := by decide +kernel
theorem dX1_holdAgainst_8 : decode cX1_holdAgainst 8 = .ok (.getfield 22, 3) := by decide +kernel
theorem dX1_holdAgainst_11 : decode cX1_holdAgainst 11 = .ok (.iload_n 3, 1) := by decide +kernel
theorem dX1_holdAgainst_12 : decode cX1_holdAgainst 12 = .ok (.iconst 0, 1) := by decide +kernel
theorem dX1_holdAgainst_13 : decode cX1_holdAgainst 13 = .ok (.iastore, 1) := by decide +kernel
theorem dX1_holdAgainst_14 : decode cX1_holdAgainst 14 = .ok (.iinc 3 1, 3) := by decide +kernel
theorem dX1_holdAgainst_17 : decode cX1_holdAgainst 17 = .ok (.goto (-15), 3) := by decide +kernel
theorem dX1_holdAgainst_20 : decode cX1_holdAgainst 20 = .ok (.iconst 0, 1) := by decide +kernel
theorem dX1_holdAgainst_21 : decode cX1_holdAgainst 21 = .ok (.istore_n 3, 1) := by decide +kernel
theorem dX1_holdAgainst_22 : decode cX1_holdAgainst 22 = .ok (.iload_n 3, 1) := by decide +kernel
theorem dX1_holdAgainst_23 : decode cX1_holdAgainst 23 = .ok (.aload_n 0, 1) := by decide +kernel
theorem dX1_holdAgainst_24 : decode cX1_holdAgainst 24 = .ok (.getfield 25, 3) := by decide +kernel
theorem dX1_holdAgainst_27 : decode cX1_holdAgainst 27 = .ok (.if_icmp .ge 50, 3) := by decide +kernel
theorem dX1_holdAgainst_30 : decode cX1_holdAgainst 30 = .ok (.aload_n 0, 1) := by decide +kernel
theorem dX1_holdAgainst_31 : decode cX1_holdAgainst 31 = .ok (.getfield 15, 3) := by decide +kernel
theorem dX1_holdAgainst_34 : decode cX1_holdAgainst 34 = .ok (.iload_n 3, 1) := by decide +kernel
theorem dX1_holdAgainst_35 : decode cX1_holdAgainst 35 = .ok (.iaload, 1) := by decide +kernel
theorem dX1_holdAgainst_36 : decode cX1_holdAgainst 36 = .ok (.invokestatic 33, 3) := by decide +kernel
theorem dX1_holdAgainst_39 : decode cX1_holdAgainst 39 = .ok (.ifCond .eq 32, 3) := by decide +kernel
theorem dX1_holdAgainst_42 : decode cX1_holdAgainst 42 = .ok (.aload_n 1, 1) := by decide +kernel
theorem dX1_holdAgainst_43 : decode cX1_holdAgainst 43 = .ok (.iload_n 2, 1) := by decide +kernel
theorem dX1_holdAgainst_44 : decode cX1_holdAgainst 44 = .ok (.aload_n 0, 1) := by decide +kernel
theorem dX1_holdAgainst_45 : decode cX1_holdAgainst 45 = .ok (.getfield 11, 3) := by decide +kernel
theorem dX1_holdAgainst_48 : decode cX1_holdAgainst 48 = .ok (.iload_n 3, 1) := by decide +kernel
theorem dX1_holdAgainst_49 : decode cX1_holdAgainst 49 = .ok (.laload, 1) := by decide +kernel
theorem dX1_holdAgainst_50 : decode cX1_holdAgainst 50 = .ok (.invokevirtual 37, 3) := by decide +kernel
theorem dX1_holdAgainst_53 : decode cX1_holdAgainst 53 = .ok (.ifCond .eq 18, 3) := by decide +kernel
theorem dX1_holdAgainst_56 : decode cX1_holdAgainst 56 = .ok (.aload_n 0, 1) := by decide +kernel
theorem dX1_holdAgainst_57 : decode cX1_holdAgainst 57 = .ok (.getfield 22, 3) := by decide +kernel
theorem dX1_holdAgainst_60 : decode cX1_holdAgainst 60 = .ok (.aload_n 0, 1) := by decide +kernel
theorem dX1_holdAgainst_61 : decode cX1_holdAgainst 61 = .ok (.getfield 15, 3) := by decide +kernel
theorem dX1_holdAgainst_64 : decode cX1_holdAgainst 64 = .ok (.iload_n 3, 1) := by decide +kernel
theorem dX1_holdAgainst_65 : decode cX1_holdAgainst 65 = .ok (.iaload, 1) := by decide +kernel
theorem dX1_holdAgainst_66 : decode cX1_holdAgainst 66 = .ok (.dup2, 1) := by decide +kernel
theorem dX1_holdAgainst_67 : decode cX1_holdAgainst 67 = .ok (.iaload, 1) := by decide +kernel
theorem dX1_holdAgainst_68 : decode cX1_holdAgainst 68 = .ok (.iconst 1, 1) := by decide +kernel
theorem dX1_holdAgainst_69 : decode cX1_holdAgainst 69 = .ok (.iadd, 1) := by decide +kernel
theorem dX1_holdAgainst_70 : decode cX1_holdAgainst 70 = .ok (.iastore, 1) := by decide +kernel
theorem dX1_holdAgainst_71 : decode cX1_holdAgainst 71 = .ok (.iinc 3 1, 3) := by decide +kernel
theorem dX1_holdAgainst_74 : decode cX1_holdAgainst 74 = .ok (.goto (-52), 3) := by decide +kernel
theorem dX1_holdAgainst_77 : decode cX1_holdAgainst 77 = .ok (.return_, 1) := by decide +kernel
theorem dX1_answerTo_0 : decode cX1_answerTo 0 = .ok (.iload_n 1, 1) := by decide +kernel
theorem dX1_answerTo_1 : decode cX1_answerTo 1 = .ok (.tableswitch 71 0 3 #[31, 52, 59, 66], 31) := by decide +kernel
theorem dX1_answerTo_32 : decode cX1_answerTo 32 = .ok (.aload_n 0, 1) := by decide +kernel
theorem dX1_answerTo_33 : decode cX1_answerTo 33 = .ok (.getfield 22, 3) := by decide +kernel
theorem dX1_answerTo_36 : decode cX1_answerTo 36 = .ok (.iconst 0, 1) := by decide +kernel
theorem dX1_answerTo_37 : decode cX1_answerTo 37 = .ok (.iaload, 1) := by decide +kernel
theorem dX1_answerTo_38 : decode cX1_answerTo 38 = .ok (.aload_n 0, 1) := by decide +kernel
theorem dX1_answerTo_39 : decode cX1_answerTo 39 = .ok (.getfield 22, 3) := by decide +kernel
theorem dX1_answerTo_42 : decode cX1_answerTo 42 = .ok (.iconst 1, 1) := by decide +kernel
theorem dX1_answerTo_43 : decode cX1_answerTo 43 = .ok (.iaload, 1) := by decide +kernel
theorem dX1_answerTo_44 : decode cX1_answerTo 44 = .ok (.iadd, 1) := by decide +kernel
theorem dX1_answerTo_45 : decode cX1_answerTo 45 = .ok (.aload_n 0, 1) := by decide +kernel
theorem dX1_answerTo_46 : decode cX1_answerTo 46 = .ok (.getfield 22, 3) := by decide +kernel
theorem dX1_answerTo_49 : decode cX1_answerTo 49 = .ok (.iconst 2, 1) := by decide +kernel
theorem dX1_answerTo_50 : decode cX1_answerTo 50 = .ok (.iaload, 1) := by decide +kernel
theorem dX1_answerTo_51 : decode cX1_answerTo 51 = .ok (.iadd, 1) := by decide +kernel
theorem dX1_answerTo_52 : decode cX1_answerTo 52 = .ok (.ireturn, 1) := by decide +kernel
theorem dX1_answerTo_53 : decode cX1_answerTo 53 = .ok (.aload_n 0, 1) := by decide +kernel
theorem dX1_answerTo_54 : decode cX1_answerTo 54 = .ok (.getfield 22, 3) := by decide +kernel
theorem dX1_answerTo_57 : decode cX1_answerTo 57 = .ok (.iconst 1, 1) := by decide +kernel
theorem dX1_answerTo_58 : decode cX1_answerTo 58 = .ok (.iaload, 1) := by decide +kernel
theorem dX1_answerTo_59 : decode cX1_answerTo 59 = .ok (.ireturn, 1) := by decide +kernel
theorem dX1_answerTo_60 : decode cX1_answerTo 60 = .ok (.aload_n 0, 1) := by decide +kernel
theorem dX1_answerTo_61 : decode cX1_answerTo 61 = .ok (.getfield 22, 3) := by decide +kernel
theorem dX1_answerTo_64 : decode cX1_answerTo 64 = .ok (.iconst 0, 1) := by decide +kernel
theorem dX1_answerTo_65 : decode cX1_answerTo 65 = .ok (.iaload, 1) := by decide +kernel
theorem dX1_answerTo_66 : decode cX1_answerTo 66 = .ok (.ireturn, 1) := by decide +kernel
theorem dX1_answerTo_67 : decode cX1_answerTo 67 = .ok (.aload_n 0, 1) := by decide +kernel
theorem dX1_answerTo_68 : decode cX1_answerTo 68 = .ok (.invokevirtual 43, 3) := by decide +kernel
theorem dX1_answerTo_71 : decode cX1_answerTo 71 = .ok (.ireturn, 1) := by decide +kernel
theorem dX1_answerTo_72 : decode cX1_answerTo 72 = .ok (.ldc 47, 2) := by decide +kernel
theorem dX1_answerTo_74 : decode cX1_answerTo 74 = .ok (.ireturn, 1) := by decide +kernel
theorem dX1_worthHeld_0 : decode cX1_worthHeld 0 = .ok (.aload_n 0, 1) := by decide +kernel
theorem dX1_worthHeld_1 : decode cX1_worthHeld 1 = .ok (.getfield 22, 3) := by decide +kernel
theorem dX1_worthHeld_4 : decode cX1_worthHeld 4 = .ok (.iconst 1, 1) := by decide +kernel
theorem dX1_worthHeld_5 : decode cX1_worthHeld 5 = .ok (.iaload, 1) := by decide +kernel
theorem dX1_worthHeld_6 : decode cX1_worthHeld 6 = .ok (.aload_n 0, 1) := by decide +kernel
theorem dX1_worthHeld_7 : decode cX1_worthHeld 7 = .ok (.invokevirtual 48, 3) := by decide +kernel
theorem dX1_worthHeld_10 : decode cX1_worthHeld 10 = .ok (.imul, 1) := by decide +kernel
theorem dX1_worthHeld_11 : decode cX1_worthHeld 11 = .ok (.aload_n 0, 1) := by decide +kernel
theorem dX1_worthHeld_12 : decode cX1_worthHeld 12 = .ok (.getfield 22, 3) := by decide +kernel
theorem dX1_worthHeld_15 : decode cX1_worthHeld 15 = .ok (.iconst 1, 1) := by decide +kernel
theorem dX1_worthHeld_16 : decode cX1_worthHeld 16 = .ok (.iaload, 1) := by decide +kernel
theorem dX1_worthHeld_17 : decode cX1_worthHeld 17 = .ok (.aload_n 0, 1) := by decide +kernel
theorem dX1_worthHeld_18 : decode cX1_worthHeld 18 = .ok (.getfield 22, 3) := by decide +kernel
theorem dX1_worthHeld_21 : decode cX1_worthHeld 21 = .ok (.iconst 0, 1) := by decide +kernel
theorem dX1_worthHeld_22 : decode cX1_worthHeld 22 = .ok (.iaload, 1) := by decide +kernel
theorem dX1_worthHeld_23 : decode cX1_worthHeld 23 = .ok (.iadd, 1) := by decide +kernel
theorem dX1_worthHeld_24 : decode cX1_worthHeld 24 = .ok (.aload_n 0, 1) := by decide +kernel
theorem dX1_worthHeld_25 : decode cX1_worthHeld 25 = .ok (.invokevirtual 51, 3) := by decide +kernel
theorem dX1_worthHeld_28 : decode cX1_worthHeld 28 = .ok (.imul, 1) := by decide +kernel
theorem dX1_worthHeld_29 : decode cX1_worthHeld 29 = .ok (.isub, 1) := by decide +kernel
theorem dX1_worthHeld_30 : decode cX1_worthHeld 30 = .ok (.ireturn, 1) := by decide +kernel
theorem dX1_casesKnown_0 : decode cX1_casesKnown 0 = .ok (.aload_n 0, 1) := by decide +kernel
theorem dX1_casesKnown_1 : decode cX1_casesKnown 1 = .ok (.getfield 19, 3) := by decide +kernel
theorem dX1_casesKnown_4 : decode cX1_casesKnown 4 = .ok (.iconst 0, 1) := by decide +kernel
theorem dX1_casesKnown_5 : decode cX1_casesKnown 5 = .ok (.iaload, 1) := by decide +kernel
theorem dX1_casesKnown_6 : decode cX1_casesKnown 6 = .ok (.aload_n 0, 1) := by decide +kernel
theorem dX1_casesKnown_7 : decode cX1_casesKnown 7 = .ok (.getfield 19, 3) := by decide +kernel
theorem dX1_casesKnown_10 : decode cX1_casesKnown 10 = .ok (.iconst 1, 1) := by decide +kernel
theorem dX1_casesKnown_11 : decode cX1_casesKnown 11 = .ok (.iaload, 1) := by decide +kernel
theorem dX1_casesKnown_12 : decode cX1_casesKnown 12 = .ok (.iadd, 1) := by decide +kernel
theorem dX1_casesKnown_13 : decode cX1_casesKnown 13 = .ok (.ireturn, 1) := by decide +kernel
theorem dX1_casesYes_0 : decode cX1_casesYes 0 = .ok (.aload_n 0, 1) := by decide +kernel
theorem dX1_casesYes_1 : decode cX1_casesYes 1 = .ok (.getfield 19, 3) := by decide +kernel
theorem dX1_casesYes_4 : decode cX1_casesYes 4 = .ok (.iconst 1, 1) := by decide +kernel
theorem dX1_casesYes_5 : decode cX1_casesYes 5 = .ok (.iaload, 1) := by decide +kernel
theorem dX1_casesYes_6 : decode cX1_casesYes 6 = .ok (.ireturn, 1) := by decide +kernel
theorem dX2_ofCode_0 : decode cX2_ofCode 0 = .ok (.iload_n 0, 1) := by decide +kernel
theorem dX2_ofCode_1 : decode cX2_ofCode 1 = .ok (.ldc 9, 2) := by decide +kernel
theorem dX2_ofCode_3 : decode cX2_ofCode 3 = .ok (.iand, 1) := by decide +kernel
theorem dX2_ofCode_4 : decode cX2_ofCode 4 = .ok (.i2l, 1) := by decide +kernel
theorem dX2_ofCode_5 : decode cX2_ofCode 5 = .ok (.lstore_n 1, 1) := by decide +kernel
theorem dX2_ofCode_6 : decode cX2_ofCode 6 = .ok (.iconst 0, 1) := by decide +kernel
theorem dX2_ofCode_7 : decode cX2_ofCode 7 = .ok (.istore_n 3, 1) := by decide +kernel
theorem dX2_ofCode_8 : decode cX2_ofCode 8 = .ok (.iload_n 3, 1) := by decide +kernel
theorem dX2_ofCode_9 : decode cX2_ofCode 9 = .ok (.iconst 4, 1) := by decide +kernel
theorem dX2_ofCode_10 : decode cX2_ofCode 10 = .ok (.if_icmp .ge 22, 3) := by decide +kernel
theorem dX2_ofCode_13 : decode cX2_ofCode 13 = .ok (.lload_n 1, 1) := by decide +kernel
theorem dX2_ofCode_14 : decode cX2_ofCode 14 = .ok (.iconst 4, 1) := by decide +kernel
theorem dX2_ofCode_15 : decode cX2_ofCode 15 = .ok (.iload_n 3, 1) := by decide +kernel
theorem dX2_ofCode_16 : decode cX2_ofCode 16 = .ok (.iadd, 1) := by decide +kernel
theorem dX2_ofCode_17 : decode cX2_ofCode 17 = .ok (.iload_n 0, 1) := by decide +kernel
theorem dX2_ofCode_18 : decode cX2_ofCode 18 = .ok (.iload_n 3, 1) := by decide +kernel
theorem dX2_ofCode_19 : decode cX2_ofCode 19 = .ok (.invokestatic 12, 3) := by decide +kernel
theorem dX2_ofCode_22 : decode cX2_ofCode 22 = .ok (.invokestatic 16, 3) := by decide +kernel
theorem dX2_ofCode_25 : decode cX2_ofCode 25 = .ok (.lstore_n 1, 1) := by decide +kernel
theorem dX2_ofCode_26 : decode cX2_ofCode 26 = .ok (.iinc 3 1, 3) := by decide +kernel
theorem dX2_ofCode_29 : decode cX2_ofCode 29 = .ok (.goto (-21), 3) := by decide +kernel
theorem dX2_ofCode_32 : decode cX2_ofCode 32 = .ok (.bipush 8, 2) := by decide +kernel
theorem dX2_ofCode_34 : decode cX2_ofCode 34 = .ok (.istore_n 3, 1) := by decide +kernel
theorem dX2_ofCode_35 : decode cX2_ofCode 35 = .ok (.iload_n 3, 1) := by decide +kernel
theorem dX2_ofCode_36 : decode cX2_ofCode 36 = .ok (.bipush 14, 2) := by decide +kernel
theorem dX2_ofCode_38 : decode cX2_ofCode 38 = .ok (.if_icmp .gt 36, 3) := by decide +kernel
theorem dX2_ofCode_41 : decode cX2_ofCode 41 = .ok (.iload_n 3, 1) := by decide +kernel
theorem dX2_ofCode_42 : decode cX2_ofCode 42 = .ok (.invokestatic 20, 3) := by decide +kernel
theorem dX2_ofCode_45 : decode cX2_ofCode 45 = .ok (.istore 4, 2) := by decide +kernel
theorem dX2_ofCode_47 : decode cX2_ofCode 47 = .ok (.lload_n 1, 1) := by decide +kernel
theorem dX2_ofCode_48 : decode cX2_ofCode 48 = .ok (.iload_n 3, 1) := by decide +kernel
theorem dX2_ofCode_49 : decode cX2_ofCode 49 = .ok (.lload_n 1, 1) := by decide +kernel
theorem dX2_ofCode_50 : decode cX2_ofCode 50 = .ok (.iload 4, 2) := by decide +kernel
theorem dX2_ofCode_52 : decode cX2_ofCode 52 = .ok (.invokestatic 24, 3) := by decide +kernel
theorem dX2_ofCode_55 : decode cX2_ofCode 55 = .ok (.lload_n 1, 1) := by decide +kernel
theorem dX2_ofCode_56 : decode cX2_ofCode 56 = .ok (.iload 4, 2) := by decide +kernel
theorem dX2_ofCode_58 : decode cX2_ofCode 58 = .ok (.iconst 1, 1) := by decide +kernel
theorem dX2_ofCode_59 : decode cX2_ofCode 59 = .ok (.iadd, 1) := by decide +kernel
theorem dX2_ofCode_60 : decode cX2_ofCode 60 = .ok (.invokestatic 24, 3) := by decide +kernel
theorem dX2_ofCode_63 : decode cX2_ofCode 63 = .ok (.ixor, 1) := by decide +kernel
theorem dX2_ofCode_64 : decode cX2_ofCode 64 = .ok (.invokestatic 16, 3) := by decide +kernel
theorem dX2_ofCode_67 : decode cX2_ofCode 67 = .ok (.lstore_n 1, 1) := by decide +kernel
theorem dX2_ofCode_68 : decode cX2_ofCode 68 = .ok (.iinc 3 1, 3) := by decide +kernel
theorem dX2_ofCode_71 : decode cX2_ofCode 71 = .ok (.goto (-36), 3) := by decide +kernel
theorem dX2_ofCode_74 : decode cX2_ofCode 74 = .ok (.lload_n 1, 1) := by decide +kernel
theorem dX2_ofCode_75 : decode cX2_ofCode 75 = .ok (.bipush 15, 2) := by decide +kernel
theorem dX2_ofCode_77 : decode cX2_ofCode 77 = .ok (.lload_n 1, 1) := by decide +kernel
theorem dX2_ofCode_78 : decode cX2_ofCode 78 = .ok (.bipush 14, 2) := by decide +kernel
theorem dX2_ofCode_80 : decode cX2_ofCode 80 = .ok (.invokestatic 24, 3) := by decide +kernel
theorem dX2_ofCode_83 : decode cX2_ofCode 83 = .ok (.lload_n 1, 1) := by decide +kernel
theorem dX2_ofCode_84 : decode cX2_ofCode 84 = .ok (.iconst 0, 1) := by decide +kernel
theorem dX2_ofCode_85 : decode cX2_ofCode 85 = .ok (.invokestatic 24, 3) := by decide +kernel
theorem dX2_ofCode_88 : decode cX2_ofCode 88 = .ok (.ixor, 1) := by decide +kernel
theorem dX2_ofCode_89 : decode cX2_ofCode 89 = .ok (.invokestatic 16, 3) := by decide +kernel
theorem dX2_ofCode_92 : decode cX2_ofCode 92 = .ok (.lreturn, 1) := by decide +kernel
theorem dX2_daughterOf_0 : decode cX2_daughterOf 0 = .ok (.iconst 0, 1) := by decide +kernel
theorem dX2_daughterOf_1 : decode cX2_daughterOf 1 = .ok (.istore_n 2, 1) := by decide +kernel
theorem dX2_daughterOf_2 : decode cX2_daughterOf 2 = .ok (.iconst 0, 1) := by decide +kernel
theorem dX2_daughterOf_3 : decode cX2_daughterOf 3 = .ok (.istore_n 3, 1) := by decide +kernel
theorem dX2_daughterOf_4 : decode cX2_daughterOf 4 = .ok (.iload_n 3, 1) := by decide +kernel
theorem dX2_daughterOf_5 : decode cX2_daughterOf 5 = .ok (.iconst 4, 1) := by decide +kernel
theorem dX2_daughterOf_6 : decode cX2_daughterOf 6 = .ok (.if_icmp .ge 23, 3) := by decide +kernel
theorem dX2_daughterOf_9 : decode cX2_daughterOf 9 = .ok (.iload_n 2, 1) := by decide +kernel
theorem dX2_daughterOf_10 : decode cX2_daughterOf 10 = .ok (.iload_n 0, 1) := by decide +kernel
theorem dX2_daughterOf_11 : decode cX2_daughterOf 11 = .ok (.iconst 4, 1) := by decide +kernel
theorem dX2_daughterOf_12 : decode cX2_daughterOf 12 = .ok (.iload_n 3, 1) := by decide +kernel
theorem dX2_daughterOf_13 : decode cX2_daughterOf 13 = .ok (.imul, 1) := by decide +kernel
theorem dX2_daughterOf_14 : decode cX2_daughterOf 14 = .ok (.iload_n 1, 1) := by decide +kernel
theorem dX2_daughterOf_15 : decode cX2_daughterOf 15 = .ok (.iadd, 1) := by decide +kernel
theorem dX2_daughterOf_16 : decode cX2_daughterOf 16 = .ok (.ishr, 1) := by decide +kernel
theorem dX2_daughterOf_17 : decode cX2_daughterOf 17 = .ok (.iconst 1, 1) := by decide +kernel
theorem dX2_daughterOf_18 : decode cX2_daughterOf 18 = .ok (.iand, 1) := by decide +kernel
theorem dX2_daughterOf_19 : decode cX2_daughterOf 19 = .ok (.iload_n 3, 1) := by decide +kernel
theorem dX2_daughterOf_20 : decode cX2_daughterOf 20 = .ok (.ishl, 1) := by decide +kernel
theorem dX2_daughterOf_21 : decode cX2_daughterOf 21 = .ok (.ior, 1) := by decide +kernel
theorem dX2_daughterOf_22 : decode cX2_daughterOf 22 = .ok (.istore_n 2, 1) := by decide +kernel
theorem dX2_daughterOf_23 : decode cX2_daughterOf 23 = .ok (.iinc 3 1, 3) := by decide +kernel
theorem dX2_daughterOf_26 : decode cX2_daughterOf 26 = .ok (.goto (-22), 3) := by decide +kernel
theorem dX2_daughterOf_29 : decode cX2_daughterOf 29 = .ok (.iload_n 2, 1) := by decide +kernel
theorem dX2_daughterOf_30 : decode cX2_daughterOf 30 = .ok (.ireturn, 1) := by decide +kernel
theorem dX2_figureAt_0 : decode cX2_figureAt 0 = .ok (.lload_n 0, 1) := by decide +kernel
theorem dX2_figureAt_1 : decode cX2_figureAt 1 = .ok (.iconst 4, 1) := by decide +kernel
theorem dX2_figureAt_2 : decode cX2_figureAt 2 = .ok (.iload_n 2, 1) := by decide +kernel
theorem dX2_figureAt_3 : decode cX2_figureAt 3 = .ok (.imul, 1) := by decide +kernel
theorem dX2_figureAt_4 : decode cX2_figureAt 4 = .ok (.lushr, 1) := by decide +kernel
theorem dX2_figureAt_5 : decode cX2_figureAt 5 = .ok (.l2i, 1) := by decide +kernel
theorem dX2_figureAt_6 : decode cX2_figureAt 6 = .ok (.bipush 15, 2) := by decide +kernel
theorem dX2_figureAt_8 : decode cX2_figureAt 8 = .ok (.iand, 1) := by decide +kernel
theorem dX2_figureAt_9 : decode cX2_figureAt 9 = .ok (.ireturn, 1) := by decide +kernel
theorem dX2_withFigure_0 : decode cX2_withFigure 0 = .ok (.lload_n 0, 1) := by decide +kernel
theorem dX2_withFigure_1 : decode cX2_withFigure 1 = .ok (.iload_n 3, 1) := by decide +kernel
theorem dX2_withFigure_2 : decode cX2_withFigure 2 = .ok (.i2l, 1) := by decide +kernel
theorem dX2_withFigure_3 : decode cX2_withFigure 3 = .ok (.iconst 4, 1) := by decide +kernel
theorem dX2_withFigure_4 : decode cX2_withFigure 4 = .ok (.iload_n 2, 1) := by decide +kernel
theorem dX2_withFigure_5 : decode cX2_withFigure 5 = .ok (.imul, 1) := by decide +kernel
theorem dX2_withFigure_6 : decode cX2_withFigure 6 = .ok (.lshl, 1) := by decide +kernel
theorem dX2_withFigure_7 : decode cX2_withFigure 7 = .ok (.lor, 1) := by decide +kernel
theorem dX2_withFigure_8 : decode cX2_withFigure 8 = .ok (.lreturn, 1) := by decide +kernel
theorem dX2_firstAbove_0 : decode cX2_firstAbove 0 = .ok (.iconst 2, 1) := by decide +kernel
theorem dX2_firstAbove_1 : decode cX2_firstAbove 1 = .ok (.iload_n 0, 1) := by decide +kernel
theorem dX2_firstAbove_2 : decode cX2_firstAbove 2 = .ok (.bipush 8, 2) := by decide +kernel
theorem dX2_firstAbove_4 : decode cX2_firstAbove 4 = .ok (.isub, 1) := by decide +kernel
theorem dX2_firstAbove_5 : decode cX2_firstAbove 5 = .ok (.imul, 1) := by decide +kernel
theorem dX2_firstAbove_6 : decode cX2_firstAbove 6 = .ok (.ireturn, 1) := by decide +kernel
theorem dX2_timesSeen_0 : decode cX2_timesSeen 0 = .ok (.iconst 0, 1) := by decide +kernel
theorem dX2_timesSeen_1 : decode cX2_timesSeen 1 = .ok (.istore 5, 2) := by decide +kernel
theorem dX2_timesSeen_3 : decode cX2_timesSeen 3 = .ok (.iload_n 3, 1) := by decide +kernel
theorem dX2_timesSeen_4 : decode cX2_timesSeen 4 = .ok (.istore 6, 2) := by decide +kernel
theorem dX2_timesSeen_6 : decode cX2_timesSeen 6 = .ok (.iload 6, 2) := by decide +kernel
theorem dX2_timesSeen_8 : decode cX2_timesSeen 8 = .ok (.iload 4, 2) := by decide +kernel
theorem dX2_timesSeen_10 : decode cX2_timesSeen 10 = .ok (.if_icmp .gt 22, 3) := by decide +kernel
theorem dX2_timesSeen_13 : decode cX2_timesSeen 13 = .ok (.lload_n 0, 1) := by decide +kernel
theorem dX2_timesSeen_14 : decode cX2_timesSeen 14 = .ok (.iload 6, 2) := by decide +kernel
theorem dX2_timesSeen_16 : decode cX2_timesSeen 16 = .ok (.invokestatic 24, 3) := by decide +kernel
theorem dX2_timesSeen_19 : decode cX2_timesSeen 19 = .ok (.iload_n 2, 1) := by decide +kernel
theorem dX2_timesSeen_20 : decode cX2_timesSeen 20 = .ok (.if_icmp .ne 6, 3) := by decide +kernel
theorem dX2_timesSeen_23 : decode cX2_timesSeen 23 = .ok (.iinc 5 1, 3) := by decide +kernel
theorem dX2_timesSeen_26 : decode cX2_timesSeen 26 = .ok (.iinc 6 1, 3) := by decide +kernel
theorem dX2_timesSeen_29 : decode cX2_timesSeen 29 = .ok (.goto (-23), 3) := by decide +kernel
theorem dX2_timesSeen_32 : decode cX2_timesSeen 32 = .ok (.iload 5, 2) := by decide +kernel
theorem dX2_timesSeen_34 : decode cX2_timesSeen 34 = .ok (.ireturn, 1) := by decide +kernel
theorem dX2_endsOfPoint_0 : decode cX2_endsOfPoint 0 = .ok (.sipush 16384, 3) := by decide +kernel
theorem dX2_endsOfPoint_3 : decode cX2_endsOfPoint 3 = .ok (.istore_n 2, 1) := by decide +kernel
theorem dX2_endsOfPoint_4 : decode cX2_endsOfPoint 4 = .ok (.iconst 0, 1) := by decide +kernel
theorem dX2_endsOfPoint_5 : decode cX2_endsOfPoint 5 = .ok (.istore_n 3, 1) := by decide +kernel
theorem dX2_endsOfPoint_6 : decode cX2_endsOfPoint 6 = .ok (.bipush 14, 2) := by decide +kernel
theorem dX2_endsOfPoint_8 : decode cX2_endsOfPoint 8 = .ok (.istore 4, 2) := by decide +kernel
theorem dX2_endsOfPoint_10 : decode cX2_endsOfPoint 10 = .ok (.iload 4, 2) := by decide +kernel
theorem dX2_endsOfPoint_12 : decode cX2_endsOfPoint 12 = .ok (.ifCond .lt 46, 3) := by decide +kernel
theorem dX2_endsOfPoint_15 : decode cX2_endsOfPoint 15 = .ok (.iload_n 2, 1) := by decide +kernel
theorem dX2_endsOfPoint_16 : decode cX2_endsOfPoint 16 = .ok (.iload 4, 2) := by decide +kernel
theorem dX2_endsOfPoint_18 : decode cX2_endsOfPoint 18 = .ok (.ishr, 1) := by decide +kernel
theorem dX2_endsOfPoint_19 : decode cX2_endsOfPoint 19 = .ok (.iconst 1, 1) := by decide +kernel
theorem dX2_endsOfPoint_20 : decode cX2_endsOfPoint 20 = .ok (.iand, 1) := by decide +kernel
theorem dX2_endsOfPoint_21 : decode cX2_endsOfPoint 21 = .ok (.ifCond .ne 6, 3) := by decide +kernel
theorem dX2_endsOfPoint_24 : decode cX2_endsOfPoint 24 = .ok (.goto 28, 3) := by decide +kernel
theorem dX2_endsOfPoint_27 : decode cX2_endsOfPoint 27 = .ok (.lload_n 0, 1) := by decide +kernel
theorem dX2_endsOfPoint_28 : decode cX2_endsOfPoint 28 = .ok (.iload 4, 2) := by decide +kernel
theorem dX2_endsOfPoint_30 : decode cX2_endsOfPoint 30 = .ok (.invokestatic 30, 3) := by decide +kernel
theorem dX2_endsOfPoint_33 : decode cX2_endsOfPoint 33 = .ok (.istore 5, 2) := by decide +kernel
theorem dX2_endsOfPoint_35 : decode cX2_endsOfPoint 35 = .ok (.iload_n 2, 1) := by decide +kernel
theorem dX2_endsOfPoint_36 : decode cX2_endsOfPoint 36 = .ok (.iload 5, 2) := by decide +kernel
theorem dX2_endsOfPoint_38 : decode cX2_endsOfPoint 38 = .ok (.ior, 1) := by decide +kernel
theorem dX2_endsOfPoint_39 : decode cX2_endsOfPoint 39 = .ok (.istore_n 2, 1) := by decide +kernel
theorem dX2_endsOfPoint_40 : decode cX2_endsOfPoint 40 = .ok (.iload 5, 2) := by decide +kernel
theorem dX2_endsOfPoint_42 : decode cX2_endsOfPoint 42 = .ok (.ifCond .ne 10, 3) := by decide +kernel
theorem dX2_endsOfPoint_45 : decode cX2_endsOfPoint 45 = .ok (.iload_n 3, 1) := by decide +kernel
theorem dX2_endsOfPoint_46 : decode cX2_endsOfPoint 46 = .ok (.iconst 1, 1) := by decide +kernel
theorem dX2_endsOfPoint_47 : decode cX2_endsOfPoint 47 = .ok (.iload 4, 2) := by decide +kernel
theorem dX2_endsOfPoint_49 : decode cX2_endsOfPoint 49 = .ok (.ishl, 1) := by decide +kernel
theorem dX2_endsOfPoint_50 : decode cX2_endsOfPoint 50 = .ok (.ior, 1) := by decide +kernel
theorem dX2_endsOfPoint_51 : decode cX2_endsOfPoint 51 = .ok (.istore_n 3, 1) := by decide +kernel
theorem dX2_endsOfPoint_52 : decode cX2_endsOfPoint 52 = .ok (.iinc 4 (-1), 3) := by decide +kernel
theorem dX2_endsOfPoint_55 : decode cX2_endsOfPoint 55 = .ok (.goto (-45), 3) := by decide +kernel
theorem dX2_endsOfPoint_58 : decode cX2_endsOfPoint 58 = .ok (.iload_n 3, 1) := by decide +kernel
theorem dX2_endsOfPoint_59 : decode cX2_endsOfPoint 59 = .ok (.ireturn, 1) := by decide +kernel
theorem dX2_wayUp_0 : decode cX2_wayUp 0 = .ok (.iconst 0, 1) := by decide +kernel
theorem dX2_wayUp_1 : decode cX2_wayUp 1 = .ok (.istore_n 3, 1) := by decide +kernel
theorem dX2_wayUp_2 : decode cX2_wayUp 2 = .ok (.iload_n 2, 1) := by decide +kernel
theorem dX2_wayUp_3 : decode cX2_wayUp 3 = .ok (.bipush 8, 2) := by decide +kernel
theorem dX2_wayUp_5 : decode cX2_wayUp 5 = .ok (.if_icmp .lt 50, 3) := by decide +kernel
theorem dX2_wayUp_8 : decode cX2_wayUp 8 = .ok (.iload_n 2, 1) := by decide +kernel
theorem dX2_wayUp_9 : decode cX2_wayUp 9 = .ok (.invokestatic 20, 3) := by decide +kernel
theorem dX2_wayUp_12 : decode cX2_wayUp 12 = .ok (.istore 4, 2) := by decide +kernel
theorem dX2_wayUp_14 : decode cX2_wayUp 14 = .ok (.iload 4, 2) := by decide +kernel
theorem dX2_wayUp_16 : decode cX2_wayUp 16 = .ok (.iload_n 2, 1) := by decide +kernel
theorem dX2_wayUp_17 : decode cX2_wayUp 17 = .ok (.invokestatic 20, 3) := by decide +kernel
theorem dX2_wayUp_20 : decode cX2_wayUp 20 = .ok (.iconst 1, 1) := by decide +kernel
theorem dX2_wayUp_21 : decode cX2_wayUp 21 = .ok (.iadd, 1) := by decide +kernel
theorem dX2_wayUp_22 : decode cX2_wayUp 22 = .ok (.if_icmp .gt 33, 3) := by decide +kernel
theorem dX2_wayUp_25 : decode cX2_wayUp 25 = .ok (.lload_n 0, 1) := by decide +kernel
theorem dX2_wayUp_26 : decode cX2_wayUp 26 = .ok (.iload 4, 2) := by decide +kernel
theorem dX2_wayUp_28 : decode cX2_wayUp 28 = .ok (.invokestatic 24, 3) := by decide +kernel
theorem dX2_wayUp_31 : decode cX2_wayUp 31 = .ok (.lload_n 0, 1) := by decide +kernel
theorem dX2_wayUp_32 : decode cX2_wayUp 32 = .ok (.iload_n 2, 1) := by decide +kernel
theorem dX2_wayUp_33 : decode cX2_wayUp 33 = .ok (.invokestatic 24, 3) := by decide +kernel
theorem dX2_wayUp_36 : decode cX2_wayUp 36 = .ok (.ixor, 1) := by decide +kernel
theorem dX2_wayUp_37 : decode cX2_wayUp 37 = .ok (.iconst 1, 1) := by decide +kernel
theorem dX2_wayUp_38 : decode cX2_wayUp 38 = .ok (.iand, 1) := by decide +kernel
theorem dX2_wayUp_39 : decode cX2_wayUp 39 = .ok (.ifCond .ne 10, 3) := by decide +kernel
theorem dX2_wayUp_42 : decode cX2_wayUp 42 = .ok (.iload_n 3, 1) := by decide +kernel
theorem dX2_wayUp_43 : decode cX2_wayUp 43 = .ok (.iconst 1, 1) := by decide +kernel
theorem dX2_wayUp_44 : decode cX2_wayUp 44 = .ok (.iload 4, 2) := by decide +kernel
theorem dX2_wayUp_46 : decode cX2_wayUp 46 = .ok (.ishl, 1) := by decide +kernel
theorem dX2_wayUp_47 : decode cX2_wayUp 47 = .ok (.ior, 1) := by decide +kernel
theorem dX2_wayUp_48 : decode cX2_wayUp 48 = .ok (.istore_n 3, 1) := by decide +kernel
theorem dX2_wayUp_49 : decode cX2_wayUp 49 = .ok (.iinc 4 1, 3) := by decide +kernel
theorem dX2_wayUp_52 : decode cX2_wayUp 52 = .ok (.goto (-38), 3) := by decide +kernel
theorem dX2_wayUp_55 : decode cX2_wayUp 55 = .ok (.iload_n 3, 1) := by decide +kernel
theorem dX2_wayUp_56 : decode cX2_wayUp 56 = .ok (.ireturn, 1) := by decide +kernel
theorem dX3_isFigure_0 : decode cX3_isFigure 0 = .ok (.iload_n 0, 1) := by decide +kernel
theorem dX3_isFigure_1 : decode cX3_isFigure 1 = .ok (.ifCond .lt 13, 3) := by decide +kernel
theorem dX3_isFigure_4 : decode cX3_isFigure 4 = .ok (.iload_n 0, 1) := by decide +kernel
theorem dX3_isFigure_5 : decode cX3_isFigure 5 = .ok (.bipush 15, 2) := by decide +kernel
theorem dX3_isFigure_7 : decode cX3_isFigure 7 = .ok (.if_icmp .gt 7, 3) := by decide +kernel
theorem dX3_isFigure_10 : decode cX3_isFigure 10 = .ok (.iconst 1, 1) := by decide +kernel
theorem dX3_isFigure_11 : decode cX3_isFigure 11 = .ok (.goto 4, 3) := by decide +kernel
theorem dX3_isFigure_14 : decode cX3_isFigure 14 = .ok (.iconst 0, 1) := by decide +kernel
theorem dX3_isFigure_15 : decode cX3_isFigure 15 = .ok (.ireturn, 1) := by decide +kernel
theorem dX3_dots_0 : decode cX3_dots 0 = .ok (.bipush 8, 2) := by decide +kernel
theorem dX3_dots_2 : decode cX3_dots 2 = .ok (.iload_n 0, 1) := by decide +kernel
theorem dX3_dots_3 : decode cX3_dots 3 = .ok (.invokestatic 9, 3) := by decide +kernel
theorem dX3_dots_6 : decode cX3_dots 6 = .ok (.isub, 1) := by decide +kernel
theorem dX3_dots_7 : decode cX3_dots 7 = .ok (.ireturn, 1) := by decide +kernel
theorem dX3_isEven_0 : decode cX3_isEven 0 = .ok (.iload_n 0, 1) := by decide +kernel
theorem dX3_isEven_1 : decode cX3_isEven 1 = .ok (.invokestatic 9, 3) := by decide +kernel
theorem dX3_isEven_4 : decode cX3_isEven 4 = .ok (.iconst 2, 1) := by decide +kernel
theorem dX3_isEven_5 : decode cX3_isEven 5 = .ok (.irem, 1) := by decide +kernel
theorem dX3_isEven_6 : decode cX3_isEven 6 = .ok (.ifCond .ne 7, 3) := by decide +kernel
theorem dX3_isEven_9 : decode cX3_isEven 9 = .ok (.iconst 1, 1) := by decide +kernel
theorem dX3_isEven_10 : decode cX3_isEven 10 = .ok (.goto 4, 3) := by decide +kernel
theorem dX3_isEven_13 : decode cX3_isEven 13 = .ok (.iconst 0, 1) := by decide +kernel
theorem dX3_isEven_14 : decode cX3_isEven 14 = .ok (.ireturn, 1) := by decide +kernel
theorem dX3_toldKind_0 : decode cX3_toldKind 0 = .ok (.iload_n 0, 1) := by decide +kernel
theorem dX3_toldKind_1 : decode cX3_toldKind 1 = .ok (.invokestatic 15, 3) := by decide +kernel
theorem dX3_toldKind_4 : decode cX3_toldKind 4 = .ok (.ifCond .ne 5, 3) := by decide +kernel
theorem dX3_toldKind_7 : decode cX3_toldKind 7 = .ok (.iconst 3, 1) := by decide +kernel
theorem dX3_toldKind_8 : decode cX3_toldKind 8 = .ok (.ireturn, 1) := by decide +kernel
theorem dX3_toldKind_9 : decode cX3_toldKind 9 = .ok (.iload_n 0, 1) := by decide +kernel
theorem dX3_toldKind_10 : decode cX3_toldKind 10 = .ok (.iconst 0, 1) := by decide +kernel
theorem dX3_toldKind_11 : decode cX3_toldKind 11 = .ok (.invokestatic 19, 3) := by decide +kernel
theorem dX3_toldKind_14 : decode cX3_toldKind 14 = .ok (.iload_n 0, 1) := by decide +kernel
theorem dX3_toldKind_15 : decode cX3_toldKind 15 = .ok (.iconst 3, 1) := by decide +kernel
theorem dX3_toldKind_16 : decode cX3_toldKind 16 = .ok (.invokestatic 19, 3) := by decide +kernel
theorem dX3_toldKind_19 : decode cX3_toldKind 19 = .ok (.if_icmp .ne 20, 3) := by decide +kernel
theorem dX3_toldKind_22 : decode cX3_toldKind 22 = .ok (.iload_n 0, 1) := by decide +kernel
theorem dX3_toldKind_23 : decode cX3_toldKind 23 = .ok (.iconst 1, 1) := by decide +kernel
theorem dX3_toldKind_24 : decode cX3_toldKind 24 = .ok (.invokestatic 19, 3) := by decide +kernel
theorem dX3_toldKind_27 : decode cX3_toldKind 27 = .ok (.iload_n 0, 1) := by decide +kernel
theorem dX3_toldKind_28 : decode cX3_toldKind 28 = .ok (.iconst 2, 1) := by decide +kernel
theorem dX3_toldKind_29 : decode cX3_toldKind 29 = .ok (.invokestatic 19, 3) := by decide +kernel
theorem dX3_toldKind_32 : decode cX3_toldKind 32 = .ok (.if_icmp .ne 7, 3) := by decide +kernel
theorem dX3_toldKind_35 : decode cX3_toldKind 35 = .ok (.iconst 2, 1) := by decide +kernel
theorem dX3_toldKind_36 : decode cX3_toldKind 36 = .ok (.goto 4, 3) := by decide +kernel
theorem dX3_toldKind_39 : decode cX3_toldKind 39 = .ok (.iconst 1, 1) := by decide +kernel
theorem dX3_toldKind_40 : decode cX3_toldKind 40 = .ok (.ireturn, 1) := by decide +kernel
theorem dX3_isOfKind_0 : decode cX3_isOfKind 0 = .ok (.iload_n 0, 1) := by decide +kernel
theorem dX3_isOfKind_1 : decode cX3_isOfKind 1 = .ok (.invokestatic 23, 3) := by decide +kernel
theorem dX3_isOfKind_4 : decode cX3_isOfKind 4 = .ok (.istore_n 2, 1) := by decide +kernel
theorem dX3_isOfKind_5 : decode cX3_isOfKind 5 = .ok (.iload_n 1, 1) := by decide +kernel
theorem dX3_isOfKind_6 : decode cX3_isOfKind 6 = .ok (.ifCond .eq 18, 3) := by decide +kernel
theorem dX3_isOfKind_9 : decode cX3_isOfKind 9 = .ok (.iload_n 1, 1) := by decide +kernel
theorem dX3_isOfKind_10 : decode cX3_isOfKind 10 = .ok (.iload_n 2, 1) := by decide +kernel
theorem dX3_isOfKind_11 : decode cX3_isOfKind 11 = .ok (.if_icmp .eq 13, 3) := by decide +kernel
theorem dX3_isOfKind_14 : decode cX3_isOfKind 14 = .ok (.iload_n 1, 1) := by decide +kernel
theorem dX3_isOfKind_15 : decode cX3_isOfKind 15 = .ok (.iconst 1, 1) := by decide +kernel
theorem dX3_isOfKind_16 : decode cX3_isOfKind 16 = .ok (.if_icmp .ne 12, 3) := by decide +kernel
theorem dX3_isOfKind_19 : decode cX3_isOfKind 19 = .ok (.iload_n 2, 1) := by decide +kernel
theorem dX3_isOfKind_20 : decode cX3_isOfKind 20 = .ok (.iconst 2, 1) := by decide +kernel
theorem dX3_isOfKind_21 : decode cX3_isOfKind 21 = .ok (.if_icmp .ne 7, 3) := by decide +kernel
theorem dX3_isOfKind_24 : decode cX3_isOfKind 24 = .ok (.iconst 1, 1) := by decide +kernel
theorem dX3_isOfKind_25 : decode cX3_isOfKind 25 = .ok (.goto 4, 3) := by decide +kernel
theorem dX3_isOfKind_28 : decode cX3_isOfKind 28 = .ok (.iconst 0, 1) := by decide +kernel
theorem dX3_isOfKind_29 : decode cX3_isOfKind 29 = .ok (.ireturn, 1) := by decide +kernel
theorem dX3_row_0 : decode cX3_row 0 = .ok (.iload_n 0, 1) := by decide +kernel
theorem dX3_row_1 : decode cX3_row 1 = .ok (.iload_n 1, 1) := by decide +kernel
theorem dX3_row_2 : decode cX3_row 2 = .ok (.ishr, 1) := by decide +kernel
theorem dX3_row_3 : decode cX3_row 3 = .ok (.iconst 1, 1) := by decide +kernel
theorem dX3_row_4 : decode cX3_row 4 = .ok (.iand, 1) := by decide +kernel
theorem dX3_row_5 : decode cX3_row 5 = .ok (.ireturn, 1) := by decide +kernel
theorem dX4_init_0 : decode cX4_init 0 = .ok (.aload_n 0, 1) := by decide +kernel
theorem dX4_init_1 : decode cX4_init 1 = .ok (.invokespecial 3, 3) := by decide +kernel
theorem dX4_init_4 : decode cX4_init 4 = .ok (.aload_n 0, 1) := by decide +kernel
theorem dX4_init_5 : decode cX4_init 5 = .ok (.sipush 256, 3) := by decide +kernel
theorem dX4_init_8 : decode cX4_init 8 = .ok (.newarray .long, 2) := by decide +kernel
theorem dX4_init_10 : decode cX4_init 10 = .ok (.putfield 11, 3) := by decide +kernel
theorem dX4_init_13 : decode cX4_init 13 = .ok (.aload_n 0, 1) := by decide +kernel
theorem dX4_init_14 : decode cX4_init 14 = .ok (.sipush 256, 3) := by decide +kernel
theorem dX4_init_17 : decode cX4_init 17 = .ok (.newarray .long, 2) := by decide +kernel
theorem dX4_init_19 : decode cX4_init 19 = .ok (.putfield 15, 3) := by decide +kernel
theorem dX4_init_22 : decode cX4_init 22 = .ok (.aload_n 0, 1) := by decide +kernel
theorem dX4_init_23 : decode cX4_init 23 = .ok (.iconst 0, 1) := by decide +kernel
theorem dX4_init_24 : decode cX4_init 24 = .ok (.putfield 18, 3) := by decide +kernel
theorem dX4_init_27 : decode cX4_init 27 = .ok (.aload_n 0, 1) := by decide +kernel
theorem dX4_init_28 : decode cX4_init 28 = .ok (.lconst 0, 1) := by decide +kernel
theorem dX4_init_29 : decode cX4_init 29 = .ok (.putfield 22, 3) := by decide +kernel
theorem dX4_init_32 : decode cX4_init 32 = .ok (.aload_n 0, 1) := by decide +kernel
theorem dX4_init_33 : decode cX4_init 33 = .ok (.lconst 0, 1) := by decide +kernel
theorem dX4_init_34 : decode cX4_init 34 = .ok (.putfield 26, 3) := by decide +kernel
theorem dX4_init_37 : decode cX4_init 37 = .ok (.aload_n 0, 1) := by decide +kernel
theorem dX4_init_38 : decode cX4_init 38 = .ok (.iconst 0, 1) := by decide +kernel
theorem dX4_init_39 : decode cX4_init 39 = .ok (.putfield 29, 3) := by decide +kernel
theorem dX4_init_42 : decode cX4_init 42 = .ok (.aload_n 0, 1) := by decide +kernel
theorem dX4_init_43 : decode cX4_init 43 = .ok (.iconst 0, 1) := by decide +kernel
theorem dX4_init_44 : decode cX4_init 44 = .ok (.putfield 33, 3) := by decide +kernel
theorem dX4_init_47 : decode cX4_init 47 = .ok (.aload_n 0, 1) := by decide +kernel
theorem dX4_init_48 : decode cX4_init 48 = .ok (.iconst 0, 1) := by decide +kernel
theorem dX4_init_49 : decode cX4_init 49 = .ok (.putfield 36, 3) := by decide +kernel
theorem dX4_init_52 : decode cX4_init 52 = .ok (.aload_n 0, 1) := by decide +kernel
theorem dX4_init_53 : decode cX4_init 53 = .ok (.iconst 0, 1) := by decide +kernel
theorem dX4_init_54 : decode cX4_init 54 = .ok (.putfield 39, 3) := by decide +kernel
theorem dX4_init_57 : decode cX4_init 57 = .ok (.aload_n 0, 1) := by decide +kernel
theorem dX4_init_58 : decode cX4_init 58 = .ok (.getfield 11, 3) := by decide +kernel
theorem dX4_init_61 : decode cX4_init 61 = .ok (.iconst 0, 1) := by decide +kernel
theorem dX4_init_62 : decode cX4_init 62 = .ok (.invokestatic 42, 3) := by decide +kernel
theorem dX4_init_65 : decode cX4_init 65 = .ok (.aload_n 0, 1) := by decide +kernel
theorem dX4_init_66 : decode cX4_init 66 = .ok (.getfield 15, 3) := by decide +kernel
theorem dX4_init_69 : decode cX4_init 69 = .ok (.bipush 8, 2) := by decide +kernel
theorem dX4_init_71 : decode cX4_init 71 = .ok (.invokestatic 42, 3) := by decide +kernel
theorem dX4_init_74 : decode cX4_init 74 = .ok (.lconst 0, 1) := by decide +kernel
theorem dX4_init_75 : decode cX4_init 75 = .ok (.lstore_n 1, 1) := by decide +kernel
theorem dX4_init_76 : decode cX4_init 76 = .ok (.iconst 0, 1) := by decide +kernel
theorem dX4_init_77 : decode cX4_init 77 = .ok (.istore_n 3, 1) := by decide +kernel
theorem dX4_init_78 : decode cX4_init 78 = .ok (.iload_n 3, 1) := by decide +kernel
theorem dX4_init_79 : decode cX4_init 79 = .ok (.sipush 256, 3) := by decide +kernel
theorem dX4_init_82 : decode cX4_init 82 = .ok (.if_icmp .ge 18, 3) := by decide +kernel
theorem dX4_init_85 : decode cX4_init 85 = .ok (.lload_n 1, 1) := by decide +kernel
theorem dX4_init_86 : decode cX4_init 86 = .ok (.aload_n 0, 1) := by decide +kernel
theorem dX4_init_87 : decode cX4_init 87 = .ok (.getfield 11, 3) := by decide +kernel
theorem dX4_init_90 : decode cX4_init 90 = .ok (.iload_n 3, 1) := by decide +kernel
theorem dX4_init_91 : decode cX4_init 91 = .ok (.laload, 1) := by decide +kernel
theorem dX4_init_92 : decode cX4_init 92 = .ok (.lor, 1) := by decide +kernel
theorem dX4_init_93 : decode cX4_init 93 = .ok (.lstore_n 1, 1) := by decide +kernel
theorem dX4_init_94 : decode cX4_init 94 = .ok (.iinc 3 1, 3) := by decide +kernel
theorem dX4_init_97 : decode cX4_init 97 = .ok (.goto (-19), 3) := by decide +kernel
theorem dX4_init_100 : decode cX4_init 100 = .ok (.aload_n 0, 1) := by decide +kernel
theorem dX4_init_101 : decode cX4_init 101 = .ok (.lload_n 1, 1) := by decide +kernel
theorem dX4_init_102 : decode cX4_init 102 = .ok (.ldc2_w 46, 3) := by decide +kernel
theorem dX4_init_105 : decode cX4_init 105 = .ok (.lxor, 1) := by decide +kernel
theorem dX4_init_106 : decode cX4_init 106 = .ok (.putfield 48, 3) := by decide +kernel
theorem dX4_init_109 : decode cX4_init 109 = .ok (.return_, 1) := by decide +kernel
theorem dX4_fillWithCharts_0 : decode cX4_fillWithCharts 0 = .ok (.iconst 1, 1) := by decide +kernel
theorem dX4_fillWithCharts_1 : decode cX4_fillWithCharts 1 = .ok (.istore_n 2, 1) := by decide +kernel
theorem dX4_fillWithCharts_2 : decode cX4_fillWithCharts 2 = .ok (.iload_n 2, 1) := by decide +kernel
theorem dX4_fillWithCharts_3 : decode cX4_fillWithCharts 3 = .ok (.sipush 256, 3) := by decide +kernel
theorem dX4_fillWithCharts_6 : decode cX4_fillWithCharts 6 = .ok (.if_icmp .ge 40, 3) := by decide +kernel
theorem dX4_fillWithCharts_9 : decode cX4_fillWithCharts 9 = .ok (.iload_n 2, 1) := by decide +kernel
theorem dX4_fillWithCharts_10 : decode cX4_fillWithCharts 10 = .ok (.iload_n 2, 1) := by decide +kernel
theorem dX4_fillWithCharts_11 : decode cX4_fillWithCharts 11 = .ok (.ineg, 1) := by decide +kernel
theorem dX4_fillWithCharts_12 : decode cX4_fillWithCharts 12 = .ok (.iand, 1) := by decide +kernel
theorem dX4_fillWithCharts_13 : decode cX4_fillWithCharts 13 = .ok (.istore_n 3, 1) := by decide +kernel
theorem dX4_fillWithCharts_14 : decode cX4_fillWithCharts 14 = .ok (.aload_n 0, 1) := by decide +kernel
theorem dX4_fillWithCharts_15 : decode cX4_fillWithCharts 15 = .ok (.iload_n 2, 1) := by decide +kernel
theorem dX4_fillWithCharts_16 : decode cX4_fillWithCharts 16 = .ok (.iload_n 2, 1) := by decide +kernel
theorem dX4_fillWithCharts_17 : decode cX4_fillWithCharts 17 = .ok (.iload_n 3, 1) := by decide +kernel
theorem dX4_fillWithCharts_18 : decode cX4_fillWithCharts 18 = .ok (.if_icmp .ne 12, 3) := by decide +kernel
theorem dX4_fillWithCharts_21 : decode cX4_fillWithCharts 21 = .ok (.iload_n 2, 1) := by decide +kernel
theorem dX4_fillWithCharts_22 : decode cX4_fillWithCharts 22 = .ok (.iload_n 1, 1) := by decide +kernel
theorem dX4_fillWithCharts_23 : decode cX4_fillWithCharts 23 = .ok (.ishl, 1) := by decide +kernel
theorem dX4_fillWithCharts_24 : decode cX4_fillWithCharts 24 = .ok (.invokestatic 51, 3) := by decide +kernel
theorem dX4_fillWithCharts_27 : decode cX4_fillWithCharts 27 = .ok (.goto 12, 3) := by decide +kernel
theorem dX4_fillWithCharts_30 : decode cX4_fillWithCharts 30 = .ok (.aload_n 0, 1) := by decide +kernel
theorem dX4_fillWithCharts_31 : decode cX4_fillWithCharts 31 = .ok (.iload_n 3, 1) := by decide +kernel
theorem dX4_fillWithCharts_32 : decode cX4_fillWithCharts 32 = .ok (.laload, 1) := by decide +kernel
theorem dX4_fillWithCharts_33 : decode cX4_fillWithCharts 33 = .ok (.aload_n 0, 1) := by decide +kernel
theorem dX4_fillWithCharts_34 : decode cX4_fillWithCharts 34 = .ok (.iload_n 2, 1) := by decide +kernel
theorem dX4_fillWithCharts_35 : decode cX4_fillWithCharts 35 = .ok (.iload_n 3, 1) := by decide +kernel
theorem dX4_fillWithCharts_36 : decode cX4_fillWithCharts 36 = .ok (.isub, 1) := by decide +kernel
theorem dX4_fillWithCharts_37 : decode cX4_fillWithCharts 37 = .ok (.laload, 1) := by decide +kernel
theorem dX4_fillWithCharts_38 : decode cX4_fillWithCharts 38 = .ok (.lxor, 1) := by decide +kernel
theorem dX4_fillWithCharts_39 : decode cX4_fillWithCharts 39 = .ok (.lastore, 1) := by decide +kernel
theorem dX4_fillWithCharts_40 : decode cX4_fillWithCharts 40 = .ok (.iinc 2 1, 3) := by decide +kernel
theorem dX4_fillWithCharts_43 : decode cX4_fillWithCharts 43 = .ok (.goto (-41), 3) := by decide +kernel
theorem dX4_fillWithCharts_46 : decode cX4_fillWithCharts 46 = .ok (.return_, 1) := by decide +kernel
theorem dX4_lookAt_0 : decode cX4_lookAt 0 = .ok (.aload_n 0, 1) := by decide +kernel
theorem dX4_lookAt_1 : decode cX4_lookAt 1 = .ok (.getfield 18, 3) := by decide +kernel
theorem dX4_lookAt_4 : decode cX4_lookAt 4 = .ok (.ifCond .eq 22, 3) := by decide +kernel
theorem dX4_lookAt_7 : decode cX4_lookAt 7 = .ok (.aload_n 0, 1) := by decide +kernel
theorem dX4_lookAt_8 : decode cX4_lookAt 8 = .ok (.getfield 22, 3) := by decide +kernel
theorem dX4_lookAt_11 : decode cX4_lookAt 11 = .ok (.lload_n 1, 1) := by decide +kernel
theorem dX4_lookAt_12 : decode cX4_lookAt 12 = .ok (.lcmp, 1) := by decide +kernel
theorem dX4_lookAt_13 : decode cX4_lookAt 13 = .ok (.ifCond .ne 13, 3) := by decide +kernel
theorem dX4_lookAt_16 : decode cX4_lookAt 16 = .ok (.aload_n 0, 1) := by decide +kernel
theorem dX4_lookAt_17 : decode cX4_lookAt 17 = .ok (.getfield 26, 3) := by decide +kernel
theorem dX4_lookAt_20 : decode cX4_lookAt 20 = .ok (.lload_n 3, 1) := by decide +kernel
theorem dX4_lookAt_21 : decode cX4_lookAt 21 = .ok (.lcmp, 1) := by decide +kernel
theorem dX4_lookAt_22 : decode cX4_lookAt 22 = .ok (.ifCond .ne 4, 3) := by decide +kernel
theorem dX4_lookAt_25 : decode cX4_lookAt 25 = .ok (.return_, 1) := by decide +kernel
theorem dX4_lookAt_26 : decode cX4_lookAt 26 = .ok (.aload_n 0, 1) := by decide +kernel
theorem dX4_lookAt_27 : decode cX4_lookAt 27 = .ok (.iconst 1, 1) := by decide +kernel
theorem dX4_lookAt_28 : decode cX4_lookAt 28 = .ok (.putfield 18, 3) := by decide +kernel
theorem dX4_lookAt_31 : decode cX4_lookAt 31 = .ok (.aload_n 0, 1) := by decide +kernel
theorem dX4_lookAt_32 : decode cX4_lookAt 32 = .ok (.lload_n 1, 1) := by decide +kernel
theorem dX4_lookAt_33 : decode cX4_lookAt 33 = .ok (.putfield 22, 3) := by decide +kernel
theorem dX4_lookAt_36 : decode cX4_lookAt 36 = .ok (.aload_n 0, 1) := by decide +kernel
theorem dX4_lookAt_37 : decode cX4_lookAt 37 = .ok (.lload_n 3, 1) := by decide +kernel
theorem dX4_lookAt_38 : decode cX4_lookAt 38 = .ok (.putfield 26, 3) := by decide +kernel
theorem dX4_lookAt_41 : decode cX4_lookAt 41 = .ok (.aload_n 0, 1) := by decide +kernel
theorem dX4_lookAt_42 : decode cX4_lookAt 42 = .ok (.iconst 0, 1) := by decide +kernel
theorem dX4_lookAt_43 : decode cX4_lookAt 43 = .ok (.putfield 29, 3) := by decide +kernel
theorem dX4_lookAt_46 : decode cX4_lookAt 46 = .ok (.aload_n 0, 1) := by decide +kernel
theorem dX4_lookAt_47 : decode cX4_lookAt 47 = .ok (.bipush 65, 2) := by decide +kernel
theorem dX4_lookAt_49 : decode cX4_lookAt 49 = .ok (.putfield 33, 3) := by decide +kernel
theorem dX4_lookAt_52 : decode cX4_lookAt 52 = .ok (.aload_n 0, 1) := by decide +kernel
theorem dX4_lookAt_53 : decode cX4_lookAt 53 = .ok (.iconst 0, 1) := by decide +kernel
theorem dX4_lookAt_54 : decode cX4_lookAt 54 = .ok (.putfield 36, 3) := by decide +kernel
theorem dX4_lookAt_57 : decode cX4_lookAt 57 = .ok (.aload_n 0, 1) := by decide +kernel
theorem dX4_lookAt_58 : decode cX4_lookAt 58 = .ok (.iconst 0, 1) := by decide +kernel
theorem dX4_lookAt_59 : decode cX4_lookAt 59 = .ok (.putfield 39, 3) := by decide +kernel
theorem dX4_lookAt_62 : decode cX4_lookAt 62 = .ok (.iconst 0, 1) := by decide +kernel
theorem dX4_lookAt_63 : decode cX4_lookAt 63 = .ok (.istore 5, 2) := by decide +kernel
theorem dX4_lookAt_65 : decode cX4_lookAt 65 = .ok (.iload 5, 2) := by decide +kernel
theorem dX4_lookAt_67 : decode cX4_lookAt 67 = .ok (.sipush 256, 3) := by decide +kernel
theorem dX4_lookAt_70 : decode cX4_lookAt 70 = .ok (.if_icmp .ge 53, 3) := by decide +kernel
theorem dX4_lookAt_73 : decode cX4_lookAt 73 = .ok (.aload_n 0, 1) := by decide +kernel
theorem dX4_lookAt_74 : decode cX4_lookAt 74 = .ok (.getfield 15, 3) := by decide +kernel
theorem dX4_lookAt_77 : decode cX4_lookAt 77 = .ok (.iload 5, 2) := by decide +kernel
theorem dX4_lookAt_79 : decode cX4_lookAt 79 = .ok (.laload, 1) := by decide +kernel
theorem dX4_lookAt_80 : decode cX4_lookAt 80 = .ok (.aload_n 0, 1) := by decide +kernel
theorem dX4_lookAt_81 : decode cX4_lookAt 81 = .ok (.getfield 22, 3) := by decide +kernel
theorem dX4_lookAt_84 : decode cX4_lookAt 84 = .ok (.lxor, 1) := by decide +kernel
theorem dX4_lookAt_85 : decode cX4_lookAt 85 = .ok (.aload_n 0, 1) := by decide +kernel
theorem dX4_lookAt_86 : decode cX4_lookAt 86 = .ok (.getfield 26, 3) := by decide +kernel
theorem dX4_lookAt_89 : decode cX4_lookAt 89 = .ok (.land, 1) := by decide +kernel
theorem dX4_lookAt_90 : decode cX4_lookAt 90 = .ok (.lstore 6, 2) := by decide +kernel
theorem dX4_lookAt_92 : decode cX4_lookAt 92 = .ok (.aload_n 0, 1) := by decide +kernel
theorem dX4_lookAt_93 : decode cX4_lookAt 93 = .ok (.lload 6, 2) := by decide +kernel
theorem dX4_lookAt_95 : decode cX4_lookAt 95 = .ok (.aload_n 0, 1) := by decide +kernel
theorem dX4_lookAt_96 : decode cX4_lookAt 96 = .ok (.getfield 48, 3) := by decide +kernel
theorem dX4_lookAt_99 : decode cX4_lookAt 99 = .ok (.land, 1) := by decide +kernel
theorem dX4_lookAt_100 : decode cX4_lookAt 100 = .ok (.invokevirtual 57, 3) := by decide +kernel
theorem dX4_lookAt_103 : decode cX4_lookAt 103 = .ok (.ifCond .eq 14, 3) := by decide +kernel
theorem dX4_lookAt_106 : decode cX4_lookAt 106 = .ok (.aload_n 0, 1) := by decide +kernel
theorem dX4_lookAt_107 : decode cX4_lookAt 107 = .ok (.iload 5, 2) := by decide +kernel
theorem dX4_lookAt_109 : decode cX4_lookAt 109 = .ok (.bipush 8, 2) := by decide +kernel
theorem dX4_lookAt_111 : decode cX4_lookAt 111 = .ok (.ishl, 1) := by decide +kernel
theorem dX4_lookAt_112 : decode cX4_lookAt 112 = .ok (.lload 6, 2) := by decide +kernel
theorem dX4_lookAt_114 : decode cX4_lookAt 114 = .ok (.invokevirtual 61, 3) := by decide +kernel
theorem dX4_lookAt_117 : decode cX4_lookAt 117 = .ok (.iinc 5 1, 3) := by decide +kernel
theorem dX4_lookAt_120 : decode cX4_lookAt 120 = .ok (.goto (-55), 3) := by decide +kernel
theorem dX4_lookAt_123 : decode cX4_lookAt 123 = .ok (.return_, 1) := by decide +kernel
theorem dX4_mayTellMore_0 : decode cX4_mayTellMore 0 = .ok (.lload_n 1, 1) := by decide +kernel
theorem dX4_mayTellMore_1 : decode cX4_mayTellMore 1 = .ok (.lconst 0, 1) := by decide +kernel
theorem dX4_mayTellMore_2 : decode cX4_mayTellMore 2 = .ok (.lcmp, 1) := by decide +kernel
theorem dX4_mayTellMore_3 : decode cX4_mayTellMore 3 = .ok (.ifCond .eq 25, 3) := by decide +kernel
theorem dX4_mayTellMore_6 : decode cX4_mayTellMore 6 = .ok (.lload_n 1, 1) := by decide +kernel
theorem dX4_mayTellMore_7 : decode cX4_mayTellMore 7 = .ok (.invokestatic 65, 3) := by decide +kernel
theorem dX4_mayTellMore_10 : decode cX4_mayTellMore 10 = .ok (.aload_n 0, 1) := by decide +kernel
theorem dX4_mayTellMore_11 : decode cX4_mayTellMore 11 = .ok (.getfield 33, 3) := by decide +kernel
theorem dX4_mayTellMore_14 : decode cX4_mayTellMore 14 = .ok (.if_icmp .lt 14, 3) := by decide +kernel
theorem dX4_mayTellMore_17 : decode cX4_mayTellMore 17 = .ok (.aload_n 0, 1) := by decide +kernel
theorem dX4_mayTellMore_18 : decode cX4_mayTellMore 18 = .ok (.getfield 39, 3) := by decide +kernel
theorem dX4_mayTellMore_21 : decode cX4_mayTellMore 21 = .ok (.lload_n 1, 1) := by decide +kernel
theorem dX4_mayTellMore_22 : decode cX4_mayTellMore 22 = .ok (.invokestatic 71, 3) := by decide +kernel
theorem dX4_mayTellMore_25 : decode cX4_mayTellMore 25 = .ok (.ifCond .eq 7, 3) := by decide +kernel
theorem dX4_mayTellMore_28 : decode cX4_mayTellMore 28 = .ok (.iconst 1, 1) := by decide +kernel
theorem dX4_mayTellMore_29 : decode cX4_mayTellMore 29 = .ok (.goto 4, 3) := by decide +kernel
theorem dX4_mayTellMore_32 : decode cX4_mayTellMore 32 = .ok (.iconst 0, 1) := by decide +kernel
theorem dX4_mayTellMore_33 : decode cX4_mayTellMore 33 = .ok (.ireturn, 1) := by decide +kernel
theorem dX4_lookThrough_0 : decode cX4_lookThrough 0 = .ok (.iconst 0, 1) := by decide +kernel
theorem dX4_lookThrough_1 : decode cX4_lookThrough 1 = .ok (.istore 4, 2) := by decide +kernel
theorem dX4_lookThrough_3 : decode cX4_lookThrough 3 = .ok (.iload 4, 2) := by decide +kernel
theorem dX4_lookThrough_5 : decode cX4_lookThrough 5 = .ok (.sipush 256, 3) := by decide +kernel
theorem dX4_lookThrough_8 : decode cX4_lookThrough 8 = .ok (.if_icmp .ge 104, 3) := by decide +kernel
theorem dX4_lookThrough_11 : decode cX4_lookThrough 11 = .ok (.lload_n 2, 1) := by decide +kernel
theorem dX4_lookThrough_12 : decode cX4_lookThrough 12 = .ok (.aload_n 0, 1) := by decide +kernel
theorem dX4_lookThrough_13 : decode cX4_lookThrough 13 = .ok (.getfield 11, 3) := by decide +kernel
theorem dX4_lookThrough_16 : decode cX4_lookThrough 16 = .ok (.iload 4, 2) := by decide +kernel
theorem dX4_lookThrough_18 : decode cX4_lookThrough 18 = .ok (.laload, 1) := by decide +kernel
theorem dX4_lookThrough_19 : decode cX4_lookThrough 19 = .ok (.aload_n 0, 1) := by decide +kernel
theorem dX4_lookThrough_20 : decode cX4_lookThrough 20 = .ok (.getfield 26, 3) := by decide +kernel
theorem dX4_lookThrough_23 : decode cX4_lookThrough 23 = .ok (.land, 1) := by decide +kernel
theorem dX4_lookThrough_24 : decode cX4_lookThrough 24 = .ok (.lxor, 1) := by decide +kernel
theorem dX4_lookThrough_25 : decode cX4_lookThrough 25 = .ok (.lstore 5, 2) := by decide +kernel
theorem dX4_lookThrough_27 : decode cX4_lookThrough 27 = .ok (.lload 5, 2) := by decide +kernel
theorem dX4_lookThrough_29 : decode cX4_lookThrough 29 = .ok (.invokestatic 65, 3) := by decide +kernel
theorem dX4_lookThrough_32 : decode cX4_lookThrough 32 = .ok (.istore 7, 2) := by decide +kernel
theorem dX4_lookThrough_34 : decode cX4_lookThrough 34 = .ok (.iload 7, 2) := by decide +kernel
theorem dX4_lookThrough_36 : decode cX4_lookThrough 36 = .ok (.aload_n 0, 1) := by decide +kernel
theorem dX4_lookThrough_37 : decode cX4_lookThrough 37 = .ok (.getfield 33, 3) := by decide +kernel
theorem dX4_lookThrough_40 : decode cX4_lookThrough 40 = .ok (.if_icmp .ge 17, 3) := by decide +kernel
theorem dX4_lookThrough_43 : decode cX4_lookThrough 43 = .ok (.aload_n 0, 1) := by decide +kernel
theorem dX4_lookThrough_44 : decode cX4_lookThrough 44 = .ok (.iload 7, 2) := by decide +kernel
theorem dX4_lookThrough_46 : decode cX4_lookThrough 46 = .ok (.putfield 33, 3) := by decide +kernel
theorem dX4_lookThrough_49 : decode cX4_lookThrough 49 = .ok (.aload_n 0, 1) := by decide +kernel
theorem dX4_lookThrough_50 : decode cX4_lookThrough 50 = .ok (.iload_n 1, 1) := by decide +kernel
theorem dX4_lookThrough_51 : decode cX4_lookThrough 51 = .ok (.iload 4, 2) := by decide +kernel
theorem dX4_lookThrough_53 : decode cX4_lookThrough 53 = .ok (.iadd, 1) := by decide +kernel
theorem dX4_lookThrough_54 : decode cX4_lookThrough 54 = .ok (.putfield 36, 3) := by decide +kernel
theorem dX4_lookThrough_57 : decode cX4_lookThrough 57 = .ok (.iload 7, 2) := by decide +kernel
theorem dX4_lookThrough_59 : decode cX4_lookThrough 59 = .ok (.ifCond .ne 13, 3) := by decide +kernel
theorem dX4_lookThrough_62 : decode cX4_lookThrough 62 = .ok (.aload_n 0, 1) := by decide +kernel
theorem dX4_lookThrough_63 : decode cX4_lookThrough 63 = .ok (.dup, 1) := by decide +kernel
theorem dX4_lookThrough_64 : decode cX4_lookThrough 64 = .ok (.getfield 29, 3) := by decide +kernel
theorem dX4_lookThrough_67 : decode cX4_lookThrough 67 = .ok (.iconst 1, 1) := by decide +kernel
theorem dX4_lookThrough_68 : decode cX4_lookThrough 68 = .ok (.iadd, 1) := by decide +kernel
theorem dX4_lookThrough_69 : decode cX4_lookThrough 69 = .ok (.putfield 29, 3) := by decide +kernel
theorem dX4_lookThrough_72 : decode cX4_lookThrough 72 = .ok (.aload_n 0, 1) := by decide +kernel
theorem dX4_lookThrough_73 : decode cX4_lookThrough 73 = .ok (.getfield 39, 3) := by decide +kernel
theorem dX4_lookThrough_76 : decode cX4_lookThrough 76 = .ok (.bipush 16, 2) := by decide +kernel
theorem dX4_lookThrough_78 : decode cX4_lookThrough 78 = .ok (.if_icmp .ge 28, 3) := by decide +kernel
theorem dX4_lookThrough_81 : decode cX4_lookThrough 81 = .ok (.aload_n 0, 1) := by decide +kernel
theorem dX4_lookThrough_82 : decode cX4_lookThrough 82 = .ok (.getfield 39, 3) := by decide +kernel
theorem dX4_lookThrough_85 : decode cX4_lookThrough 85 = .ok (.lload 5, 2) := by decide +kernel
theorem dX4_lookThrough_87 : decode cX4_lookThrough 87 = .ok (.invokestatic 71, 3) := by decide +kernel
theorem dX4_lookThrough_90 : decode cX4_lookThrough 90 = .ok (.ifCond .eq 16, 3) := by decide +kernel
theorem dX4_lookThrough_93 : decode cX4_lookThrough 93 = .ok (.aload_n 0, 1) := by decide +kernel
theorem dX4_lookThrough_94 : decode cX4_lookThrough 94 = .ok (.dup, 1) := by decide +kernel
theorem dX4_lookThrough_95 : decode cX4_lookThrough 95 = .ok (.getfield 39, 3) := by decide +kernel
theorem dX4_lookThrough_98 : decode cX4_lookThrough 98 = .ok (.iconst 1, 1) := by decide +kernel
theorem dX4_lookThrough_99 : decode cX4_lookThrough 99 = .ok (.iadd, 1) := by decide +kernel
theorem dX4_lookThrough_100 : decode cX4_lookThrough 100 = .ok (.putfield 39, 3) := by decide +kernel
theorem dX4_lookThrough_103 : decode cX4_lookThrough 103 = .ok (.goto (-31), 3) := by decide +kernel
theorem dX4_lookThrough_106 : decode cX4_lookThrough 106 = .ok (.iinc 4 1, 3) := by decide +kernel
theorem dX4_lookThrough_109 : decode cX4_lookThrough 109 = .ok (.goto (-106), 3) := by decide +kernel
theorem dX4_lookThrough_112 : decode cX4_lookThrough 112 = .ok (.return_, 1) := by decide +kernel
theorem dX4_agreesUpTo_0 : decode cX4_agreesUpTo 0 = .ok (.iload_n 0, 1) := by decide +kernel
theorem dX4_agreesUpTo_1 : decode cX4_agreesUpTo 1 = .ok (.bipush 16, 2) := by decide +kernel
theorem dX4_agreesUpTo_3 : decode cX4_agreesUpTo 3 = .ok (.if_icmp .ge 24, 3) := by decide +kernel
theorem dX4_agreesUpTo_6 : decode cX4_agreesUpTo 6 = .ok (.lload_n 1, 1) := by decide +kernel
theorem dX4_agreesUpTo_7 : decode cX4_agreesUpTo 7 = .ok (.ldc2_w 46, 3) := by decide +kernel
theorem dX4_agreesUpTo_10 : decode cX4_agreesUpTo 10 = .ok (.iconst 4, 1) := by decide +kernel
theorem dX4_agreesUpTo_11 : decode cX4_agreesUpTo 11 = .ok (.bipush 15, 2) := by decide +kernel
theorem dX4_agreesUpTo_13 : decode cX4_agreesUpTo 13 = .ok (.iload_n 0, 1) := by decide +kernel
theorem dX4_agreesUpTo_14 : decode cX4_agreesUpTo 14 = .ok (.isub, 1) := by decide +kernel
theorem dX4_agreesUpTo_15 : decode cX4_agreesUpTo 15 = .ok (.imul, 1) := by decide +kernel
theorem dX4_agreesUpTo_16 : decode cX4_agreesUpTo 16 = .ok (.lushr, 1) := by decide +kernel
theorem dX4_agreesUpTo_17 : decode cX4_agreesUpTo 17 = .ok (.land, 1) := by decide +kernel
theorem dX4_agreesUpTo_18 : decode cX4_agreesUpTo 18 = .ok (.lconst 0, 1) := by decide +kernel
theorem dX4_agreesUpTo_19 : decode cX4_agreesUpTo 19 = .ok (.lcmp, 1) := by decide +kernel
theorem dX4_agreesUpTo_20 : decode cX4_agreesUpTo 20 = .ok (.ifCond .ne 7, 3) := by decide +kernel
theorem dX4_agreesUpTo_23 : decode cX4_agreesUpTo 23 = .ok (.iconst 1, 1) := by decide +kernel
theorem dX4_agreesUpTo_24 : decode cX4_agreesUpTo 24 = .ok (.goto 4, 3) := by decide +kernel
theorem dX4_agreesUpTo_27 : decode cX4_agreesUpTo 27 = .ok (.iconst 0, 1) := by decide +kernel
theorem dX4_agreesUpTo_28 : decode cX4_agreesUpTo 28 = .ok (.ireturn, 1) := by decide +kernel
theorem dX4_answerTo_0 : decode cX4_answerTo 0 = .ok (.iload_n 1, 1) := by decide +kernel
theorem dX4_answerTo_1 : decode cX4_answerTo 1 = .ok (.tableswitch 86 0 4 #[35, 40, 57, 62, 67], 35) := by decide +kernel
theorem dX4_answerTo_36 : decode cX4_answerTo 36 = .ok (.aload_n 0, 1) := by decide +kernel
theorem dX4_answerTo_37 : decode cX4_answerTo 37 = .ok (.getfield 29, 3) := by decide +kernel
theorem dX4_answerTo_40 : decode cX4_answerTo 40 = .ok (.ireturn, 1) := by decide +kernel
theorem dX4_answerTo_41 : decode cX4_answerTo 41 = .ok (.aload_n 0, 1) := by decide +kernel
theorem dX4_answerTo_42 : decode cX4_answerTo 42 = .ok (.getfield 29, 3) := by decide +kernel
theorem dX4_answerTo_45 : decode cX4_answerTo 45 = .ok (.ifCond .le 10, 3) := by decide +kernel
theorem dX4_answerTo_48 : decode cX4_answerTo 48 = .ok (.aload_n 0, 1) := by decide +kernel
theorem dX4_answerTo_49 : decode cX4_answerTo 49 = .ok (.getfield 36, 3) := by decide +kernel
theorem dX4_answerTo_52 : decode cX4_answerTo 52 = .ok (.goto 5, 3) := by decide +kernel
theorem dX4_answerTo_55 : decode cX4_answerTo 55 = .ok (.ldc 75, 2) := by decide +kernel
theorem dX4_answerTo_57 : decode cX4_answerTo 57 = .ok (.ireturn, 1) := by decide +kernel
theorem dX4_answerTo_58 : decode cX4_answerTo 58 = .ok (.aload_n 0, 1) := by decide +kernel
theorem dX4_answerTo_59 : decode cX4_answerTo 59 = .ok (.getfield 33, 3) := by decide +kernel
theorem dX4_answerTo_62 : decode cX4_answerTo 62 = .ok (.ireturn, 1) := by decide +kernel
theorem dX4_answerTo_63 : decode cX4_answerTo 63 = .ok (.aload_n 0, 1) := by decide +kernel
theorem dX4_answerTo_64 : decode cX4_answerTo 64 = .ok (.getfield 36, 3) := by decide +kernel
theorem dX4_answerTo_67 : decode cX4_answerTo 67 = .ok (.ireturn, 1) := by decide +kernel
theorem dX4_answerTo_68 : decode cX4_answerTo 68 = .ok (.aload_n 0, 1) := by decide +kernel
theorem dX4_answerTo_69 : decode cX4_answerTo 69 = .ok (.getfield 39, 3) := by decide +kernel
theorem dX4_answerTo_72 : decode cX4_answerTo 72 = .ok (.bipush 16, 2) := by decide +kernel
theorem dX4_answerTo_74 : decode cX4_answerTo 74 = .ok (.if_icmp .ge 10, 3) := by decide +kernel
theorem dX4_answerTo_77 : decode cX4_answerTo 77 = .ok (.aload_n 0, 1) := by decide +kernel
theorem dX4_answerTo_78 : decode cX4_answerTo 78 = .ok (.getfield 39, 3) := by decide +kernel
theorem dX4_answerTo_81 : decode cX4_answerTo 81 = .ok (.goto 5, 3) := by decide +kernel
theorem dX4_answerTo_84 : decode cX4_answerTo 84 = .ok (.ldc 75, 2) := by decide +kernel
theorem dX4_answerTo_86 : decode cX4_answerTo 86 = .ok (.ireturn, 1) := by decide +kernel
theorem dX4_answerTo_87 : decode cX4_answerTo 87 = .ok (.ldc 76, 2) := by decide +kernel
theorem dX4_answerTo_89 : decode cX4_answerTo 89 = .ok (.ireturn, 1) := by decide +kernel
theorem dX5_init_0 : decode cX5_init 0 = .ok (.aload_n 0, 1) := by decide +kernel
theorem dX5_init_1 : decode cX5_init 1 = .ok (.invokespecial 3, 3) := by decide +kernel
theorem dX5_init_4 : decode cX5_init 4 = .ok (.aload_n 0, 1) := by decide +kernel
theorem dX5_init_5 : decode cX5_init 5 = .ok (.new 9, 3) := by decide +kernel
theorem dX5_init_8 : decode cX5_init 8 = .ok (.dup, 1) := by decide +kernel
theorem dX5_init_9 : decode cX5_init 9 = .ok (.invokespecial 11, 3) := by decide +kernel
theorem dX5_init_12 : decode cX5_init 12 = .ok (.putfield 12, 3) := by decide +kernel
theorem dX5_init_15 : decode cX5_init 15 = .ok (.aload_n 0, 1) := by decide +kernel
theorem dX5_init_16 : decode cX5_init 16 = .ok (.iconst 0, 1) := by decide +kernel
theorem dX5_init_17 : decode cX5_init 17 = .ok (.putfield 18, 3) := by decide +kernel
theorem dX5_init_20 : decode cX5_init 20 = .ok (.aload_n 0, 1) := by decide +kernel
theorem dX5_init_21 : decode cX5_init 21 = .ok (.iconst 0, 1) := by decide +kernel
theorem dX5_init_22 : decode cX5_init 22 = .ok (.putfield 22, 3) := by decide +kernel
theorem dX5_init_25 : decode cX5_init 25 = .ok (.aload_n 0, 1) := by decide +kernel
theorem dX5_init_26 : decode cX5_init 26 = .ok (.iconst 0, 1) := by decide +kernel
theorem dX5_init_27 : decode cX5_init 27 = .ok (.putfield 25, 3) := by decide +kernel
theorem dX5_init_30 : decode cX5_init 30 = .ok (.aload_n 0, 1) := by decide +kernel
theorem dX5_init_31 : decode cX5_init 31 = .ok (.iconst 0, 1) := by decide +kernel
theorem dX5_init_32 : decode cX5_init 32 = .ok (.putfield 28, 3) := by decide +kernel
theorem dX5_init_35 : decode cX5_init 35 = .ok (.return_, 1) := by decide +kernel
theorem dX5_readInto_0 : decode cX5_readInto 0 = .ok (.aload_n 0, 1) := by decide +kernel
theorem dX5_readInto_1 : decode cX5_readInto 1 = .ok (.getfield 12, 3) := by decide +kernel
theorem dX5_readInto_4 : decode cX5_readInto 4 = .ok (.aload_n 2, 1) := by decide +kernel
theorem dX5_readInto_5 : decode cX5_readInto 5 = .ok (.invokevirtual 31, 3) := by decide +kernel
theorem dX5_readInto_8 : decode cX5_readInto 8 = .ok (.aload_n 0, 1) := by decide +kernel
theorem dX5_readInto_9 : decode cX5_readInto 9 = .ok (.iconst 0, 1) := by decide +kernel
theorem dX5_readInto_10 : decode cX5_readInto 10 = .ok (.putfield 18, 3) := by decide +kernel
theorem dX5_readInto_13 : decode cX5_readInto 13 = .ok (.aload_n 1, 1) := by decide +kernel
theorem dX5_readInto_14 : decode cX5_readInto 14 = .ok (.iconst 0, 1) := by decide +kernel
theorem dX5_readInto_15 : decode cX5_readInto 15 = .ok (.putfield 35, 3) := by decide +kernel
theorem dX5_readInto_18 : decode cX5_readInto 18 = .ok (.iconst 0, 1) := by decide +kernel
theorem dX5_readInto_19 : decode cX5_readInto 19 = .ok (.istore_n 3, 1) := by decide +kernel
theorem dX5_readInto_20 : decode cX5_readInto 20 = .ok (.iload_n 3, 1) := by decide +kernel
theorem dX5_readInto_21 : decode cX5_readInto 21 = .ok (.bipush 15, 2) := by decide +kernel
theorem dX5_readInto_23 : decode cX5_readInto 23 = .ok (.if_icmp .gt 35, 3) := by decide +kernel
theorem dX5_readInto_26 : decode cX5_readInto 26 = .ok (.aload_n 0, 1) := by decide +kernel
theorem dX5_readInto_27 : decode cX5_readInto 27 = .ok (.getfield 12, 3) := by decide +kernel
theorem dX5_readInto_30 : decode cX5_readInto 30 = .ok (.aload_n 0, 1) := by decide +kernel
theorem dX5_readInto_31 : decode cX5_readInto 31 = .ok (.getfield 18, 3) := by decide +kernel
theorem dX5_readInto_34 : decode cX5_readInto 34 = .ok (.invokevirtual 40, 3) := by decide +kernel
theorem dX5_readInto_37 : decode cX5_readInto 37 = .ok (.ifCond .ne 5, 3) := by decide +kernel
theorem dX5_readInto_40 : decode cX5_readInto 40 = .ok (.iconst 1, 1) := by decide +kernel
theorem dX5_readInto_41 : decode cX5_readInto 41 = .ok (.ireturn, 1) := by decide +kernel
theorem dX5_readInto_42 : decode cX5_readInto 42 = .ok (.aload_n 0, 1) := by decide +kernel
theorem dX5_readInto_43 : decode cX5_readInto 43 = .ok (.aload_n 1, 1) := by decide +kernel
theorem dX5_readInto_44 : decode cX5_readInto 44 = .ok (.invokevirtual 44, 3) := by decide +kernel
theorem dX5_readInto_47 : decode cX5_readInto 47 = .ok (.ifCond .ne 5, 3) := by decide +kernel
theorem dX5_readInto_50 : decode cX5_readInto 50 = .ok (.iconst 0, 1) := by decide +kernel
theorem dX5_readInto_51 : decode cX5_readInto 51 = .ok (.ireturn, 1) := by decide +kernel
theorem dX5_readInto_52 : decode cX5_readInto 52 = .ok (.iinc 3 1, 3) := by decide +kernel
theorem dX5_readInto_55 : decode cX5_readInto 55 = .ok (.goto (-35), 3) := by decide +kernel
theorem dX5_readInto_58 : decode cX5_readInto 58 = .ok (.iconst 1, 1) := by decide +kernel
theorem dX5_readInto_59 : decode cX5_readInto 59 = .ok (.ireturn, 1) := by decide +kernel
theorem dX5_readRule_0 : decode cX5_readRule 0 = .ok (.aload_n 0, 1) := by decide +kernel
theorem dX5_readRule_1 : decode cX5_readRule 1 = .ok (.getfield 12, 3) := by decide +kernel
theorem dX5_readRule_4 : decode cX5_readRule 4 = .ok (.aload_n 0, 1) := by decide +kernel
theorem dX5_readRule_5 : decode cX5_readRule 5 = .ok (.getfield 18, 3) := by decide +kernel
theorem dX5_readRule_8 : decode cX5_readRule 8 = .ok (.invokevirtual 40, 3) := by decide +kernel
theorem dX5_readRule_11 : decode cX5_readRule 11 = .ok (.sipush 26982, 3) := by decide +kernel
theorem dX5_readRule_14 : decode cX5_readRule 14 = .ok (.if_icmp .ne 16, 3) := by decide +kernel
theorem dX5_readRule_17 : decode cX5_readRule 17 = .ok (.aload_n 1, 1) := by decide +kernel
theorem dX5_readRule_18 : decode cX5_readRule 18 = .ok (.invokevirtual 48, 3) := by decide +kernel
theorem dX5_readRule_21 : decode cX5_readRule 21 = .ok (.ifCond .eq 9, 3) := by decide +kernel
theorem dX5_readRule_24 : decode cX5_readRule 24 = .ok (.aload_n 0, 1) := by decide +kernel
theorem dX5_readRule_25 : decode cX5_readRule 25 = .ok (.iconst 3, 1) := by decide +kernel
theorem dX5_readRule_26 : decode cX5_readRule 26 = .ok (.invokevirtual 52, 3) := by decide +kernel
theorem dX5_readRule_29 : decode cX5_readRule 29 = .ok (.ireturn, 1) := by decide +kernel
theorem dX5_readRule_30 : decode cX5_readRule 30 = .ok (.aload_n 0, 1) := by decide +kernel
theorem dX5_readRule_31 : decode cX5_readRule 31 = .ok (.sipush 26982, 3) := by decide +kernel
theorem dX5_readRule_34 : decode cX5_readRule 34 = .ok (.invokevirtual 56, 3) := by decide +kernel
theorem dX5_readRule_37 : decode cX5_readRule 37 = .ok (.ifCond .ne 5, 3) := by decide +kernel
theorem dX5_readRule_40 : decode cX5_readRule 40 = .ok (.iconst 0, 1) := by decide +kernel
theorem dX5_readRule_41 : decode cX5_readRule 41 = .ok (.ireturn, 1) := by decide +kernel
theorem dX5_readRule_42 : decode cX5_readRule 42 = .ok (.aload_n 1, 1) := by decide +kernel
theorem dX5_readRule_43 : decode cX5_readRule 43 = .ok (.invokevirtual 59, 3) := by decide +kernel
theorem dX5_readRule_46 : decode cX5_readRule 46 = .ok (.aload_n 0, 1) := by decide +kernel
theorem dX5_readRule_47 : decode cX5_readRule 47 = .ok (.aload_n 1, 1) := by decide +kernel
theorem dX5_readRule_48 : decode cX5_readRule 48 = .ok (.invokevirtual 62, 3) := by decide +kernel
theorem dX5_readRule_51 : decode cX5_readRule 51 = .ok (.ifCond .ne 5, 3) := by decide +kernel
theorem dX5_readRule_54 : decode cX5_readRule 54 = .ok (.iconst 0, 1) := by decide +kernel
theorem dX5_readRule_55 : decode cX5_readRule 55 = .ok (.ireturn, 1) := by decide +kernel
theorem dX5_readRule_56 : decode cX5_readRule 56 = .ok (.iconst 1, 1) := by decide +kernel
theorem dX5_readRule_57 : decode cX5_readRule 57 = .ok (.istore_n 2, 1) := by decide +kernel
theorem dX5_readRule_58 : decode cX5_readRule 58 = .ok (.iload_n 2, 1) := by decide +kernel
theorem dX5_readRule_59 : decode cX5_readRule 59 = .ok (.iconst 4, 1) := by decide +kernel
theorem dX5_readRule_60 : decode cX5_readRule 60 = .ok (.if_icmp .gt 55, 3) := by decide +kernel
theorem dX5_readRule_63 : decode cX5_readRule 63 = .ok (.aload_n 0, 1) := by decide +kernel
theorem dX5_readRule_64 : decode cX5_readRule 64 = .ok (.getfield 12, 3) := by decide +kernel
theorem dX5_readRule_67 : decode cX5_readRule 67 = .ok (.aload_n 0, 1) := by decide +kernel
theorem dX5_readRule_68 : decode cX5_readRule 68 = .ok (.getfield 18, 3) := by decide +kernel
theorem dX5_readRule_71 : decode cX5_readRule 71 = .ok (.invokevirtual 40, 3) := by decide +kernel
theorem dX5_readRule_74 : decode cX5_readRule 74 = .ok (.ldc 65, 2) := by decide +kernel
theorem dX5_readRule_76 : decode cX5_readRule 76 = .ok (.if_icmp .ne 39, 3) := by decide +kernel
theorem dX5_readRule_79 : decode cX5_readRule 79 = .ok (.iload_n 2, 1) := by decide +kernel
theorem dX5_readRule_80 : decode cX5_readRule 80 = .ok (.iconst 4, 1) := by decide +kernel
theorem dX5_readRule_81 : decode cX5_readRule 81 = .ok (.if_icmp .ne 9, 3) := by decide +kernel
theorem dX5_readRule_84 : decode cX5_readRule 84 = .ok (.aload_n 0, 1) := by decide +kernel
theorem dX5_readRule_85 : decode cX5_readRule 85 = .ok (.iconst 3, 1) := by decide +kernel
theorem dX5_readRule_86 : decode cX5_readRule 86 = .ok (.invokevirtual 52, 3) := by decide +kernel
theorem dX5_readRule_89 : decode cX5_readRule 89 = .ok (.ireturn, 1) := by decide +kernel
theorem dX5_readRule_90 : decode cX5_readRule 90 = .ok (.aload_n 0, 1) := by decide +kernel
theorem dX5_readRule_91 : decode cX5_readRule 91 = .ok (.ldc 65, 2) := by decide +kernel
theorem dX5_readRule_93 : decode cX5_readRule 93 = .ok (.invokevirtual 56, 3) := by decide +kernel
theorem dX5_readRule_96 : decode cX5_readRule 96 = .ok (.ifCond .eq 11, 3) := by decide +kernel
theorem dX5_readRule_99 : decode cX5_readRule 99 = .ok (.aload_n 0, 1) := by decide +kernel
theorem dX5_readRule_100 : decode cX5_readRule 100 = .ok (.aload_n 1, 1) := by decide +kernel
theorem dX5_readRule_101 : decode cX5_readRule 101 = .ok (.invokevirtual 62, 3) := by decide +kernel
theorem dX5_readRule_104 : decode cX5_readRule 104 = .ok (.ifCond .ne 5, 3) := by decide +kernel
theorem dX5_readRule_107 : decode cX5_readRule 107 = .ok (.iconst 0, 1) := by decide +kernel
theorem dX5_readRule_108 : decode cX5_readRule 108 = .ok (.ireturn, 1) := by decide +kernel
theorem dX5_readRule_109 : decode cX5_readRule 109 = .ok (.iinc 2 1, 3) := by decide +kernel
theorem dX5_readRule_112 : decode cX5_readRule 112 = .ok (.goto (-54), 3) := by decide +kernel
theorem dX5_readRule_115 : decode cX5_readRule 115 = .ok (.aload_n 0, 1) := by decide +kernel
theorem dX5_readRule_116 : decode cX5_readRule 116 = .ok (.ldc 66, 2) := by decide +kernel
theorem dX5_readRule_118 : decode cX5_readRule 118 = .ok (.invokevirtual 56, 3) := by decide +kernel
theorem dX5_readRule_121 : decode cX5_readRule 121 = .ok (.ifCond .eq 22, 3) := by decide +kernel
theorem dX5_readRule_124 : decode cX5_readRule 124 = .ok (.aload_n 0, 1) := by decide +kernel
theorem dX5_readRule_125 : decode cX5_readRule 125 = .ok (.iconst 0, 1) := by decide +kernel
theorem dX5_readRule_126 : decode cX5_readRule 126 = .ok (.sipush 9999, 3) := by decide +kernel
theorem dX5_readRule_129 : decode cX5_readRule 129 = .ok (.invokevirtual 67, 3) := by decide +kernel
theorem dX5_readRule_132 : decode cX5_readRule 132 = .ok (.ifCond .eq 11, 3) := by decide +kernel
theorem dX5_readRule_135 : decode cX5_readRule 135 = .ok (.aload_n 0, 1) := by decide +kernel
theorem dX5_readRule_136 : decode cX5_readRule 136 = .ok (.iconst 2, 1) := by decide +kernel
theorem dX5_readRule_137 : decode cX5_readRule 137 = .ok (.invokevirtual 56, 3) := by decide +kernel
theorem dX5_readRule_140 : decode cX5_readRule 140 = .ok (.ifCond .ne 5, 3) := by decide +kernel
theorem dX5_readRule_143 : decode cX5_readRule 143 = .ok (.iconst 0, 1) := by decide +kernel
theorem dX5_readRule_144 : decode cX5_readRule 144 = .ok (.ireturn, 1) := by decide +kernel
theorem dX5_readRule_145 : decode cX5_readRule 145 = .ok (.aload_n 1, 1) := by decide +kernel
theorem dX5_readRule_146 : decode cX5_readRule 146 = .ok (.aload_n 0, 1) := by decide +kernel
theorem dX5_readRule_147 : decode cX5_readRule 147 = .ok (.getfield 22, 3) := by decide +kernel
theorem dX5_readRule_150 : decode cX5_readRule 150 = .ok (.invokevirtual 71, 3) := by decide +kernel
theorem dX5_readRule_153 : decode cX5_readRule 153 = .ok (.iconst 1, 1) := by decide +kernel
theorem dX5_readRule_154 : decode cX5_readRule 154 = .ok (.ireturn, 1) := by decide +kernel
theorem dX5_readTest_0 : decode cX5_readTest 0 = .ok (.aload_n 0, 1) := by decide +kernel
theorem dX5_readTest_1 : decode cX5_readTest 1 = .ok (.getfield 12, 3) := by decide +kernel
theorem dX5_readTest_4 : decode cX5_readTest 4 = .ok (.aload_n 0, 1) := by decide +kernel
theorem dX5_readTest_5 : decode cX5_readTest 5 = .ok (.getfield 18, 3) := by decide +kernel
theorem dX5_readTest_8 : decode cX5_readTest 8 = .ok (.invokevirtual 40, 3) := by decide +kernel
theorem dX5_readTest_11 : decode cX5_readTest 11 = .ok (.istore_n 2, 1) := by decide +kernel
theorem dX5_readTest_12 : decode cX5_readTest 12 = .ok (.iload_n 2, 1) := by decide +kernel
theorem dX5_readTest_13 : decode cX5_readTest 13 = .ok (.ldc 75, 2) := by decide +kernel
theorem dX5_readTest_15 : decode cX5_readTest 15 = .ok (.if_icmp .eq 27, 3) := by decide +kernel
theorem dX5_readTest_18 : decode cX5_readTest 18 = .ok (.iload_n 2, 1) := by decide +kernel
theorem dX5_readTest_19 : decode cX5_readTest 19 = .ok (.ldc 76, 2) := by decide +kernel
theorem dX5_readTest_21 : decode cX5_readTest 21 = .ok (.if_icmp .eq 21, 3) := by decide +kernel
theorem dX5_readTest_24 : decode cX5_readTest 24 = .ok (.iload_n 2, 1) := by decide +kernel
theorem dX5_readTest_25 : decode cX5_readTest 25 = .ok (.ldc 77, 2) := by decide +kernel
theorem dX5_readTest_27 : decode cX5_readTest 27 = .ok (.if_icmp .eq 15, 3) := by decide +kernel
theorem dX5_readTest_30 : decode cX5_readTest 30 = .ok (.iload_n 2, 1) := by decide +kernel
theorem dX5_readTest_31 : decode cX5_readTest 31 = .ok (.ldc 78, 2) := by decide +kernel
theorem dX5_readTest_33 : decode cX5_readTest 33 = .ok (.if_icmp .eq 9, 3) := by decide +kernel
theorem dX5_readTest_36 : decode cX5_readTest 36 = .ok (.aload_n 0, 1) := by decide +kernel
theorem dX5_readTest_37 : decode cX5_readTest 37 = .ok (.iconst 1, 1) := by decide +kernel
theorem dX5_readTest_38 : decode cX5_readTest 38 = .ok (.invokevirtual 52, 3) := by decide +kernel
theorem dX5_readTest_41 : decode cX5_readTest 41 = .ok (.ireturn, 1) := by decide +kernel
theorem dX5_readTest_42 : decode cX5_readTest 42 = .ok (.iload_n 2, 1) := by decide +kernel
theorem dX5_readTest_43 : decode cX5_readTest 43 = .ok (.ldc 77, 2) := by decide +kernel
theorem dX5_readTest_45 : decode cX5_readTest 45 = .ok (.if_icmp .ne 7, 3) := by decide +kernel
theorem dX5_readTest_48 : decode cX5_readTest 48 = .ok (.iconst 1, 1) := by decide +kernel
theorem dX5_readTest_49 : decode cX5_readTest 49 = .ok (.goto 4, 3) := by decide +kernel
theorem dX5_readTest_52 : decode cX5_readTest 52 = .ok (.iconst 0, 1) := by decide +kernel
theorem dX5_readTest_53 : decode cX5_readTest 53 = .ok (.istore_n 3, 1) := by decide +kernel
theorem dX5_readTest_54 : decode cX5_readTest 54 = .ok (.aload_n 0, 1) := by decide +kernel
theorem dX5_readTest_55 : decode cX5_readTest 55 = .ok (.iload_n 2, 1) := by decide +kernel
theorem dX5_readTest_56 : decode cX5_readTest 56 = .ok (.invokevirtual 56, 3) := by decide +kernel
theorem dX5_readTest_59 : decode cX5_readTest 59 = .ok (.ifCond .eq 30, 3) := by decide +kernel
theorem dX5_readTest_62 : decode cX5_readTest 62 = .ok (.aload_n 0, 1) := by decide +kernel
theorem dX5_readTest_63 : decode cX5_readTest 63 = .ok (.iload_n 3, 1) := by decide +kernel
theorem dX5_readTest_64 : decode cX5_readTest 64 = .ok (.ifCond .eq 7, 3) := by decide +kernel
theorem dX5_readTest_67 : decode cX5_readTest 67 = .ok (.iconst 1, 1) := by decide +kernel
theorem dX5_readTest_68 : decode cX5_readTest 68 = .ok (.goto 4, 3) := by decide +kernel
theorem dX5_readTest_71 : decode cX5_readTest 71 = .ok (.iconst 0, 1) := by decide +kernel
theorem dX5_readTest_72 : decode cX5_readTest 72 = .ok (.iload_n 3, 1) := by decide +kernel
theorem dX5_readTest_73 : decode cX5_readTest 73 = .ok (.ifCond .eq 8, 3) := by decide +kernel
theorem dX5_readTest_76 : decode cX5_readTest 76 = .ok (.bipush 11, 2) := by decide +kernel
theorem dX5_readTest_78 : decode cX5_readTest 78 = .ok (.goto 5, 3) := by decide +kernel
theorem dX5_readTest_81 : decode cX5_readTest 81 = .ok (.bipush 15, 2) := by decide +kernel
theorem dX5_readTest_83 : decode cX5_readTest 83 = .ok (.invokevirtual 67, 3) := by decide +kernel
theorem dX5_readTest_86 : decode cX5_readTest 86 = .ok (.ifCond .ne 5, 3) := by decide +kernel
theorem dX5_readTest_89 : decode cX5_readTest 89 = .ok (.iconst 0, 1) := by decide +kernel
theorem dX5_readTest_90 : decode cX5_readTest 90 = .ok (.ireturn, 1) := by decide +kernel
theorem dX5_readTest_91 : decode cX5_readTest 91 = .ok (.aload_n 0, 1) := by decide +kernel
theorem dX5_readTest_92 : decode cX5_readTest 92 = .ok (.getfield 22, 3) := by decide +kernel
theorem dX5_readTest_95 : decode cX5_readTest 95 = .ok (.istore 4, 2) := by decide +kernel
theorem dX5_readTest_97 : decode cX5_readTest 97 = .ok (.iload_n 2, 1) := by decide +kernel
theorem dX5_readTest_98 : decode cX5_readTest 98 = .ok (.ldc 75, 2) := by decide +kernel
theorem dX5_readTest_100 : decode cX5_readTest 100 = .ok (.if_icmp .ne 15, 3) := by decide +kernel
theorem dX5_readTest_103 : decode cX5_readTest 103 = .ok (.aload_n 0, 1) := by decide +kernel
theorem dX5_readTest_104 : decode cX5_readTest 104 = .ok (.sipush 24948, 3) := by decide +kernel
theorem dX5_readTest_107 : decode cX5_readTest 107 = .ok (.invokevirtual 56, 3) := by decide +kernel
theorem dX5_readTest_110 : decode cX5_readTest 110 = .ok (.ifCond .ne 5, 3) := by decide +kernel
theorem dX5_readTest_113 : decode cX5_readTest 113 = .ok (.iconst 0, 1) := by decide +kernel
theorem dX5_readTest_114 : decode cX5_readTest 114 = .ok (.ireturn, 1) := by decide +kernel
theorem dX5_readTest_115 : decode cX5_readTest 115 = .ok (.iload_n 2, 1) := by decide +kernel
theorem dX5_readTest_116 : decode cX5_readTest 116 = .ok (.ldc 75, 2) := by decide +kernel
theorem dX5_readTest_118 : decode cX5_readTest 118 = .ok (.if_icmp .eq 9, 3) := by decide +kernel
theorem dX5_readTest_121 : decode cX5_readTest 121 = .ok (.iload_n 2, 1) := by decide +kernel
theorem dX5_readTest_122 : decode cX5_readTest 122 = .ok (.ldc 76, 2) := by decide +kernel
theorem dX5_readTest_124 : decode cX5_readTest 124 = .ok (.if_icmp .ne 7, 3) := by decide +kernel
theorem dX5_readTest_127 : decode cX5_readTest 127 = .ok (.iconst 1, 1) := by decide +kernel
theorem dX5_readTest_128 : decode cX5_readTest 128 = .ok (.goto 4, 3) := by decide +kernel
theorem dX5_readTest_131 : decode cX5_readTest 131 = .ok (.iconst 0, 1) := by decide +kernel
theorem dX5_readTest_132 : decode cX5_readTest 132 = .ok (.istore 5, 2) := by decide +kernel
theorem dX5_readTest_134 : decode cX5_readTest 134 = .ok (.iload 5, 2) := by decide +kernel
theorem dX5_readTest_136 : decode cX5_readTest 136 = .ok (.ifCond .eq 15, 3) := by decide +kernel
theorem dX5_readTest_139 : decode cX5_readTest 139 = .ok (.aload_n 0, 1) := by decide +kernel
theorem dX5_readTest_140 : decode cX5_readTest 140 = .ok (.iconst 0, 1) := by decide +kernel
theorem dX5_readTest_141 : decode cX5_readTest 141 = .ok (.bipush 15, 2) := by decide +kernel
theorem dX5_readTest_143 : decode cX5_readTest 143 = .ok (.invokevirtual 67, 3) := by decide +kernel
theorem dX5_readTest_146 : decode cX5_readTest 146 = .ok (.ifCond .ne 5, 3) := by decide +kernel
theorem dX5_readTest_149 : decode cX5_readTest 149 = .ok (.iconst 0, 1) := by decide +kernel
theorem dX5_readTest_150 : decode cX5_readTest 150 = .ok (.ireturn, 1) := by decide +kernel
theorem dX5_readTest_151 : decode cX5_readTest 151 = .ok (.aload_n 1, 1) := by decide +kernel
theorem dX5_readTest_152 : decode cX5_readTest 152 = .ok (.iload_n 2, 1) := by decide +kernel
theorem dX5_readTest_153 : decode cX5_readTest 153 = .ok (.iload 4, 2) := by decide +kernel
theorem dX5_readTest_155 : decode cX5_readTest 155 = .ok (.aload_n 0, 1) := by decide +kernel
theorem dX5_readTest_156 : decode cX5_readTest 156 = .ok (.getfield 22, 3) := by decide +kernel
theorem dX5_readTest_159 : decode cX5_readTest 159 = .ok (.invokevirtual 79, 3) := by decide +kernel
theorem dX5_readTest_162 : decode cX5_readTest 162 = .ok (.iconst 1, 1) := by decide +kernel
theorem dX5_readTest_163 : decode cX5_readTest 163 = .ok (.ireturn, 1) := by decide +kernel
theorem dX5_take_0 : decode cX5_take 0 = .ok (.aload_n 0, 1) := by decide +kernel
theorem dX5_take_1 : decode cX5_take 1 = .ok (.getfield 12, 3) := by decide +kernel
theorem dX5_take_4 : decode cX5_take 4 = .ok (.aload_n 0, 1) := by decide +kernel
theorem dX5_take_5 : decode cX5_take 5 = .ok (.getfield 18, 3) := by decide +kernel
theorem dX5_take_8 : decode cX5_take 8 = .ok (.invokevirtual 40, 3) := by decide +kernel
theorem dX5_take_11 : decode cX5_take 11 = .ok (.iload_n 1, 1) := by decide +kernel
theorem dX5_take_12 : decode cX5_take 12 = .ok (.if_icmp .eq 9, 3) := by decide +kernel
theorem dX5_take_15 : decode cX5_take 15 = .ok (.aload_n 0, 1) := by decide +kernel
theorem dX5_take_16 : decode cX5_take 16 = .ok (.iconst 1, 1) := by decide +kernel
theorem dX5_take_17 : decode cX5_take 17 = .ok (.invokevirtual 52, 3) := by decide +kernel
theorem dX5_take_20 : decode cX5_take 20 = .ok (.ireturn, 1) := by decide +kernel
theorem dX5_take_21 : decode cX5_take 21 = .ok (.aload_n 0, 1) := by decide +kernel
theorem dX5_take_22 : decode cX5_take 22 = .ok (.dup, 1) := by decide +kernel
theorem dX5_take_23 : decode cX5_take 23 = .ok (.getfield 18, 3) := by decide +kernel
theorem dX5_take_26 : decode cX5_take 26 = .ok (.iconst 1, 1) := by decide +kernel
theorem dX5_take_27 : decode cX5_take 27 = .ok (.iadd, 1) := by decide +kernel
theorem dX5_take_28 : decode cX5_take 28 = .ok (.putfield 18, 3) := by decide +kernel
theorem dX5_take_31 : decode cX5_take 31 = .ok (.iconst 1, 1) := by decide +kernel
theorem dX5_take_32 : decode cX5_take 32 = .ok (.ireturn, 1) := by decide +kernel
theorem dX5_takeNumber_0 : decode cX5_takeNumber 0 = .ok (.aload_n 0, 1) := by decide +kernel
theorem dX5_takeNumber_1 : decode cX5_takeNumber 1 = .ok (.getfield 12, 3) := by decide +kernel
theorem dX5_takeNumber_4 : decode cX5_takeNumber 4 = .ok (.aload_n 0, 1) := by decide +kernel
theorem dX5_takeNumber_5 : decode cX5_takeNumber 5 = .ok (.getfield 18, 3) := by decide +kernel
theorem dX5_takeNumber_8 : decode cX5_takeNumber 8 = .ok (.invokevirtual 40, 3) := by decide +kernel
theorem dX5_takeNumber_11 : decode cX5_takeNumber 11 = .ok (.iconst 1, 1) := by decide +kernel
theorem dX5_takeNumber_12 : decode cX5_takeNumber 12 = .ok (.if_icmp .eq 9, 3) := by decide +kernel
theorem dX5_takeNumber_15 : decode cX5_takeNumber 15 = .ok (.aload_n 0, 1) := by decide +kernel
theorem dX5_takeNumber_16 : decode cX5_takeNumber 16 = .ok (.iconst 1, 1) := by decide +kernel
theorem dX5_takeNumber_17 : decode cX5_takeNumber 17 = .ok (.invokevirtual 52, 3) := by decide +kernel
theorem dX5_takeNumber_20 : decode cX5_takeNumber 20 = .ok (.ireturn, 1) := by decide +kernel
theorem dX5_takeNumber_21 : decode cX5_takeNumber 21 = .ok (.aload_n 0, 1) := by decide +kernel
theorem dX5_takeNumber_22 : decode cX5_takeNumber 22 = .ok (.aload_n 0, 1) := by decide +kernel
theorem dX5_takeNumber_23 : decode cX5_takeNumber 23 = .ok (.getfield 12, 3) := by decide +kernel
theorem dX5_takeNumber_26 : decode cX5_takeNumber 26 = .ok (.aload_n 0, 1) := by decide +kernel
theorem dX5_takeNumber_27 : decode cX5_takeNumber 27 = .ok (.getfield 18, 3) := by decide +kernel
theorem dX5_takeNumber_30 : decode cX5_takeNumber 30 = .ok (.invokevirtual 83, 3) := by decide +kernel
theorem dX5_takeNumber_33 : decode cX5_takeNumber 33 = .ok (.putfield 22, 3) := by decide +kernel
theorem dX5_takeNumber_36 : decode cX5_takeNumber 36 = .ok (.aload_n 0, 1) := by decide +kernel
theorem dX5_takeNumber_37 : decode cX5_takeNumber 37 = .ok (.getfield 22, 3) := by decide +kernel
theorem dX5_takeNumber_40 : decode cX5_takeNumber 40 = .ok (.iload_n 1, 1) := by decide +kernel
theorem dX5_takeNumber_41 : decode cX5_takeNumber 41 = .ok (.if_icmp .lt 11, 3) := by decide +kernel
theorem dX5_takeNumber_44 : decode cX5_takeNumber 44 = .ok (.aload_n 0, 1) := by decide +kernel
theorem dX5_takeNumber_45 : decode cX5_takeNumber 45 = .ok (.getfield 22, 3) := by decide +kernel
theorem dX5_takeNumber_48 : decode cX5_takeNumber 48 = .ok (.iload_n 2, 1) := by decide +kernel
theorem dX5_takeNumber_49 : decode cX5_takeNumber 49 = .ok (.if_icmp .le 9, 3) := by decide +kernel
theorem dX5_takeNumber_52 : decode cX5_takeNumber 52 = .ok (.aload_n 0, 1) := by decide +kernel
theorem dX5_takeNumber_53 : decode cX5_takeNumber 53 = .ok (.iconst 2, 1) := by decide +kernel
theorem dX5_takeNumber_54 : decode cX5_takeNumber 54 = .ok (.invokevirtual 52, 3) := by decide +kernel
theorem dX5_takeNumber_57 : decode cX5_takeNumber 57 = .ok (.ireturn, 1) := by decide +kernel
theorem dX5_takeNumber_58 : decode cX5_takeNumber 58 = .ok (.aload_n 0, 1) := by decide +kernel
theorem dX5_takeNumber_59 : decode cX5_takeNumber 59 = .ok (.dup, 1) := by decide +kernel
theorem dX5_takeNumber_60 : decode cX5_takeNumber 60 = .ok (.getfield 18, 3) := by decide +kernel
theorem dX5_takeNumber_63 : decode cX5_takeNumber 63 = .ok (.iconst 1, 1) := by decide +kernel
theorem dX5_takeNumber_64 : decode cX5_takeNumber 64 = .ok (.iadd, 1) := by decide +kernel
theorem dX5_takeNumber_65 : decode cX5_takeNumber 65 = .ok (.putfield 18, 3) := by decide +kernel
theorem dX5_takeNumber_68 : decode cX5_takeNumber 68 = .ok (.iconst 1, 1) := by decide +kernel
theorem dX5_takeNumber_69 : decode cX5_takeNumber 69 = .ok (.ireturn, 1) := by decide +kernel
theorem dX5_faultHere_0 : decode cX5_faultHere 0 = .ok (.aload_n 0, 1) := by decide +kernel
theorem dX5_faultHere_1 : decode cX5_faultHere 1 = .ok (.iload_n 1, 1) := by decide +kernel
theorem dX5_faultHere_2 : decode cX5_faultHere 2 = .ok (.putfield 25, 3) := by decide +kernel
theorem dX5_faultHere_5 : decode cX5_faultHere 5 = .ok (.aload_n 0, 1) := by decide +kernel
theorem dX5_faultHere_6 : decode cX5_faultHere 6 = .ok (.aload_n 0, 1) := by decide +kernel
theorem dX5_faultHere_7 : decode cX5_faultHere 7 = .ok (.getfield 12, 3) := by decide +kernel
theorem dX5_faultHere_10 : decode cX5_faultHere 10 = .ok (.aload_n 0, 1) := by decide +kernel
theorem dX5_faultHere_11 : decode cX5_faultHere 11 = .ok (.getfield 18, 3) := by decide +kernel
theorem dX5_faultHere_14 : decode cX5_faultHere 14 = .ok (.invokevirtual 86, 3) := by decide +kernel
theorem dX5_faultHere_17 : decode cX5_faultHere 17 = .ok (.putfield 28, 3) := by decide +kernel
theorem dX5_faultHere_20 : decode cX5_faultHere 20 = .ok (.iconst 0, 1) := by decide +kernel
theorem dX5_faultHere_21 : decode cX5_faultHere 21 = .ok (.ireturn, 1) := by decide +kernel
theorem dX6_init_0 : decode cX6_init 0 = .ok (.aload_n 0, 1) := by decide +kernel
theorem dX6_init_1 : decode cX6_init 1 = .ok (.invokespecial 3, 3) := by decide +kernel
theorem dX6_init_4 : decode cX6_init 4 = .ok (.aload_n 0, 1) := by decide +kernel
theorem dX6_init_5 : decode cX6_init 5 = .ok (.bipush 60, 2) := by decide +kernel
theorem dX6_init_7 : decode cX6_init 7 = .ok (.newarray .int, 2) := by decide +kernel
theorem dX6_init_9 : decode cX6_init 9 = .ok (.putfield 11, 3) := by decide +kernel
theorem dX6_init_12 : decode cX6_init 12 = .ok (.aload_n 0, 1) := by decide +kernel
theorem dX6_init_13 : decode cX6_init 13 = .ok (.bipush 60, 2) := by decide +kernel
theorem dX6_init_15 : decode cX6_init 15 = .ok (.newarray .int, 2) := by decide +kernel
theorem dX6_init_17 : decode cX6_init 17 = .ok (.putfield 15, 3) := by decide +kernel
theorem dX6_init_20 : decode cX6_init 20 = .ok (.aload_n 0, 1) := by decide +kernel
theorem dX6_init_21 : decode cX6_init 21 = .ok (.bipush 60, 2) := by decide +kernel
theorem dX6_init_23 : decode cX6_init 23 = .ok (.newarray .int, 2) := by decide +kernel
theorem dX6_init_25 : decode cX6_init 25 = .ok (.putfield 18, 3) := by decide +kernel
theorem dX6_init_28 : decode cX6_init 28 = .ok (.aload_n 0, 1) := by decide +kernel
theorem dX6_init_29 : decode cX6_init 29 = .ok (.bipush 15, 2) := by decide +kernel
theorem dX6_init_31 : decode cX6_init 31 = .ok (.newarray .int, 2) := by decide +kernel
theorem dX6_init_33 : decode cX6_init 33 = .ok (.putfield 21, 3) := by decide +kernel
theorem dX6_init_36 : decode cX6_init 36 = .ok (.aload_n 0, 1) := by decide +kernel
theorem dX6_init_37 : decode cX6_init 37 = .ok (.bipush 15, 2) := by decide +kernel
theorem dX6_init_39 : decode cX6_init 39 = .ok (.newarray .int, 2) := by decide +kernel
theorem dX6_init_41 : decode cX6_init 41 = .ok (.putfield 24, 3) := by decide +kernel
theorem dX6_init_44 : decode cX6_init 44 = .ok (.aload_n 0, 1) := by decide +kernel
theorem dX6_init_45 : decode cX6_init 45 = .ok (.iconst 0, 1) := by decide +kernel
theorem dX6_init_46 : decode cX6_init 46 = .ok (.putfield 27, 3) := by decide +kernel
theorem dX6_init_49 : decode cX6_init 49 = .ok (.return_, 1) := by decide +kernel
theorem dX6_isFull_0 : decode cX6_isFull 0 = .ok (.aload_n 0, 1) := by decide +kernel
theorem dX6_isFull_1 : decode cX6_isFull 1 = .ok (.getfield 27, 3) := by decide +kernel
theorem dX6_isFull_4 : decode cX6_isFull 4 = .ok (.bipush 15, 2) := by decide +kernel
theorem dX6_isFull_6 : decode cX6_isFull 6 = .ok (.if_icmp .lt 7, 3) := by decide +kernel
theorem dX6_isFull_9 : decode cX6_isFull 9 = .ok (.iconst 1, 1) := by decide +kernel
theorem dX6_isFull_10 : decode cX6_isFull 10 = .ok (.goto 4, 3) := by decide +kernel
theorem dX6_isFull_13 : decode cX6_isFull 13 = .ok (.iconst 0, 1) := by decide +kernel
theorem dX6_isFull_14 : decode cX6_isFull 14 = .ok (.ireturn, 1) := by decide +kernel
theorem dX6_beginRule_0 : decode cX6_beginRule 0 = .ok (.aload_n 0, 1) := by decide +kernel
theorem dX6_beginRule_1 : decode cX6_beginRule 1 = .ok (.invokevirtual 31, 3) := by decide +kernel
theorem dX6_beginRule_4 : decode cX6_beginRule 4 = .ok (.ifCond .ne 13, 3) := by decide +kernel
theorem dX6_beginRule_7 : decode cX6_beginRule 7 = .ok (.aload_n 0, 1) := by decide +kernel
theorem dX6_beginRule_8 : decode cX6_beginRule 8 = .ok (.getfield 21, 3) := by decide +kernel
theorem dX6_beginRule_11 : decode cX6_beginRule 11 = .ok (.aload_n 0, 1) := by decide +kernel
theorem dX6_beginRule_12 : decode cX6_beginRule 12 = .ok (.getfield 27, 3) := by decide +kernel
theorem dX6_beginRule_15 : decode cX6_beginRule 15 = .ok (.iconst 0, 1) := by decide +kernel
theorem dX6_beginRule_16 : decode cX6_beginRule 16 = .ok (.iastore, 1) := by decide +kernel
theorem dX6_beginRule_17 : decode cX6_beginRule 17 = .ok (.return_, 1) := by decide +kernel
theorem dX6_addTest_0 : decode cX6_addTest 0 = .ok (.aload_n 0, 1) := by decide +kernel
theorem dX6_addTest_1 : decode cX6_addTest 1 = .ok (.invokevirtual 31, 3) := by decide +kernel
theorem dX6_addTest_4 : decode cX6_addTest 4 = .ok (.ifCond .ne 71, 3) := by decide +kernel
theorem dX6_addTest_7 : decode cX6_addTest 7 = .ok (.aload_n 0, 1) := by decide +kernel
theorem dX6_addTest_8 : decode cX6_addTest 8 = .ok (.getfield 21, 3) := by decide +kernel
theorem dX6_addTest_11 : decode cX6_addTest 11 = .ok (.aload_n 0, 1) := by decide +kernel
theorem dX6_addTest_12 : decode cX6_addTest 12 = .ok (.getfield 27, 3) := by decide +kernel
theorem dX6_addTest_15 : decode cX6_addTest 15 = .ok (.iaload, 1) := by decide +kernel
theorem dX6_addTest_16 : decode cX6_addTest 16 = .ok (.iconst 4, 1) := by decide +kernel
theorem dX6_addTest_17 : decode cX6_addTest 17 = .ok (.if_icmp .ge 58, 3) := by decide +kernel
theorem dX6_addTest_20 : decode cX6_addTest 20 = .ok (.aload_n 0, 1) := by decide +kernel
theorem dX6_addTest_21 : decode cX6_addTest 21 = .ok (.getfield 27, 3) := by decide +kernel
theorem dX6_addTest_24 : decode cX6_addTest 24 = .ok (.iconst 4, 1) := by decide +kernel
theorem dX6_addTest_25 : decode cX6_addTest 25 = .ok (.imul, 1) := by decide +kernel
theorem dX6_addTest_26 : decode cX6_addTest 26 = .ok (.aload_n 0, 1) := by decide +kernel
theorem dX6_addTest_27 : decode cX6_addTest 27 = .ok (.getfield 21, 3) := by decide +kernel
theorem dX6_addTest_30 : decode cX6_addTest 30 = .ok (.aload_n 0, 1) := by decide +kernel
theorem dX6_addTest_31 : decode cX6_addTest 31 = .ok (.getfield 27, 3) := by decide +kernel
theorem dX6_addTest_34 : decode cX6_addTest 34 = .ok (.iaload, 1) := by decide +kernel
theorem dX6_addTest_35 : decode cX6_addTest 35 = .ok (.iadd, 1) := by decide +kernel
theorem dX6_addTest_36 : decode cX6_addTest 36 = .ok (.istore 4, 2) := by decide +kernel
theorem dX6_addTest_38 : decode cX6_addTest 38 = .ok (.aload_n 0, 1) := by decide +kernel
theorem dX6_addTest_39 : decode cX6_addTest 39 = .ok (.getfield 11, 3) := by decide +kernel
theorem dX6_addTest_42 : decode cX6_addTest 42 = .ok (.iload 4, 2) := by decide +kernel
theorem dX6_addTest_44 : decode cX6_addTest 44 = .ok (.iload_n 1, 1) := by decide +kernel
theorem dX6_addTest_45 : decode cX6_addTest 45 = .ok (.iastore, 1) := by decide +kernel
theorem dX6_addTest_46 : decode cX6_addTest 46 = .ok (.aload_n 0, 1) := by decide +kernel
theorem dX6_addTest_47 : decode cX6_addTest 47 = .ok (.getfield 15, 3) := by decide +kernel
theorem dX6_addTest_50 : decode cX6_addTest 50 = .ok (.iload 4, 2) := by decide +kernel
theorem dX6_addTest_52 : decode cX6_addTest 52 = .ok (.iload_n 2, 1) := by decide +kernel
theorem dX6_addTest_53 : decode cX6_addTest 53 = .ok (.iastore, 1) := by decide +kernel
theorem dX6_addTest_54 : decode cX6_addTest 54 = .ok (.aload_n 0, 1) := by decide +kernel
theorem dX6_addTest_55 : decode cX6_addTest 55 = .ok (.getfield 18, 3) := by decide +kernel
theorem dX6_addTest_58 : decode cX6_addTest 58 = .ok (.iload 4, 2) := by decide +kernel
theorem dX6_addTest_60 : decode cX6_addTest 60 = .ok (.iload_n 3, 1) := by decide +kernel
theorem dX6_addTest_61 : decode cX6_addTest 61 = .ok (.iastore, 1) := by decide +kernel
theorem dX6_addTest_62 : decode cX6_addTest 62 = .ok (.aload_n 0, 1) := by decide +kernel
theorem dX6_addTest_63 : decode cX6_addTest 63 = .ok (.getfield 21, 3) := by decide +kernel
theorem dX6_addTest_66 : decode cX6_addTest 66 = .ok (.aload_n 0, 1) := by decide +kernel
theorem dX6_addTest_67 : decode cX6_addTest 67 = .ok (.getfield 27, 3) := by decide +kernel
theorem dX6_addTest_70 : decode cX6_addTest 70 = .ok (.dup2, 1) := by decide +kernel
theorem dX6_addTest_71 : decode cX6_addTest 71 = .ok (.iaload, 1) := by decide +kernel
theorem dX6_addTest_72 : decode cX6_addTest 72 = .ok (.iconst 1, 1) := by decide +kernel
theorem dX6_addTest_73 : decode cX6_addTest 73 = .ok (.iadd, 1) := by decide +kernel
theorem dX6_addTest_74 : decode cX6_addTest 74 = .ok (.iastore, 1) := by decide +kernel
theorem dX6_addTest_75 : decode cX6_addTest 75 = .ok (.return_, 1) := by decide +kernel
theorem dX6_endRule_0 : decode cX6_endRule 0 = .ok (.aload_n 0, 1) := by decide +kernel
theorem dX6_endRule_1 : decode cX6_endRule 1 = .ok (.invokevirtual 31, 3) := by decide +kernel
theorem dX6_endRule_4 : decode cX6_endRule 4 = .ok (.ifCond .ne 23, 3) := by decide +kernel
theorem dX6_endRule_7 : decode cX6_endRule 7 = .ok (.aload_n 0, 1) := by decide +kernel
theorem dX6_endRule_8 : decode cX6_endRule 8 = .ok (.getfield 24, 3) := by decide +kernel
theorem dX6_endRule_11 : decode cX6_endRule 11 = .ok (.aload_n 0, 1) := by decide +kernel
theorem dX6_endRule_12 : decode cX6_endRule 12 = .ok (.getfield 27, 3) := by decide +kernel
theorem dX6_endRule_15 : decode cX6_endRule 15 = .ok (.iload_n 1, 1) := by decide +kernel
theorem dX6_endRule_16 : decode cX6_endRule 16 = .ok (.iastore, 1) := by decide +kernel
theorem dX6_endRule_17 : decode cX6_endRule 17 = .ok (.aload_n 0, 1) := by decide +kernel
theorem dX6_endRule_18 : decode cX6_endRule 18 = .ok (.dup, 1) := by decide +kernel
theorem dX6_endRule_19 : decode cX6_endRule 19 = .ok (.getfield 27, 3) := by decide +kernel
theorem dX6_endRule_22 : decode cX6_endRule 22 = .ok (.iconst 1, 1) := by decide +kernel
theorem dX6_endRule_23 : decode cX6_endRule 23 = .ok (.iadd, 1) := by decide +kernel
theorem dX6_endRule_24 : decode cX6_endRule 24 = .ok (.putfield 27, 3) := by decide +kernel
theorem dX6_endRule_27 : decode cX6_endRule 27 = .ok (.return_, 1) := by decide +kernel
theorem dX6_hasRule_0 : decode cX6_hasRule 0 = .ok (.iload_n 1, 1) := by decide +kernel
theorem dX6_hasRule_1 : decode cX6_hasRule 1 = .ok (.ifCond .lt 15, 3) := by decide +kernel
theorem dX6_hasRule_4 : decode cX6_hasRule 4 = .ok (.iload_n 1, 1) := by decide +kernel
theorem dX6_hasRule_5 : decode cX6_hasRule 5 = .ok (.aload_n 0, 1) := by decide +kernel
theorem dX6_hasRule_6 : decode cX6_hasRule 6 = .ok (.getfield 27, 3) := by decide +kernel
theorem dX6_hasRule_9 : decode cX6_hasRule 9 = .ok (.if_icmp .ge 7, 3) := by decide +kernel
theorem dX6_hasRule_12 : decode cX6_hasRule 12 = .ok (.iconst 1, 1) := by decide +kernel
theorem dX6_hasRule_13 : decode cX6_hasRule 13 = .ok (.goto 4, 3) := by decide +kernel
theorem dX6_hasRule_16 : decode cX6_hasRule 16 = .ok (.iconst 0, 1) := by decide +kernel
theorem dX6_hasRule_17 : decode cX6_hasRule 17 = .ok (.ireturn, 1) := by decide +kernel
theorem dX6_numberSaid_0 : decode cX6_numberSaid 0 = .ok (.aload_n 0, 1) := by decide +kernel
theorem dX6_numberSaid_1 : decode cX6_numberSaid 1 = .ok (.iload_n 1, 1) := by decide +kernel
theorem dX6_numberSaid_2 : decode cX6_numberSaid 2 = .ok (.invokevirtual 35, 3) := by decide +kernel
theorem dX6_numberSaid_5 : decode cX6_numberSaid 5 = .ok (.ifCond .eq 12, 3) := by decide +kernel
theorem dX6_numberSaid_8 : decode cX6_numberSaid 8 = .ok (.aload_n 0, 1) := by decide +kernel
theorem dX6_numberSaid_9 : decode cX6_numberSaid 9 = .ok (.getfield 24, 3) := by decide +kernel
theorem dX6_numberSaid_12 : decode cX6_numberSaid 12 = .ok (.iload_n 1, 1) := by decide +kernel
theorem dX6_numberSaid_13 : decode cX6_numberSaid 13 = .ok (.iaload, 1) := by decide +kernel
theorem dX6_numberSaid_14 : decode cX6_numberSaid 14 = .ok (.goto 5, 3) := by decide +kernel
theorem dX6_numberSaid_17 : decode cX6_numberSaid 17 = .ok (.ldc 39, 2) := by decide +kernel
theorem dX6_numberSaid_19 : decode cX6_numberSaid 19 = .ok (.ireturn, 1) := by decide +kernel
theorem dX6_firstThatHolds_0 : decode cX6_firstThatHolds 0 = .ok (.iconst 0, 1) := by decide +kernel
theorem dX6_firstThatHolds_1 : decode cX6_firstThatHolds 1 = .ok (.istore_n 3, 1) := by decide +kernel
theorem dX6_firstThatHolds_2 : decode cX6_firstThatHolds 2 = .ok (.iload_n 3, 1) := by decide +kernel
theorem dX6_firstThatHolds_3 : decode cX6_firstThatHolds 3 = .ok (.aload_n 0, 1) := by decide +kernel
theorem dX6_firstThatHolds_4 : decode cX6_firstThatHolds 4 = .ok (.getfield 27, 3) := by decide +kernel
theorem dX6_firstThatHolds_7 : decode cX6_firstThatHolds 7 = .ok (.if_icmp .ge 20, 3) := by decide +kernel
theorem dX6_firstThatHolds_10 : decode cX6_firstThatHolds 10 = .ok (.aload_n 0, 1) := by decide +kernel
theorem dX6_firstThatHolds_11 : decode cX6_firstThatHolds 11 = .ok (.iload_n 3, 1) := by decide +kernel
theorem dX6_firstThatHolds_12 : decode cX6_firstThatHolds 12 = .ok (.lload_n 1, 1) := by decide +kernel
theorem dX6_firstThatHolds_13 : decode cX6_firstThatHolds 13 = .ok (.invokevirtual 40, 3) := by decide +kernel
theorem dX6_firstThatHolds_16 : decode cX6_firstThatHolds 16 = .ok (.ifCond .eq 5, 3) := by decide +kernel
theorem dX6_firstThatHolds_19 : decode cX6_firstThatHolds 19 = .ok (.iload_n 3, 1) := by decide +kernel
theorem dX6_firstThatHolds_20 : decode cX6_firstThatHolds 20 = .ok (.ireturn, 1) := by decide +kernel
theorem dX6_firstThatHolds_21 : decode cX6_firstThatHolds 21 = .ok (.iinc 3 1, 3) := by decide +kernel
theorem dX6_firstThatHolds_24 : decode cX6_firstThatHolds 24 = .ok (.goto (-22), 3) := by decide +kernel
theorem dX6_firstThatHolds_27 : decode cX6_firstThatHolds 27 = .ok (.ldc 39, 2) := by decide +kernel
theorem dX6_firstThatHolds_29 : decode cX6_firstThatHolds 29 = .ok (.ireturn, 1) := by decide +kernel
theorem dX6_isTrueOf_0 : decode cX6_isTrueOf 0 = .ok (.aload_n 0, 1) := by decide +kernel
theorem dX6_isTrueOf_1 : decode cX6_isTrueOf 1 = .ok (.iload_n 1, 1) := by decide +kernel
theorem dX6_isTrueOf_2 : decode cX6_isTrueOf 2 = .ok (.invokevirtual 35, 3) := by decide +kernel
theorem dX6_isTrueOf_5 : decode cX6_isTrueOf 5 = .ok (.ifCond .ne 5, 3) := by decide +kernel
theorem dX6_isTrueOf_8 : decode cX6_isTrueOf 8 = .ok (.iconst 0, 1) := by decide +kernel
theorem dX6_isTrueOf_9 : decode cX6_isTrueOf 9 = .ok (.ireturn, 1) := by decide +kernel
theorem dX6_isTrueOf_10 : decode cX6_isTrueOf 10 = .ok (.iconst 0, 1) := by decide +kernel
theorem dX6_isTrueOf_11 : decode cX6_isTrueOf 11 = .ok (.istore 4, 2) := by decide +kernel
theorem dX6_isTrueOf_13 : decode cX6_isTrueOf 13 = .ok (.iload 4, 2) := by decide +kernel
theorem dX6_isTrueOf_15 : decode cX6_isTrueOf 15 = .ok (.aload_n 0, 1) := by decide +kernel
theorem dX6_isTrueOf_16 : decode cX6_isTrueOf 16 = .ok (.getfield 21, 3) := by decide +kernel
theorem dX6_isTrueOf_19 : decode cX6_isTrueOf 19 = .ok (.iload_n 1, 1) := by decide +kernel
theorem dX6_isTrueOf_20 : decode cX6_isTrueOf 20 = .ok (.iaload, 1) := by decide +kernel
theorem dX6_isTrueOf_21 : decode cX6_isTrueOf 21 = .ok (.if_icmp .ge 47, 3) := by decide +kernel
theorem dX6_isTrueOf_24 : decode cX6_isTrueOf 24 = .ok (.iload_n 1, 1) := by decide +kernel
theorem dX6_isTrueOf_25 : decode cX6_isTrueOf 25 = .ok (.iconst 4, 1) := by decide +kernel
theorem dX6_isTrueOf_26 : decode cX6_isTrueOf 26 = .ok (.imul, 1) := by decide +kernel
theorem dX6_isTrueOf_27 : decode cX6_isTrueOf 27 = .ok (.iload 4, 2) := by decide +kernel
theorem dX6_isTrueOf_29 : decode cX6_isTrueOf 29 = .ok (.iadd, 1) := by decide +kernel
theorem dX6_isTrueOf_30 : decode cX6_isTrueOf 30 = .ok (.istore 5, 2) := by decide +kernel
theorem dX6_isTrueOf_32 : decode cX6_isTrueOf 32 = .ok (.aload_n 0, 1) := by decide +kernel
theorem dX6_isTrueOf_33 : decode cX6_isTrueOf 33 = .ok (.getfield 11, 3) := by decide +kernel
theorem dX6_isTrueOf_36 : decode cX6_isTrueOf 36 = .ok (.iload 5, 2) := by decide +kernel
theorem dX6_isTrueOf_38 : decode cX6_isTrueOf 38 = .ok (.iaload, 1) := by decide +kernel
theorem dX6_isTrueOf_39 : decode cX6_isTrueOf 39 = .ok (.aload_n 0, 1) := by decide +kernel
theorem dX6_isTrueOf_40 : decode cX6_isTrueOf 40 = .ok (.getfield 15, 3) := by decide +kernel
theorem dX6_isTrueOf_43 : decode cX6_isTrueOf 43 = .ok (.iload 5, 2) := by decide +kernel
theorem dX6_isTrueOf_45 : decode cX6_isTrueOf 45 = .ok (.iaload, 1) := by decide +kernel
theorem dX6_isTrueOf_46 : decode cX6_isTrueOf 46 = .ok (.aload_n 0, 1) := by decide +kernel
theorem dX6_isTrueOf_47 : decode cX6_isTrueOf 47 = .ok (.getfield 18, 3) := by decide +kernel
theorem dX6_isTrueOf_50 : decode cX6_isTrueOf 50 = .ok (.iload 5, 2) := by decide +kernel
theorem dX6_isTrueOf_52 : decode cX6_isTrueOf 52 = .ok (.iaload, 1) := by decide +kernel
theorem dX6_isTrueOf_53 : decode cX6_isTrueOf 53 = .ok (.lload_n 2, 1) := by decide +kernel
theorem dX6_isTrueOf_54 : decode cX6_isTrueOf 54 = .ok (.invokestatic 44, 3) := by decide +kernel
theorem dX6_isTrueOf_57 : decode cX6_isTrueOf 57 = .ok (.ifCond .ne 5, 3) := by decide +kernel
theorem dX6_isTrueOf_60 : decode cX6_isTrueOf 60 = .ok (.iconst 0, 1) := by decide +kernel
theorem dX6_isTrueOf_61 : decode cX6_isTrueOf 61 = .ok (.ireturn, 1) := by decide +kernel
theorem dX6_isTrueOf_62 : decode cX6_isTrueOf 62 = .ok (.iinc 4 1, 3) := by decide +kernel
theorem dX6_isTrueOf_65 : decode cX6_isTrueOf 65 = .ok (.goto (-52), 3) := by decide +kernel
theorem dX6_isTrueOf_68 : decode cX6_isTrueOf 68 = .ok (.iconst 1, 1) := by decide +kernel
theorem dX6_isTrueOf_69 : decode cX6_isTrueOf 69 = .ok (.ireturn, 1) := by decide +kernel
theorem dX6_testIsTrue_0 : decode cX6_testIsTrue 0 = .ok (.iload_n 0, 1) := by decide +kernel
theorem dX6_testIsTrue_1 : decode cX6_testIsTrue 1 = .ok (.lookupswitch 108 #[(6711655, 43), (1702258030, 99), (1885434739, 77), (1935764837, 58)], 43) := by decide +kernel
theorem dX6_testIsTrue_44 : decode cX6_testIsTrue 44 = .ok (.lload_n 3, 1) := by decide +kernel
theorem dX6_testIsTrue_45 : decode cX6_testIsTrue 45 = .ok (.iload_n 2, 1) := by decide +kernel
theorem dX6_testIsTrue_46 : decode cX6_testIsTrue 46 = .ok (.invokestatic 48, 3) := by decide +kernel
theorem dX6_testIsTrue_49 : decode cX6_testIsTrue 49 = .ok (.iload_n 1, 1) := by decide +kernel
theorem dX6_testIsTrue_50 : decode cX6_testIsTrue 50 = .ok (.if_icmp .ne 7, 3) := by decide +kernel
theorem dX6_testIsTrue_53 : decode cX6_testIsTrue 53 = .ok (.iconst 1, 1) := by decide +kernel
theorem dX6_testIsTrue_54 : decode cX6_testIsTrue 54 = .ok (.goto 4, 3) := by decide +kernel
theorem dX6_testIsTrue_57 : decode cX6_testIsTrue 57 = .ok (.iconst 0, 1) := by decide +kernel
theorem dX6_testIsTrue_58 : decode cX6_testIsTrue 58 = .ok (.ireturn, 1) := by decide +kernel
theorem dX6_testIsTrue_59 : decode cX6_testIsTrue 59 = .ok (.lload_n 3, 1) := by decide +kernel
theorem dX6_testIsTrue_60 : decode cX6_testIsTrue 60 = .ok (.iload_n 1, 1) := by decide +kernel
theorem dX6_testIsTrue_61 : decode cX6_testIsTrue 61 = .ok (.invokestatic 48, 3) := by decide +kernel
theorem dX6_testIsTrue_64 : decode cX6_testIsTrue 64 = .ok (.lload_n 3, 1) := by decide +kernel
theorem dX6_testIsTrue_65 : decode cX6_testIsTrue 65 = .ok (.iload_n 2, 1) := by decide +kernel
theorem dX6_testIsTrue_66 : decode cX6_testIsTrue 66 = .ok (.invokestatic 48, 3) := by decide +kernel
theorem dX6_testIsTrue_69 : decode cX6_testIsTrue 69 = .ok (.if_icmp .ne 7, 3) := by decide +kernel
theorem dX6_testIsTrue_72 : decode cX6_testIsTrue 72 = .ok (.iconst 1, 1) := by decide +kernel
theorem dX6_testIsTrue_73 : decode cX6_testIsTrue 73 = .ok (.goto 4, 3) := by decide +kernel
theorem dX6_testIsTrue_76 : decode cX6_testIsTrue 76 = .ok (.iconst 0, 1) := by decide +kernel
theorem dX6_testIsTrue_77 : decode cX6_testIsTrue 77 = .ok (.ireturn, 1) := by decide +kernel
theorem dX6_testIsTrue_78 : decode cX6_testIsTrue 78 = .ok (.lload_n 3, 1) := by decide +kernel
theorem dX6_testIsTrue_79 : decode cX6_testIsTrue 79 = .ok (.lload_n 3, 1) := by decide +kernel
theorem dX6_testIsTrue_80 : decode cX6_testIsTrue 80 = .ok (.iconst 0, 1) := by decide +kernel
theorem dX6_testIsTrue_81 : decode cX6_testIsTrue 81 = .ok (.invokestatic 48, 3) := by decide +kernel
theorem dX6_testIsTrue_84 : decode cX6_testIsTrue 84 = .ok (.iconst 1, 1) := by decide +kernel
theorem dX6_testIsTrue_85 : decode cX6_testIsTrue 85 = .ok (.bipush 11, 2) := by decide +kernel
theorem dX6_testIsTrue_87 : decode cX6_testIsTrue 87 = .ok (.invokestatic 54, 3) := by decide +kernel
theorem dX6_testIsTrue_90 : decode cX6_testIsTrue 90 = .ok (.iload_n 1, 1) := by decide +kernel
theorem dX6_testIsTrue_91 : decode cX6_testIsTrue 91 = .ok (.if_icmp .lt 7, 3) := by decide +kernel
theorem dX6_testIsTrue_94 : decode cX6_testIsTrue 94 = .ok (.iconst 1, 1) := by decide +kernel
theorem dX6_testIsTrue_95 : decode cX6_testIsTrue 95 = .ok (.goto 4, 3) := by decide +kernel
theorem dX6_testIsTrue_98 : decode cX6_testIsTrue 98 = .ok (.iconst 0, 1) := by decide +kernel
theorem dX6_testIsTrue_99 : decode cX6_testIsTrue 99 = .ok (.ireturn, 1) := by decide +kernel
theorem dX6_testIsTrue_100 : decode cX6_testIsTrue 100 = .ok (.lload_n 3, 1) := by decide +kernel
theorem dX6_testIsTrue_101 : decode cX6_testIsTrue 101 = .ok (.iload_n 1, 1) := by decide +kernel
theorem dX6_testIsTrue_102 : decode cX6_testIsTrue 102 = .ok (.invokestatic 48, 3) := by decide +kernel
theorem dX6_testIsTrue_105 : decode cX6_testIsTrue 105 = .ok (.invokestatic 58, 3) := by decide +kernel
theorem dX6_testIsTrue_108 : decode cX6_testIsTrue 108 = .ok (.ireturn, 1) := by decide +kernel
theorem dX6_testIsTrue_109 : decode cX6_testIsTrue 109 = .ok (.iconst 0, 1) := by decide +kernel
theorem dX6_testIsTrue_110 : decode cX6_testIsTrue 110 = .ok (.ireturn, 1) := by decide +kernel
theorem dX7_init_0 : decode cX7_init 0 = .ok (.aload_n 0, 1) := by decide +kernel
theorem dX7_init_1 : decode cX7_init 1 = .ok (.invokespecial 3, 3) := by decide +kernel
theorem dX7_init_4 : decode cX7_init 4 = .ok (.aload_n 0, 1) := by decide +kernel
theorem dX7_init_5 : decode cX7_init 5 = .ok (.bipush 60, 2) := by decide +kernel
theorem dX7_init_7 : decode cX7_init 7 = .ok (.newarray .int, 2) := by decide +kernel
theorem dX7_init_9 : decode cX7_init 9 = .ok (.putfield 11, 3) := by decide +kernel
theorem dX7_init_12 : decode cX7_init 12 = .ok (.aload_n 0, 1) := by decide +kernel
theorem dX7_init_13 : decode cX7_init 13 = .ok (.iconst (-1), 1) := by decide +kernel
theorem dX7_init_14 : decode cX7_init 14 = .ok (.putfield 15, 3) := by decide +kernel
theorem dX7_init_17 : decode cX7_init 17 = .ok (.aload_n 0, 1) := by decide +kernel
theorem dX7_init_18 : decode cX7_init 18 = .ok (.iconst 0, 1) := by decide +kernel
theorem dX7_init_19 : decode cX7_init 19 = .ok (.putfield 19, 3) := by decide +kernel
theorem dX7_init_22 : decode cX7_init 22 = .ok (.return_, 1) := by decide +kernel
theorem dX7_isLane_0 : decode cX7_isLane 0 = .ok (.iload_n 0, 1) := by decide +kernel
theorem dX7_isLane_1 : decode cX7_isLane 1 = .ok (.ifCond .lt 12, 3) := by decide +kernel
theorem dX7_isLane_4 : decode cX7_isLane 4 = .ok (.iload_n 0, 1) := by decide +kernel
theorem dX7_isLane_5 : decode cX7_isLane 5 = .ok (.iconst 2, 1) := by decide +kernel
theorem dX7_isLane_6 : decode cX7_isLane 6 = .ok (.if_icmp .gt 7, 3) := by decide +kernel
theorem dX7_isLane_9 : decode cX7_isLane 9 = .ok (.iconst 1, 1) := by decide +kernel
end
section
theorem dX7_isLane_10 : decode cX7_isLane 10 = .ok (.goto 4, 3) := by decide +kernel
theorem dX7_isLane_13 : decode cX7_isLane 13 = .ok (.iconst 0, 1) := by decide +kernel
theorem dX7_isLane_14 : decode cX7_isLane 14 = .ok (.ireturn, 1) := by decide +kernel
theorem dX7_isMissing_0 : decode cX7_isMissing 0 = .ok (.aload_n 0, 1) := by decide +kernel
theorem dX7_isMissing_1 : decode cX7_isMissing 1 = .ok (.getfield 15, 3) := by decide +kernel
theorem dX7_isMissing_4 : decode cX7_isMissing 4 = .ok (.iconst (-1), 1) := by decide +kernel
theorem dX7_isMissing_5 : decode cX7_isMissing 5 = .ok (.if_icmp .ne 7, 3) := by decide +kernel
theorem dX7_isMissing_8 : decode cX7_isMissing 8 = .ok (.iconst 1, 1) := by decide +kernel
theorem dX7_isMissing_9 : decode cX7_isMissing 9 = .ok (.goto 4, 3) := by decide +kernel
theorem dX7_isMissing_12 : decode cX7_isMissing 12 = .ok (.iconst 0, 1) := by decide +kernel
theorem dX7_isMissing_13 : decode cX7_isMissing 13 = .ok (.ireturn, 1) := by decide +kernel
theorem dX7_begin_0 : decode cX7_begin 0 = .ok (.aload_n 0, 1) := by decide +kernel
theorem dX7_begin_1 : decode cX7_begin 1 = .ok (.iload_n 1, 1) := by decide +kernel
theorem dX7_begin_2 : decode cX7_begin 2 = .ok (.putfield 15, 3) := by decide +kernel
theorem dX7_begin_5 : decode cX7_begin 5 = .ok (.aload_n 0, 1) := by decide +kernel
theorem dX7_begin_6 : decode cX7_begin 6 = .ok (.iload_n 2, 1) := by decide +kernel
theorem dX7_begin_7 : decode cX7_begin 7 = .ok (.putfield 19, 3) := by decide +kernel
theorem dX7_begin_10 : decode cX7_begin 10 = .ok (.iconst 0, 1) := by decide +kernel
theorem dX7_begin_11 : decode cX7_begin 11 = .ok (.istore_n 3, 1) := by decide +kernel
theorem dX7_begin_12 : decode cX7_begin 12 = .ok (.iload_n 3, 1) := by decide +kernel
theorem dX7_begin_13 : decode cX7_begin 13 = .ok (.bipush 60, 2) := by decide +kernel
theorem dX7_begin_15 : decode cX7_begin 15 = .ok (.if_icmp .ge 16, 3) := by decide +kernel
theorem dX7_begin_18 : decode cX7_begin 18 = .ok (.aload_n 0, 1) := by decide +kernel
theorem dX7_begin_19 : decode cX7_begin 19 = .ok (.getfield 11, 3) := by decide +kernel
theorem dX7_begin_22 : decode cX7_begin 22 = .ok (.iload_n 3, 1) := by decide +kernel
theorem dX7_begin_23 : decode cX7_begin 23 = .ok (.iconst 0, 1) := by decide +kernel
theorem dX7_begin_24 : decode cX7_begin 24 = .ok (.iastore, 1) := by decide +kernel
theorem dX7_begin_25 : decode cX7_begin 25 = .ok (.iinc 3 1, 3) := by decide +kernel
theorem dX7_begin_28 : decode cX7_begin 28 = .ok (.goto (-16), 3) := by decide +kernel
theorem dX7_begin_31 : decode cX7_begin 31 = .ok (.return_, 1) := by decide +kernel
theorem dX7_forget_0 : decode cX7_forget 0 = .ok (.aload_n 0, 1) := by decide +kernel
theorem dX7_forget_1 : decode cX7_forget 1 = .ok (.iconst (-1), 1) := by decide +kernel
theorem dX7_forget_2 : decode cX7_forget 2 = .ok (.putfield 15, 3) := by decide +kernel
theorem dX7_forget_5 : decode cX7_forget 5 = .ok (.aload_n 0, 1) := by decide +kernel
theorem dX7_forget_6 : decode cX7_forget 6 = .ok (.iconst 0, 1) := by decide +kernel
theorem dX7_forget_7 : decode cX7_forget 7 = .ok (.putfield 19, 3) := by decide +kernel
theorem dX7_forget_10 : decode cX7_forget 10 = .ok (.return_, 1) := by decide +kernel
theorem dX7_hasItems_0 : decode cX7_hasItems 0 = .ok (.iload_n 2, 1) := by decide +kernel
theorem dX7_hasItems_1 : decode cX7_hasItems 1 = .ok (.ifCond .lt 21, 3) := by decide +kernel
theorem dX7_hasItems_4 : decode cX7_hasItems 4 = .ok (.iload_n 1, 1) := by decide +kernel
theorem dX7_hasItems_5 : decode cX7_hasItems 5 = .ok (.ifCond .lt 17, 3) := by decide +kernel
theorem dX7_hasItems_8 : decode cX7_hasItems 8 = .ok (.iload_n 1, 1) := by decide +kernel
theorem dX7_hasItems_9 : decode cX7_hasItems 9 = .ok (.aload_n 0, 1) := by decide +kernel
theorem dX7_hasItems_10 : decode cX7_hasItems 10 = .ok (.getfield 19, 3) := by decide +kernel
theorem dX7_hasItems_13 : decode cX7_hasItems 13 = .ok (.iload_n 2, 1) := by decide +kernel
theorem dX7_hasItems_14 : decode cX7_hasItems 14 = .ok (.isub, 1) := by decide +kernel
theorem dX7_hasItems_15 : decode cX7_hasItems 15 = .ok (.if_icmp .gt 7, 3) := by decide +kernel
theorem dX7_hasItems_18 : decode cX7_hasItems 18 = .ok (.iconst 1, 1) := by decide +kernel
theorem dX7_hasItems_19 : decode cX7_hasItems 19 = .ok (.goto 4, 3) := by decide +kernel
theorem dX7_hasItems_22 : decode cX7_hasItems 22 = .ok (.iconst 0, 1) := by decide +kernel
theorem dX7_hasItems_23 : decode cX7_hasItems 23 = .ok (.ireturn, 1) := by decide +kernel
theorem dX7_findingOf_0 : decode cX7_findingOf 0 = .ok (.aload_n 0, 1) := by decide +kernel
theorem dX7_findingOf_1 : decode cX7_findingOf 1 = .ok (.invokevirtual 22, 3) := by decide +kernel
theorem dX7_findingOf_4 : decode cX7_findingOf 4 = .ok (.ifCond .eq 5, 3) := by decide +kernel
theorem dX7_findingOf_7 : decode cX7_findingOf 7 = .ok (.iconst 1, 1) := by decide +kernel
theorem dX7_findingOf_8 : decode cX7_findingOf 8 = .ok (.ireturn, 1) := by decide +kernel
theorem dX7_findingOf_9 : decode cX7_findingOf 9 = .ok (.aload_n 0, 1) := by decide +kernel
theorem dX7_findingOf_10 : decode cX7_findingOf 10 = .ok (.iload_n 1, 1) := by decide +kernel
theorem dX7_findingOf_11 : decode cX7_findingOf 11 = .ok (.iload_n 2, 1) := by decide +kernel
theorem dX7_findingOf_12 : decode cX7_findingOf 12 = .ok (.invokevirtual 26, 3) := by decide +kernel
theorem dX7_findingOf_15 : decode cX7_findingOf 15 = .ok (.ifCond .eq 7, 3) := by decide +kernel
theorem dX7_findingOf_18 : decode cX7_findingOf 18 = .ok (.iconst 0, 1) := by decide +kernel
theorem dX7_findingOf_19 : decode cX7_findingOf 19 = .ok (.goto 4, 3) := by decide +kernel
theorem dX7_findingOf_22 : decode cX7_findingOf 22 = .ok (.iconst 2, 1) := by decide +kernel
theorem dX7_findingOf_23 : decode cX7_findingOf 23 = .ok (.ireturn, 1) := by decide +kernel
theorem dX7_put_0 : decode cX7_put 0 = .ok (.aload_n 0, 1) := by decide +kernel
theorem dX7_put_1 : decode cX7_put 1 = .ok (.iload_n 1, 1) := by decide +kernel
theorem dX7_put_2 : decode cX7_put 2 = .ok (.iconst 1, 1) := by decide +kernel
theorem dX7_put_3 : decode cX7_put 3 = .ok (.invokevirtual 26, 3) := by decide +kernel
theorem dX7_put_6 : decode cX7_put 6 = .ok (.ifCond .ne 6, 3) := by decide +kernel
theorem dX7_put_9 : decode cX7_put 9 = .ok (.ldc 30, 2) := by decide +kernel
theorem dX7_put_11 : decode cX7_put 11 = .ok (.ireturn, 1) := by decide +kernel
theorem dX7_put_12 : decode cX7_put 12 = .ok (.aload_n 0, 1) := by decide +kernel
theorem dX7_put_13 : decode cX7_put 13 = .ok (.getfield 11, 3) := by decide +kernel
theorem dX7_put_16 : decode cX7_put 16 = .ok (.iload_n 1, 1) := by decide +kernel
theorem dX7_put_17 : decode cX7_put 17 = .ok (.aload_n 0, 1) := by decide +kernel
theorem dX7_put_18 : decode cX7_put 18 = .ok (.iload_n 2, 1) := by decide +kernel
theorem dX7_put_19 : decode cX7_put 19 = .ok (.invokevirtual 31, 3) := by decide +kernel
theorem dX7_put_22 : decode cX7_put 22 = .ok (.iastore, 1) := by decide +kernel
theorem dX7_put_23 : decode cX7_put 23 = .ok (.aload_n 0, 1) := by decide +kernel
theorem dX7_put_24 : decode cX7_put 24 = .ok (.getfield 11, 3) := by decide +kernel
theorem dX7_put_27 : decode cX7_put 27 = .ok (.iload_n 1, 1) := by decide +kernel
theorem dX7_put_28 : decode cX7_put 28 = .ok (.iaload, 1) := by decide +kernel
theorem dX7_put_29 : decode cX7_put 29 = .ok (.ireturn, 1) := by decide +kernel
theorem dX7_narrowed_0 : decode cX7_narrowed 0 = .ok (.aload_n 0, 1) := by decide +kernel
theorem dX7_narrowed_1 : decode cX7_narrowed 1 = .ok (.getfield 15, 3) := by decide +kernel
theorem dX7_narrowed_4 : decode cX7_narrowed 4 = .ok (.ifCond .ne 6, 3) := by decide +kernel
theorem dX7_narrowed_7 : decode cX7_narrowed 7 = .ok (.iload_n 1, 1) := by decide +kernel
theorem dX7_narrowed_8 : decode cX7_narrowed 8 = .ok (.i2b, 1) := by decide +kernel
theorem dX7_narrowed_9 : decode cX7_narrowed 9 = .ok (.ireturn, 1) := by decide +kernel
theorem dX7_narrowed_10 : decode cX7_narrowed 10 = .ok (.aload_n 0, 1) := by decide +kernel
theorem dX7_narrowed_11 : decode cX7_narrowed 11 = .ok (.getfield 15, 3) := by decide +kernel
theorem dX7_narrowed_14 : decode cX7_narrowed 14 = .ok (.iconst 1, 1) := by decide +kernel
theorem dX7_narrowed_15 : decode cX7_narrowed 15 = .ok (.if_icmp .ne 8, 3) := by decide +kernel
theorem dX7_narrowed_18 : decode cX7_narrowed 18 = .ok (.iload_n 1, 1) := by decide +kernel
theorem dX7_narrowed_19 : decode cX7_narrowed 19 = .ok (.i2s, 1) := by decide +kernel
theorem dX7_narrowed_20 : decode cX7_narrowed 20 = .ok (.goto 4, 3) := by decide +kernel
theorem dX7_narrowed_23 : decode cX7_narrowed 23 = .ok (.iload_n 1, 1) := by decide +kernel
theorem dX7_narrowed_24 : decode cX7_narrowed 24 = .ok (.ireturn, 1) := by decide +kernel
theorem dX7_areWithin_0 : decode cX7_areWithin 0 = .ok (.aload_n 0, 1) := by decide +kernel
theorem dX7_areWithin_1 : decode cX7_areWithin 1 = .ok (.iload_n 1, 1) := by decide +kernel
theorem dX7_areWithin_2 : decode cX7_areWithin 2 = .ok (.iload_n 2, 1) := by decide +kernel
theorem dX7_areWithin_3 : decode cX7_areWithin 3 = .ok (.invokevirtual 26, 3) := by decide +kernel
theorem dX7_areWithin_6 : decode cX7_areWithin 6 = .ok (.ifCond .ne 5, 3) := by decide +kernel
theorem dX7_areWithin_9 : decode cX7_areWithin 9 = .ok (.iconst 0, 1) := by decide +kernel
theorem dX7_areWithin_10 : decode cX7_areWithin 10 = .ok (.ireturn, 1) := by decide +kernel
theorem dX7_areWithin_11 : decode cX7_areWithin 11 = .ok (.iconst 0, 1) := by decide +kernel
theorem dX7_areWithin_12 : decode cX7_areWithin 12 = .ok (.istore 5, 2) := by decide +kernel
theorem dX7_areWithin_14 : decode cX7_areWithin 14 = .ok (.iload 5, 2) := by decide +kernel
theorem dX7_areWithin_16 : decode cX7_areWithin 16 = .ok (.iload_n 2, 1) := by decide +kernel
theorem dX7_areWithin_17 : decode cX7_areWithin 17 = .ok (.if_icmp .ge 38, 3) := by decide +kernel
theorem dX7_areWithin_20 : decode cX7_areWithin 20 = .ok (.aload_n 0, 1) := by decide +kernel
theorem dX7_areWithin_21 : decode cX7_areWithin 21 = .ok (.getfield 11, 3) := by decide +kernel
theorem dX7_areWithin_24 : decode cX7_areWithin 24 = .ok (.iload_n 1, 1) := by decide +kernel
theorem dX7_areWithin_25 : decode cX7_areWithin 25 = .ok (.iload 5, 2) := by decide +kernel
theorem dX7_areWithin_27 : decode cX7_areWithin 27 = .ok (.iadd, 1) := by decide +kernel
theorem dX7_areWithin_28 : decode cX7_areWithin 28 = .ok (.iaload, 1) := by decide +kernel
theorem dX7_areWithin_29 : decode cX7_areWithin 29 = .ok (.iload_n 3, 1) := by decide +kernel
theorem dX7_areWithin_30 : decode cX7_areWithin 30 = .ok (.if_icmp .lt 17, 3) := by decide +kernel
theorem dX7_areWithin_33 : decode cX7_areWithin 33 = .ok (.aload_n 0, 1) := by decide +kernel
theorem dX7_areWithin_34 : decode cX7_areWithin 34 = .ok (.getfield 11, 3) := by decide +kernel
theorem dX7_areWithin_37 : decode cX7_areWithin 37 = .ok (.iload_n 1, 1) := by decide +kernel
theorem dX7_areWithin_38 : decode cX7_areWithin 38 = .ok (.iload 5, 2) := by decide +kernel
theorem dX7_areWithin_40 : decode cX7_areWithin 40 = .ok (.iadd, 1) := by decide +kernel
theorem dX7_areWithin_41 : decode cX7_areWithin 41 = .ok (.iaload, 1) := by decide +kernel
theorem dX7_areWithin_42 : decode cX7_areWithin 42 = .ok (.iload 4, 2) := by decide +kernel
theorem dX7_areWithin_44 : decode cX7_areWithin 44 = .ok (.if_icmp .le 5, 3) := by decide +kernel
theorem dX7_areWithin_47 : decode cX7_areWithin 47 = .ok (.iconst 0, 1) := by decide +kernel
theorem dX7_areWithin_48 : decode cX7_areWithin 48 = .ok (.ireturn, 1) := by decide +kernel
theorem dX7_areWithin_49 : decode cX7_areWithin 49 = .ok (.iinc 5 1, 3) := by decide +kernel
theorem dX7_areWithin_52 : decode cX7_areWithin 52 = .ok (.goto (-38), 3) := by decide +kernel
theorem dX7_areWithin_55 : decode cX7_areWithin 55 = .ok (.iconst 1, 1) := by decide +kernel
theorem dX7_areWithin_56 : decode cX7_areWithin 56 = .ok (.ireturn, 1) := by decide +kernel
theorem dX7_oddOnes_0 : decode cX7_oddOnes 0 = .ok (.iconst 0, 1) := by decide +kernel
theorem dX7_oddOnes_1 : decode cX7_oddOnes 1 = .ok (.istore_n 2, 1) := by decide +kernel
theorem dX7_oddOnes_2 : decode cX7_oddOnes 2 = .ok (.aload_n 0, 1) := by decide +kernel
theorem dX7_oddOnes_3 : decode cX7_oddOnes 3 = .ok (.iload_n 1, 1) := by decide +kernel
theorem dX7_oddOnes_4 : decode cX7_oddOnes 4 = .ok (.bipush 16, 2) := by decide +kernel
theorem dX7_oddOnes_6 : decode cX7_oddOnes 6 = .ok (.invokevirtual 26, 3) := by decide +kernel
theorem dX7_oddOnes_9 : decode cX7_oddOnes 9 = .ok (.ifCond .eq 32, 3) := by decide +kernel
theorem dX7_oddOnes_12 : decode cX7_oddOnes 12 = .ok (.iconst 0, 1) := by decide +kernel
theorem dX7_oddOnes_13 : decode cX7_oddOnes 13 = .ok (.istore_n 3, 1) := by decide +kernel
theorem dX7_oddOnes_14 : decode cX7_oddOnes 14 = .ok (.iload_n 3, 1) := by decide +kernel
theorem dX7_oddOnes_15 : decode cX7_oddOnes 15 = .ok (.bipush 16, 2) := by decide +kernel
theorem dX7_oddOnes_17 : decode cX7_oddOnes 17 = .ok (.if_icmp .ge 24, 3) := by decide +kernel
theorem dX7_oddOnes_20 : decode cX7_oddOnes 20 = .ok (.iload_n 2, 1) := by decide +kernel
theorem dX7_oddOnes_21 : decode cX7_oddOnes 21 = .ok (.aload_n 0, 1) := by decide +kernel
theorem dX7_oddOnes_22 : decode cX7_oddOnes 22 = .ok (.getfield 11, 3) := by decide +kernel
theorem dX7_oddOnes_25 : decode cX7_oddOnes 25 = .ok (.iload_n 1, 1) := by decide +kernel
theorem dX7_oddOnes_26 : decode cX7_oddOnes 26 = .ok (.iload_n 3, 1) := by decide +kernel
theorem dX7_oddOnes_27 : decode cX7_oddOnes 27 = .ok (.iadd, 1) := by decide +kernel
theorem dX7_oddOnes_28 : decode cX7_oddOnes 28 = .ok (.iaload, 1) := by decide +kernel
theorem dX7_oddOnes_29 : decode cX7_oddOnes 29 = .ok (.iconst 1, 1) := by decide +kernel
theorem dX7_oddOnes_30 : decode cX7_oddOnes 30 = .ok (.iand, 1) := by decide +kernel
theorem dX7_oddOnes_31 : decode cX7_oddOnes 31 = .ok (.iload_n 3, 1) := by decide +kernel
theorem dX7_oddOnes_32 : decode cX7_oddOnes 32 = .ok (.ishl, 1) := by decide +kernel
theorem dX7_oddOnes_33 : decode cX7_oddOnes 33 = .ok (.ior, 1) := by decide +kernel
theorem dX7_oddOnes_34 : decode cX7_oddOnes 34 = .ok (.istore_n 2, 1) := by decide +kernel
theorem dX7_oddOnes_35 : decode cX7_oddOnes 35 = .ok (.iinc 3 1, 3) := by decide +kernel
theorem dX7_oddOnes_38 : decode cX7_oddOnes 38 = .ok (.goto (-24), 3) := by decide +kernel
theorem dX7_oddOnes_41 : decode cX7_oddOnes 41 = .ok (.iload_n 2, 1) := by decide +kernel
theorem dX7_oddOnes_42 : decode cX7_oddOnes 42 = .ok (.ireturn, 1) := by decide +kernel
theorem dX7_drawnRows_0 : decode cX7_drawnRows 0 = .ok (.lconst 0, 1) := by decide +kernel
theorem dX7_drawnRows_1 : decode cX7_drawnRows 1 = .ok (.lstore_n 2, 1) := by decide +kernel
theorem dX7_drawnRows_2 : decode cX7_drawnRows 2 = .ok (.aload_n 0, 1) := by decide +kernel
theorem dX7_drawnRows_3 : decode cX7_drawnRows 3 = .ok (.iload_n 1, 1) := by decide +kernel
theorem dX7_drawnRows_4 : decode cX7_drawnRows 4 = .ok (.bipush 16, 2) := by decide +kernel
theorem dX7_drawnRows_6 : decode cX7_drawnRows 6 = .ok (.invokevirtual 26, 3) := by decide +kernel
theorem dX7_drawnRows_9 : decode cX7_drawnRows 9 = .ok (.ifCond .eq 52, 3) := by decide +kernel
theorem dX7_drawnRows_12 : decode cX7_drawnRows 12 = .ok (.iconst 0, 1) := by decide +kernel
theorem dX7_drawnRows_13 : decode cX7_drawnRows 13 = .ok (.istore 4, 2) := by decide +kernel
theorem dX7_drawnRows_15 : decode cX7_drawnRows 15 = .ok (.iload 4, 2) := by decide +kernel
theorem dX7_drawnRows_17 : decode cX7_drawnRows 17 = .ok (.bipush 16, 2) := by decide +kernel
theorem dX7_drawnRows_19 : decode cX7_drawnRows 19 = .ok (.if_icmp .ge 42, 3) := by decide +kernel
theorem dX7_drawnRows_22 : decode cX7_drawnRows 22 = .ok (.aload_n 0, 1) := by decide +kernel
theorem dX7_drawnRows_23 : decode cX7_drawnRows 23 = .ok (.getfield 11, 3) := by decide +kernel
theorem dX7_drawnRows_26 : decode cX7_drawnRows 26 = .ok (.iload_n 1, 1) := by decide +kernel
theorem dX7_drawnRows_27 : decode cX7_drawnRows 27 = .ok (.iload 4, 2) := by decide +kernel
theorem dX7_drawnRows_29 : decode cX7_drawnRows 29 = .ok (.iadd, 1) := by decide +kernel
theorem dX7_drawnRows_30 : decode cX7_drawnRows 30 = .ok (.iaload, 1) := by decide +kernel
theorem dX7_drawnRows_31 : decode cX7_drawnRows 31 = .ok (.iconst (-1), 1) := by decide +kernel
theorem dX7_drawnRows_32 : decode cX7_drawnRows 32 = .ok (.if_icmp .ne 7, 3) := by decide +kernel
theorem dX7_drawnRows_35 : decode cX7_drawnRows 35 = .ok (.lload_n 2, 1) := by decide +kernel
theorem dX7_drawnRows_36 : decode cX7_drawnRows 36 = .ok (.goto 18, 3) := by decide +kernel
theorem dX7_drawnRows_39 : decode cX7_drawnRows 39 = .ok (.lload_n 2, 1) := by decide +kernel
theorem dX7_drawnRows_40 : decode cX7_drawnRows 40 = .ok (.iload 4, 2) := by decide +kernel
theorem dX7_drawnRows_42 : decode cX7_drawnRows 42 = .ok (.aload_n 0, 1) := by decide +kernel
theorem dX7_drawnRows_43 : decode cX7_drawnRows 43 = .ok (.getfield 11, 3) := by decide +kernel
theorem dX7_drawnRows_46 : decode cX7_drawnRows 46 = .ok (.iload_n 1, 1) := by decide +kernel
theorem dX7_drawnRows_47 : decode cX7_drawnRows 47 = .ok (.iload 4, 2) := by decide +kernel
theorem dX7_drawnRows_49 : decode cX7_drawnRows 49 = .ok (.iadd, 1) := by decide +kernel
theorem dX7_drawnRows_50 : decode cX7_drawnRows 50 = .ok (.iaload, 1) := by decide +kernel
theorem dX7_drawnRows_51 : decode cX7_drawnRows 51 = .ok (.invokestatic 35, 3) := by decide +kernel
theorem dX7_drawnRows_54 : decode cX7_drawnRows 54 = .ok (.lstore_n 2, 1) := by decide +kernel
theorem dX7_drawnRows_55 : decode cX7_drawnRows 55 = .ok (.iinc 4 1, 3) := by decide +kernel
theorem dX7_drawnRows_58 : decode cX7_drawnRows 58 = .ok (.goto (-43), 3) := by decide +kernel
theorem dX7_drawnRows_61 : decode cX7_drawnRows 61 = .ok (.lload_n 2, 1) := by decide +kernel
theorem dX7_drawnRows_62 : decode cX7_drawnRows 62 = .ok (.lreturn, 1) := by decide +kernel
theorem dX7_untornRows_0 : decode cX7_untornRows 0 = .ok (.lconst 0, 1) := by decide +kernel
theorem dX7_untornRows_1 : decode cX7_untornRows 1 = .ok (.lstore_n 2, 1) := by decide +kernel
theorem dX7_untornRows_2 : decode cX7_untornRows 2 = .ok (.aload_n 0, 1) := by decide +kernel
theorem dX7_untornRows_3 : decode cX7_untornRows 3 = .ok (.iload_n 1, 1) := by decide +kernel
theorem dX7_untornRows_4 : decode cX7_untornRows 4 = .ok (.bipush 16, 2) := by decide +kernel
theorem dX7_untornRows_6 : decode cX7_untornRows 6 = .ok (.invokevirtual 26, 3) := by decide +kernel
theorem dX7_untornRows_9 : decode cX7_untornRows 9 = .ok (.ifCond .eq 45, 3) := by decide +kernel
theorem dX7_untornRows_12 : decode cX7_untornRows 12 = .ok (.iconst 0, 1) := by decide +kernel
theorem dX7_untornRows_13 : decode cX7_untornRows 13 = .ok (.istore 4, 2) := by decide +kernel
theorem dX7_untornRows_15 : decode cX7_untornRows 15 = .ok (.iload 4, 2) := by decide +kernel
theorem dX7_untornRows_17 : decode cX7_untornRows 17 = .ok (.bipush 16, 2) := by decide +kernel
theorem dX7_untornRows_19 : decode cX7_untornRows 19 = .ok (.if_icmp .ge 35, 3) := by decide +kernel
theorem dX7_untornRows_22 : decode cX7_untornRows 22 = .ok (.aload_n 0, 1) := by decide +kernel
theorem dX7_untornRows_23 : decode cX7_untornRows 23 = .ok (.getfield 11, 3) := by decide +kernel
theorem dX7_untornRows_26 : decode cX7_untornRows 26 = .ok (.iload_n 1, 1) := by decide +kernel
theorem dX7_untornRows_27 : decode cX7_untornRows 27 = .ok (.iload 4, 2) := by decide +kernel
theorem dX7_untornRows_29 : decode cX7_untornRows 29 = .ok (.iadd, 1) := by decide +kernel
theorem dX7_untornRows_30 : decode cX7_untornRows 30 = .ok (.iaload, 1) := by decide +kernel
theorem dX7_untornRows_31 : decode cX7_untornRows 31 = .ok (.iconst (-1), 1) := by decide +kernel
theorem dX7_untornRows_32 : decode cX7_untornRows 32 = .ok (.if_icmp .ne 7, 3) := by decide +kernel
theorem dX7_untornRows_35 : decode cX7_untornRows 35 = .ok (.lload_n 2, 1) := by decide +kernel
theorem dX7_untornRows_36 : decode cX7_untornRows 36 = .ok (.goto 11, 3) := by decide +kernel
theorem dX7_untornRows_39 : decode cX7_untornRows 39 = .ok (.lload_n 2, 1) := by decide +kernel
theorem dX7_untornRows_40 : decode cX7_untornRows 40 = .ok (.iload 4, 2) := by decide +kernel
theorem dX7_untornRows_42 : decode cX7_untornRows 42 = .ok (.bipush 15, 2) := by decide +kernel
theorem dX7_untornRows_44 : decode cX7_untornRows 44 = .ok (.invokestatic 35, 3) := by decide +kernel
theorem dX7_untornRows_47 : decode cX7_untornRows 47 = .ok (.lstore_n 2, 1) := by decide +kernel
theorem dX7_untornRows_48 : decode cX7_untornRows 48 = .ok (.iinc 4 1, 3) := by decide +kernel
theorem dX7_untornRows_51 : decode cX7_untornRows 51 = .ok (.goto (-36), 3) := by decide +kernel
theorem dX7_untornRows_54 : decode cX7_untornRows 54 = .ok (.lload_n 2, 1) := by decide +kernel
theorem dX7_untornRows_55 : decode cX7_untornRows 55 = .ok (.lreturn, 1) := by decide +kernel
theorem dX8_init_0 : decode cX8_init 0 = .ok (.aload_n 0, 1) := by decide +kernel
theorem dX8_init_1 : decode cX8_init 1 = .ok (.invokespecial 1, 3) := by decide +kernel
theorem dX8_init_4 : decode cX8_init 4 = .ok (.aload_n 0, 1) := by decide +kernel
theorem dX8_init_5 : decode cX8_init 5 = .ok (.sipush 400, 3) := by decide +kernel
theorem dX8_init_8 : decode cX8_init 8 = .ok (.newarray .int, 2) := by decide +kernel
theorem dX8_init_10 : decode cX8_init 10 = .ok (.putfield 9, 3) := by decide +kernel
theorem dX8_init_13 : decode cX8_init 13 = .ok (.aload_n 0, 1) := by decide +kernel
theorem dX8_init_14 : decode cX8_init 14 = .ok (.iconst 0, 1) := by decide +kernel
theorem dX8_init_15 : decode cX8_init 15 = .ok (.putfield 13, 3) := by decide +kernel
theorem dX8_init_18 : decode cX8_init 18 = .ok (.return_, 1) := by decide +kernel
theorem dX8_hasRoom_0 : decode cX8_hasRoom 0 = .ok (.iload_n 1, 1) := by decide +kernel
theorem dX8_hasRoom_1 : decode cX8_hasRoom 1 = .ok (.sipush 400, 3) := by decide +kernel
theorem dX8_hasRoom_4 : decode cX8_hasRoom 4 = .ok (.aload_n 0, 1) := by decide +kernel
theorem dX8_hasRoom_5 : decode cX8_hasRoom 5 = .ok (.getfield 13, 3) := by decide +kernel
theorem dX8_hasRoom_8 : decode cX8_hasRoom 8 = .ok (.isub, 1) := by decide +kernel
theorem dX8_hasRoom_9 : decode cX8_hasRoom 9 = .ok (.if_icmp .gt 7, 3) := by decide +kernel
theorem dX8_hasRoom_12 : decode cX8_hasRoom 12 = .ok (.iconst 1, 1) := by decide +kernel
theorem dX8_hasRoom_13 : decode cX8_hasRoom 13 = .ok (.goto 4, 3) := by decide +kernel
theorem dX8_hasRoom_16 : decode cX8_hasRoom 16 = .ok (.iconst 0, 1) := by decide +kernel
theorem dX8_hasRoom_17 : decode cX8_hasRoom 17 = .ok (.ireturn, 1) := by decide +kernel
theorem dX8_append_0 : decode cX8_append 0 = .ok (.iload_n 3, 1) := by decide +kernel
theorem dX8_append_1 : decode cX8_append 1 = .ok (.iconst 1, 1) := by decide +kernel
theorem dX8_append_2 : decode cX8_append 2 = .ok (.isub, 1) := by decide +kernel
theorem dX8_append_3 : decode cX8_append 3 = .ok (.istore 4, 2) := by decide +kernel
theorem dX8_append_5 : decode cX8_append 5 = .ok (.iload 4, 2) := by decide +kernel
theorem dX8_append_7 : decode cX8_append 7 = .ok (.ifCond .lt 50, 3) := by decide +kernel
theorem dX8_append_10 : decode cX8_append 10 = .ok (.aload_n 0, 1) := by decide +kernel
theorem dX8_append_11 : decode cX8_append 11 = .ok (.getfield 13, 3) := by decide +kernel
theorem dX8_append_14 : decode cX8_append 14 = .ok (.sipush 400, 3) := by decide +kernel
theorem dX8_append_17 : decode cX8_append 17 = .ok (.if_icmp .ge 40, 3) := by decide +kernel
theorem dX8_append_20 : decode cX8_append 20 = .ok (.aload_n 0, 1) := by decide +kernel
theorem dX8_append_21 : decode cX8_append 21 = .ok (.getfield 9, 3) := by decide +kernel
theorem dX8_append_24 : decode cX8_append 24 = .ok (.aload_n 0, 1) := by decide +kernel
theorem dX8_append_25 : decode cX8_append 25 = .ok (.getfield 13, 3) := by decide +kernel
theorem dX8_append_28 : decode cX8_append 28 = .ok (.lload_n 1, 1) := by decide +kernel
theorem dX8_append_29 : decode cX8_append 29 = .ok (.bipush 8, 2) := by decide +kernel
theorem dX8_append_31 : decode cX8_append 31 = .ok (.iload 4, 2) := by decide +kernel
theorem dX8_append_33 : decode cX8_append 33 = .ok (.imul, 1) := by decide +kernel
theorem dX8_append_34 : decode cX8_append 34 = .ok (.lushr, 1) := by decide +kernel
theorem dX8_append_35 : decode cX8_append 35 = .ok (.l2i, 1) := by decide +kernel
theorem dX8_append_36 : decode cX8_append 36 = .ok (.sipush 255, 3) := by decide +kernel
theorem dX8_append_39 : decode cX8_append 39 = .ok (.iand, 1) := by decide +kernel
theorem dX8_append_40 : decode cX8_append 40 = .ok (.iastore, 1) := by decide +kernel
theorem dX8_append_41 : decode cX8_append 41 = .ok (.aload_n 0, 1) := by decide +kernel
theorem dX8_append_42 : decode cX8_append 42 = .ok (.dup, 1) := by decide +kernel
theorem dX8_append_43 : decode cX8_append 43 = .ok (.getfield 13, 3) := by decide +kernel
theorem dX8_append_46 : decode cX8_append 46 = .ok (.iconst 1, 1) := by decide +kernel
theorem dX8_append_47 : decode cX8_append 47 = .ok (.iadd, 1) := by decide +kernel
theorem dX8_append_48 : decode cX8_append 48 = .ok (.putfield 13, 3) := by decide +kernel
theorem dX8_append_51 : decode cX8_append 51 = .ok (.iinc 4 (-1), 3) := by decide +kernel
theorem dX8_append_54 : decode cX8_append 54 = .ok (.goto (-49), 3) := by decide +kernel
theorem dX8_append_57 : decode cX8_append 57 = .ok (.return_, 1) := by decide +kernel
theorem dX8_byteAt_0 : decode cX8_byteAt 0 = .ok (.iload_n 1, 1) := by decide +kernel
theorem dX8_byteAt_1 : decode cX8_byteAt 1 = .ok (.ifCond .lt 20, 3) := by decide +kernel
theorem dX8_byteAt_4 : decode cX8_byteAt 4 = .ok (.iload_n 1, 1) := by decide +kernel
theorem dX8_byteAt_5 : decode cX8_byteAt 5 = .ok (.aload_n 0, 1) := by decide +kernel
theorem dX8_byteAt_6 : decode cX8_byteAt 6 = .ok (.getfield 13, 3) := by decide +kernel
theorem dX8_byteAt_9 : decode cX8_byteAt 9 = .ok (.if_icmp .ge 12, 3) := by decide +kernel
theorem dX8_byteAt_12 : decode cX8_byteAt 12 = .ok (.aload_n 0, 1) := by decide +kernel
theorem dX8_byteAt_13 : decode cX8_byteAt 13 = .ok (.getfield 9, 3) := by decide +kernel
theorem dX8_byteAt_16 : decode cX8_byteAt 16 = .ok (.iload_n 1, 1) := by decide +kernel
theorem dX8_byteAt_17 : decode cX8_byteAt 17 = .ok (.iaload, 1) := by decide +kernel
theorem dX8_byteAt_18 : decode cX8_byteAt 18 = .ok (.goto 4, 3) := by decide +kernel
theorem dX8_byteAt_21 : decode cX8_byteAt 21 = .ok (.iconst 0, 1) := by decide +kernel
theorem dX8_byteAt_22 : decode cX8_byteAt 22 = .ok (.ireturn, 1) := by decide +kernel
theorem dX9_init_0 : decode cX9_init 0 = .ok (.aload_n 0, 1) := by decide +kernel
theorem dX9_init_1 : decode cX9_init 1 = .ok (.invokespecial 3, 3) := by decide +kernel
theorem dX9_init_4 : decode cX9_init 4 = .ok (.aload_n 0, 1) := by decide +kernel
theorem dX9_init_5 : decode cX9_init 5 = .ok (.sipush 401, 3) := by decide +kernel
theorem dX9_init_8 : decode cX9_init 8 = .ok (.newarray .int, 2) := by decide +kernel
theorem dX9_init_10 : decode cX9_init 10 = .ok (.putfield 11, 3) := by decide +kernel
theorem dX9_init_13 : decode cX9_init 13 = .ok (.aload_n 0, 1) := by decide +kernel
theorem dX9_init_14 : decode cX9_init 14 = .ok (.sipush 401, 3) := by decide +kernel
theorem dX9_init_17 : decode cX9_init 17 = .ok (.newarray .int, 2) := by decide +kernel
theorem dX9_init_19 : decode cX9_init 19 = .ok (.putfield 15, 3) := by decide +kernel
theorem dX9_init_22 : decode cX9_init 22 = .ok (.aload_n 0, 1) := by decide +kernel
theorem dX9_init_23 : decode cX9_init 23 = .ok (.sipush 401, 3) := by decide +kernel
theorem dX9_init_26 : decode cX9_init 26 = .ok (.newarray .int, 2) := by decide +kernel
theorem dX9_init_28 : decode cX9_init 28 = .ok (.putfield 18, 3) := by decide +kernel
theorem dX9_init_31 : decode cX9_init 31 = .ok (.aload_n 0, 1) := by decide +kernel
theorem dX9_init_32 : decode cX9_init 32 = .ok (.sipush 401, 3) := by decide +kernel
theorem dX9_init_35 : decode cX9_init 35 = .ok (.newarray .int, 2) := by decide +kernel
theorem dX9_init_37 : decode cX9_init 37 = .ok (.putfield 21, 3) := by decide +kernel
theorem dX9_init_40 : decode cX9_init 40 = .ok (.aload_n 0, 1) := by decide +kernel
theorem dX9_init_41 : decode cX9_init 41 = .ok (.sipush 401, 3) := by decide +kernel
theorem dX9_init_44 : decode cX9_init 44 = .ok (.newarray .int, 2) := by decide +kernel
theorem dX9_init_46 : decode cX9_init 46 = .ok (.putfield 24, 3) := by decide +kernel
theorem dX9_init_49 : decode cX9_init 49 = .ok (.aload_n 0, 1) := by decide +kernel
theorem dX9_init_50 : decode cX9_init 50 = .ok (.iconst 0, 1) := by decide +kernel
theorem dX9_init_51 : decode cX9_init 51 = .ok (.putfield 27, 3) := by decide +kernel
theorem dX9_init_54 : decode cX9_init 54 = .ok (.aload_n 0, 1) := by decide +kernel
theorem dX9_init_55 : decode cX9_init 55 = .ok (.iconst 0, 1) := by decide +kernel
theorem dX9_init_56 : decode cX9_init 56 = .ok (.putfield 31, 3) := by decide +kernel
theorem dX9_init_59 : decode cX9_init 59 = .ok (.return_, 1) := by decide +kernel
theorem dX9_cut_0 : decode cX9_cut 0 = .ok (.aload_n 0, 1) := by decide +kernel
theorem dX9_cut_1 : decode cX9_cut 1 = .ok (.iconst 0, 1) := by decide +kernel
theorem dX9_cut_2 : decode cX9_cut 2 = .ok (.putfield 27, 3) := by decide +kernel
theorem dX9_cut_5 : decode cX9_cut 5 = .ok (.aload_n 0, 1) := by decide +kernel
theorem dX9_cut_6 : decode cX9_cut 6 = .ok (.aload_n 1, 1) := by decide +kernel
theorem dX9_cut_7 : decode cX9_cut 7 = .ok (.getfield 34, 3) := by decide +kernel
theorem dX9_cut_10 : decode cX9_cut 10 = .ok (.putfield 31, 3) := by decide +kernel
theorem dX9_cut_13 : decode cX9_cut 13 = .ok (.iconst 0, 1) := by decide +kernel
theorem dX9_cut_14 : decode cX9_cut 14 = .ok (.istore_n 2, 1) := by decide +kernel
theorem dX9_cut_15 : decode cX9_cut 15 = .ok (.iconst 0, 1) := by decide +kernel
theorem dX9_cut_16 : decode cX9_cut 16 = .ok (.istore_n 3, 1) := by decide +kernel
theorem dX9_cut_17 : decode cX9_cut 17 = .ok (.iload_n 3, 1) := by decide +kernel
theorem dX9_cut_18 : decode cX9_cut 18 = .ok (.aload_n 0, 1) := by decide +kernel
theorem dX9_cut_19 : decode cX9_cut 19 = .ok (.getfield 31, 3) := by decide +kernel
theorem dX9_cut_22 : decode cX9_cut 22 = .ok (.if_icmp .ge 57, 3) := by decide +kernel
theorem dX9_cut_25 : decode cX9_cut 25 = .ok (.aload_n 1, 1) := by decide +kernel
theorem dX9_cut_26 : decode cX9_cut 26 = .ok (.iload_n 3, 1) := by decide +kernel
theorem dX9_cut_27 : decode cX9_cut 27 = .ok (.invokevirtual 37, 3) := by decide +kernel
theorem dX9_cut_30 : decode cX9_cut 30 = .ok (.invokestatic 41, 3) := by decide +kernel
theorem dX9_cut_33 : decode cX9_cut 33 = .ok (.istore 4, 2) := by decide +kernel
theorem dX9_cut_35 : decode cX9_cut 35 = .ok (.iload 4, 2) := by decide +kernel
theorem dX9_cut_37 : decode cX9_cut 37 = .ok (.ifCond .eq 33, 3) := by decide +kernel
theorem dX9_cut_40 : decode cX9_cut 40 = .ok (.aload_n 0, 1) := by decide +kernel
theorem dX9_cut_41 : decode cX9_cut 41 = .ok (.iload_n 3, 1) := by decide +kernel
theorem dX9_cut_42 : decode cX9_cut 42 = .ok (.iload 4, 2) := by decide +kernel
theorem dX9_cut_44 : decode cX9_cut 44 = .ok (.iload 4, 2) := by decide +kernel
theorem dX9_cut_46 : decode cX9_cut 46 = .ok (.iload_n 2, 1) := by decide +kernel
theorem dX9_cut_47 : decode cX9_cut 47 = .ok (.if_icmp .ne 19, 3) := by decide +kernel
theorem dX9_cut_50 : decode cX9_cut 50 = .ok (.iload 4, 2) := by decide +kernel
theorem dX9_cut_52 : decode cX9_cut 52 = .ok (.iconst 1, 1) := by decide +kernel
theorem dX9_cut_53 : decode cX9_cut 53 = .ok (.if_icmp .eq 9, 3) := by decide +kernel
theorem dX9_cut_56 : decode cX9_cut 56 = .ok (.iload 4, 2) := by decide +kernel
theorem dX9_cut_58 : decode cX9_cut 58 = .ok (.iconst 2, 1) := by decide +kernel
theorem dX9_cut_59 : decode cX9_cut 59 = .ok (.if_icmp .ne 7, 3) := by decide +kernel
theorem dX9_cut_62 : decode cX9_cut 62 = .ok (.iconst 1, 1) := by decide +kernel
theorem dX9_cut_63 : decode cX9_cut 63 = .ok (.goto 4, 3) := by decide +kernel
theorem dX9_cut_66 : decode cX9_cut 66 = .ok (.iconst 0, 1) := by decide +kernel
theorem dX9_cut_67 : decode cX9_cut 67 = .ok (.invokevirtual 44, 3) := by decide +kernel
theorem dX9_cut_70 : decode cX9_cut 70 = .ok (.iload 4, 2) := by decide +kernel
theorem dX9_cut_72 : decode cX9_cut 72 = .ok (.istore_n 2, 1) := by decide +kernel
theorem dX9_cut_73 : decode cX9_cut 73 = .ok (.iinc 3 1, 3) := by decide +kernel
theorem dX9_cut_76 : decode cX9_cut 76 = .ok (.goto (-59), 3) := by decide +kernel
theorem dX9_cut_79 : decode cX9_cut 79 = .ok (.iconst 0, 1) := by decide +kernel
theorem dX9_cut_80 : decode cX9_cut 80 = .ok (.istore_n 3, 1) := by decide +kernel
theorem dX9_cut_81 : decode cX9_cut 81 = .ok (.iload_n 3, 1) := by decide +kernel
theorem dX9_cut_82 : decode cX9_cut 82 = .ok (.aload_n 0, 1) := by decide +kernel
theorem dX9_cut_83 : decode cX9_cut 83 = .ok (.getfield 27, 3) := by decide +kernel
theorem dX9_cut_86 : decode cX9_cut 86 = .ok (.if_icmp .ge 15, 3) := by decide +kernel
theorem dX9_cut_89 : decode cX9_cut 89 = .ok (.aload_n 0, 1) := by decide +kernel
theorem dX9_cut_90 : decode cX9_cut 90 = .ok (.iload_n 3, 1) := by decide +kernel
theorem dX9_cut_91 : decode cX9_cut 91 = .ok (.aload_n 1, 1) := by decide +kernel
theorem dX9_cut_92 : decode cX9_cut 92 = .ok (.invokevirtual 48, 3) := by decide +kernel
theorem dX9_cut_95 : decode cX9_cut 95 = .ok (.iinc 3 1, 3) := by decide +kernel
theorem dX9_cut_98 : decode cX9_cut 98 = .ok (.goto (-17), 3) := by decide +kernel
theorem dX9_cut_101 : decode cX9_cut 101 = .ok (.return_, 1) := by decide +kernel
theorem dX9_place_0 : decode cX9_place 0 = .ok (.iload_n 3, 1) := by decide +kernel
theorem dX9_place_1 : decode cX9_place 1 = .ok (.ifCond .eq 28, 3) := by decide +kernel
theorem dX9_place_4 : decode cX9_place 4 = .ok (.aload_n 0, 1) := by decide +kernel
theorem dX9_place_5 : decode cX9_place 5 = .ok (.getfield 27, 3) := by decide +kernel
theorem dX9_place_8 : decode cX9_place 8 = .ok (.ifCond .le 21, 3) := by decide +kernel
theorem dX9_place_11 : decode cX9_place 11 = .ok (.aload_n 0, 1) := by decide +kernel
theorem dX9_place_12 : decode cX9_place 12 = .ok (.getfield 15, 3) := by decide +kernel
theorem dX9_place_15 : decode cX9_place 15 = .ok (.aload_n 0, 1) := by decide +kernel
theorem dX9_place_16 : decode cX9_place 16 = .ok (.getfield 27, 3) := by decide +kernel
theorem dX9_place_19 : decode cX9_place 19 = .ok (.iconst 1, 1) := by decide +kernel
theorem dX9_place_20 : decode cX9_place 20 = .ok (.isub, 1) := by decide +kernel
theorem dX9_place_21 : decode cX9_place 21 = .ok (.dup2, 1) := by decide +kernel
theorem dX9_place_22 : decode cX9_place 22 = .ok (.iaload, 1) := by decide +kernel
theorem dX9_place_23 : decode cX9_place 23 = .ok (.iconst 1, 1) := by decide +kernel
theorem dX9_place_24 : decode cX9_place 24 = .ok (.iadd, 1) := by decide +kernel
theorem dX9_place_25 : decode cX9_place 25 = .ok (.iastore, 1) := by decide +kernel
theorem dX9_place_26 : decode cX9_place 26 = .ok (.goto 53, 3) := by decide +kernel
theorem dX9_place_29 : decode cX9_place 29 = .ok (.aload_n 0, 1) := by decide +kernel
theorem dX9_place_30 : decode cX9_place 30 = .ok (.getfield 27, 3) := by decide +kernel
theorem dX9_place_33 : decode cX9_place 33 = .ok (.sipush 401, 3) := by decide +kernel
theorem dX9_place_36 : decode cX9_place 36 = .ok (.if_icmp .ge 43, 3) := by decide +kernel
theorem dX9_place_39 : decode cX9_place 39 = .ok (.aload_n 0, 1) := by decide +kernel
theorem dX9_place_40 : decode cX9_place 40 = .ok (.getfield 11, 3) := by decide +kernel
theorem dX9_place_43 : decode cX9_place 43 = .ok (.aload_n 0, 1) := by decide +kernel
theorem dX9_place_44 : decode cX9_place 44 = .ok (.getfield 27, 3) := by decide +kernel
theorem dX9_place_47 : decode cX9_place 47 = .ok (.iload_n 1, 1) := by decide +kernel
theorem dX9_place_48 : decode cX9_place 48 = .ok (.iastore, 1) := by decide +kernel
theorem dX9_place_49 : decode cX9_place 49 = .ok (.aload_n 0, 1) := by decide +kernel
theorem dX9_place_50 : decode cX9_place 50 = .ok (.getfield 15, 3) := by decide +kernel
theorem dX9_place_53 : decode cX9_place 53 = .ok (.aload_n 0, 1) := by decide +kernel
theorem dX9_place_54 : decode cX9_place 54 = .ok (.getfield 27, 3) := by decide +kernel
theorem dX9_place_57 : decode cX9_place 57 = .ok (.iconst 1, 1) := by decide +kernel
theorem dX9_place_58 : decode cX9_place 58 = .ok (.iastore, 1) := by decide +kernel
theorem dX9_place_59 : decode cX9_place 59 = .ok (.aload_n 0, 1) := by decide +kernel
theorem dX9_place_60 : decode cX9_place 60 = .ok (.getfield 18, 3) := by decide +kernel
theorem dX9_place_63 : decode cX9_place 63 = .ok (.aload_n 0, 1) := by decide +kernel
theorem dX9_place_64 : decode cX9_place 64 = .ok (.getfield 27, 3) := by decide +kernel
theorem dX9_place_67 : decode cX9_place 67 = .ok (.iload_n 2, 1) := by decide +kernel
theorem dX9_place_68 : decode cX9_place 68 = .ok (.iastore, 1) := by decide +kernel
theorem dX9_place_69 : decode cX9_place 69 = .ok (.aload_n 0, 1) := by decide +kernel
theorem dX9_place_70 : decode cX9_place 70 = .ok (.dup, 1) := by decide +kernel
theorem dX9_place_71 : decode cX9_place 71 = .ok (.getfield 27, 3) := by decide +kernel
theorem dX9_place_74 : decode cX9_place 74 = .ok (.iconst 1, 1) := by decide +kernel
theorem dX9_place_75 : decode cX9_place 75 = .ok (.iadd, 1) := by decide +kernel
theorem dX9_place_76 : decode cX9_place 76 = .ok (.putfield 27, 3) := by decide +kernel
theorem dX9_place_79 : decode cX9_place 79 = .ok (.return_, 1) := by decide +kernel
theorem dX9_name_0 : decode cX9_name 0 = .ok (.aload_n 0, 1) := by decide +kernel
theorem dX9_name_1 : decode cX9_name 1 = .ok (.getfield 24, 3) := by decide +kernel
theorem dX9_name_4 : decode cX9_name 4 = .ok (.iload_n 1, 1) := by decide +kernel
theorem dX9_name_5 : decode cX9_name 5 = .ok (.iconst 0, 1) := by decide +kernel
theorem dX9_name_6 : decode cX9_name 6 = .ok (.iastore, 1) := by decide +kernel
theorem dX9_name_7 : decode cX9_name 7 = .ok (.aload_n 0, 1) := by decide +kernel
theorem dX9_name_8 : decode cX9_name 8 = .ok (.getfield 18, 3) := by decide +kernel
theorem dX9_name_11 : decode cX9_name 11 = .ok (.iload_n 1, 1) := by decide +kernel
theorem dX9_name_12 : decode cX9_name 12 = .ok (.iaload, 1) := by decide +kernel
theorem dX9_name_13 : decode cX9_name 13 = .ok (.iconst 1, 1) := by decide +kernel
theorem dX9_name_14 : decode cX9_name 14 = .ok (.if_icmp .ne 32, 3) := by decide +kernel
theorem dX9_name_17 : decode cX9_name 17 = .ok (.aload_n 0, 1) := by decide +kernel
theorem dX9_name_18 : decode cX9_name 18 = .ok (.getfield 15, 3) := by decide +kernel
theorem dX9_name_21 : decode cX9_name 21 = .ok (.iload_n 1, 1) := by decide +kernel
theorem dX9_name_22 : decode cX9_name 22 = .ok (.iaload, 1) := by decide +kernel
theorem dX9_name_23 : decode cX9_name 23 = .ok (.iconst 4, 1) := by decide +kernel
theorem dX9_name_24 : decode cX9_name 24 = .ok (.if_icmp .gt 22, 3) := by decide +kernel
theorem dX9_name_27 : decode cX9_name 27 = .ok (.aload_n 0, 1) := by decide +kernel
theorem dX9_name_28 : decode cX9_name 28 = .ok (.getfield 21, 3) := by decide +kernel
theorem dX9_name_31 : decode cX9_name 31 = .ok (.iload_n 1, 1) := by decide +kernel
theorem dX9_name_32 : decode cX9_name 32 = .ok (.aload_n 0, 1) := by decide +kernel
theorem dX9_name_33 : decode cX9_name 33 = .ok (.iload_n 1, 1) := by decide +kernel
theorem dX9_name_34 : decode cX9_name 34 = .ok (.aload_n 2, 1) := by decide +kernel
theorem dX9_name_35 : decode cX9_name 35 = .ok (.sipush 256, 3) := by decide +kernel
theorem dX9_name_38 : decode cX9_name 38 = .ok (.iconst 0, 1) := by decide +kernel
theorem dX9_name_39 : decode cX9_name 39 = .ok (.invokevirtual 52, 3) := by decide +kernel
theorem dX9_name_42 : decode cX9_name 42 = .ok (.iastore, 1) := by decide +kernel
theorem dX9_name_43 : decode cX9_name 43 = .ok (.goto 70, 3) := by decide +kernel
theorem dX9_name_46 : decode cX9_name 46 = .ok (.aload_n 0, 1) := by decide +kernel
theorem dX9_name_47 : decode cX9_name 47 = .ok (.getfield 18, 3) := by decide +kernel
theorem dX9_name_50 : decode cX9_name 50 = .ok (.iload_n 1, 1) := by decide +kernel
theorem dX9_name_51 : decode cX9_name 51 = .ok (.iaload, 1) := by decide +kernel
theorem dX9_name_52 : decode cX9_name 52 = .ok (.iconst 2, 1) := by decide +kernel
theorem dX9_name_53 : decode cX9_name 53 = .ok (.if_icmp .ne 39, 3) := by decide +kernel
theorem dX9_name_56 : decode cX9_name 56 = .ok (.aload_n 0, 1) := by decide +kernel
theorem dX9_name_57 : decode cX9_name 57 = .ok (.getfield 15, 3) := by decide +kernel
theorem dX9_name_60 : decode cX9_name 60 = .ok (.iload_n 1, 1) := by decide +kernel
theorem dX9_name_61 : decode cX9_name 61 = .ok (.iaload, 1) := by decide +kernel
theorem dX9_name_62 : decode cX9_name 62 = .ok (.iconst 4, 1) := by decide +kernel
theorem dX9_name_63 : decode cX9_name 63 = .ok (.if_icmp .gt 29, 3) := by decide +kernel
theorem dX9_name_66 : decode cX9_name 66 = .ok (.aload_n 0, 1) := by decide +kernel
theorem dX9_name_67 : decode cX9_name 67 = .ok (.getfield 21, 3) := by decide +kernel
theorem dX9_name_70 : decode cX9_name 70 = .ok (.iload_n 1, 1) := by decide +kernel
theorem dX9_name_71 : decode cX9_name 71 = .ok (.iconst 1, 1) := by decide +kernel
theorem dX9_name_72 : decode cX9_name 72 = .ok (.iastore, 1) := by decide +kernel
theorem dX9_name_73 : decode cX9_name 73 = .ok (.aload_n 0, 1) := by decide +kernel
theorem dX9_name_74 : decode cX9_name 74 = .ok (.getfield 24, 3) := by decide +kernel
theorem dX9_name_77 : decode cX9_name 77 = .ok (.iload_n 1, 1) := by decide +kernel
theorem dX9_name_78 : decode cX9_name 78 = .ok (.aload_n 0, 1) := by decide +kernel
theorem dX9_name_79 : decode cX9_name 79 = .ok (.iload_n 1, 1) := by decide +kernel
theorem dX9_name_80 : decode cX9_name 80 = .ok (.aload_n 2, 1) := by decide +kernel
theorem dX9_name_81 : decode cX9_name 81 = .ok (.bipush 10, 2) := by decide +kernel
theorem dX9_name_83 : decode cX9_name 83 = .ok (.bipush 48, 2) := by decide +kernel
theorem dX9_name_85 : decode cX9_name 85 = .ok (.invokevirtual 52, 3) := by decide +kernel
theorem dX9_name_88 : decode cX9_name 88 = .ok (.iastore, 1) := by decide +kernel
theorem dX9_name_89 : decode cX9_name 89 = .ok (.goto 24, 3) := by decide +kernel
theorem dX9_name_92 : decode cX9_name 92 = .ok (.aload_n 0, 1) := by decide +kernel
theorem dX9_name_93 : decode cX9_name 93 = .ok (.getfield 21, 3) := by decide +kernel
theorem dX9_name_96 : decode cX9_name 96 = .ok (.iload_n 1, 1) := by decide +kernel
theorem dX9_name_97 : decode cX9_name 97 = .ok (.aload_n 0, 1) := by decide +kernel
theorem dX9_name_98 : decode cX9_name 98 = .ok (.getfield 18, 3) := by decide +kernel
theorem dX9_name_101 : decode cX9_name 101 = .ok (.iload_n 1, 1) := by decide +kernel
theorem dX9_name_102 : decode cX9_name 102 = .ok (.iaload, 1) := by decide +kernel
theorem dX9_name_103 : decode cX9_name 103 = .ok (.iconst 3, 1) := by decide +kernel
theorem dX9_name_104 : decode cX9_name 104 = .ok (.if_icmp .ne 7, 3) := by decide +kernel
theorem dX9_name_107 : decode cX9_name 107 = .ok (.iconst 2, 1) := by decide +kernel
theorem dX9_name_108 : decode cX9_name 108 = .ok (.goto 4, 3) := by decide +kernel
theorem dX9_name_111 : decode cX9_name 111 = .ok (.iconst 3, 1) := by decide +kernel
theorem dX9_name_112 : decode cX9_name 112 = .ok (.iastore, 1) := by decide +kernel
theorem dX9_name_113 : decode cX9_name 113 = .ok (.return_, 1) := by decide +kernel
theorem dX9_joined_0 : decode cX9_joined 0 = .ok (.iconst 0, 1) := by decide +kernel
theorem dX9_joined_1 : decode cX9_joined 1 = .ok (.istore 5, 2) := by decide +kernel
theorem dX9_joined_3 : decode cX9_joined 3 = .ok (.iconst 0, 1) := by decide +kernel
theorem dX9_joined_4 : decode cX9_joined 4 = .ok (.istore 6, 2) := by decide +kernel
theorem dX9_joined_6 : decode cX9_joined 6 = .ok (.iload 6, 2) := by decide +kernel
theorem dX9_joined_8 : decode cX9_joined 8 = .ok (.aload_n 0, 1) := by decide +kernel
theorem dX9_joined_9 : decode cX9_joined 9 = .ok (.getfield 15, 3) := by decide +kernel
theorem dX9_joined_12 : decode cX9_joined 12 = .ok (.iload_n 1, 1) := by decide +kernel
theorem dX9_joined_13 : decode cX9_joined 13 = .ok (.iaload, 1) := by decide +kernel
theorem dX9_joined_14 : decode cX9_joined 14 = .ok (.if_icmp .ge 32, 3) := by decide +kernel
theorem dX9_joined_17 : decode cX9_joined 17 = .ok (.iload 5, 2) := by decide +kernel
theorem dX9_joined_19 : decode cX9_joined 19 = .ok (.iload_n 3, 1) := by decide +kernel
theorem dX9_joined_20 : decode cX9_joined 20 = .ok (.imul, 1) := by decide +kernel
theorem dX9_joined_21 : decode cX9_joined 21 = .ok (.aload_n 2, 1) := by decide +kernel
theorem dX9_joined_22 : decode cX9_joined 22 = .ok (.aload_n 0, 1) := by decide +kernel
theorem dX9_joined_23 : decode cX9_joined 23 = .ok (.getfield 11, 3) := by decide +kernel
theorem dX9_joined_26 : decode cX9_joined 26 = .ok (.iload_n 1, 1) := by decide +kernel
theorem dX9_joined_27 : decode cX9_joined 27 = .ok (.iaload, 1) := by decide +kernel
theorem dX9_joined_28 : decode cX9_joined 28 = .ok (.iload 6, 2) := by decide +kernel
theorem dX9_joined_30 : decode cX9_joined 30 = .ok (.iadd, 1) := by decide +kernel
theorem dX9_joined_31 : decode cX9_joined 31 = .ok (.invokevirtual 37, 3) := by decide +kernel
theorem dX9_joined_34 : decode cX9_joined 34 = .ok (.iadd, 1) := by decide +kernel
theorem dX9_joined_35 : decode cX9_joined 35 = .ok (.iload 4, 2) := by decide +kernel
theorem dX9_joined_37 : decode cX9_joined 37 = .ok (.isub, 1) := by decide +kernel
theorem dX9_joined_38 : decode cX9_joined 38 = .ok (.istore 5, 2) := by decide +kernel
theorem dX9_joined_40 : decode cX9_joined 40 = .ok (.iinc 6 1, 3) := by decide +kernel
theorem dX9_joined_43 : decode cX9_joined 43 = .ok (.goto (-37), 3) := by decide +kernel
theorem dX9_joined_46 : decode cX9_joined 46 = .ok (.iload 5, 2) := by decide +kernel
theorem dX9_joined_48 : decode cX9_joined 48 = .ok (.ireturn, 1) := by decide +kernel
theorem dX9_sortOf_0 : decode cX9_sortOf 0 = .ok (.iload_n 0, 1) := by decide +kernel
theorem dX9_sortOf_1 : decode cX9_sortOf 1 = .ok (.bipush 32, 2) := by decide +kernel
theorem dX9_sortOf_3 : decode cX9_sortOf 3 = .ok (.if_icmp .eq 9, 3) := by decide +kernel
theorem dX9_sortOf_6 : decode cX9_sortOf 6 = .ok (.iload_n 0, 1) := by decide +kernel
theorem dX9_sortOf_7 : decode cX9_sortOf 7 = .ok (.bipush 10, 2) := by decide +kernel
theorem dX9_sortOf_9 : decode cX9_sortOf 9 = .ok (.if_icmp .ne 5, 3) := by decide +kernel
theorem dX9_sortOf_12 : decode cX9_sortOf 12 = .ok (.iconst 0, 1) := by decide +kernel
theorem dX9_sortOf_13 : decode cX9_sortOf 13 = .ok (.ireturn, 1) := by decide +kernel
theorem dX9_sortOf_14 : decode cX9_sortOf 14 = .ok (.iload_n 0, 1) := by decide +kernel
theorem dX9_sortOf_15 : decode cX9_sortOf 15 = .ok (.bipush 97, 2) := by decide +kernel
theorem dX9_sortOf_17 : decode cX9_sortOf 17 = .ok (.if_icmp .lt 11, 3) := by decide +kernel
theorem dX9_sortOf_20 : decode cX9_sortOf 20 = .ok (.iload_n 0, 1) := by decide +kernel
theorem dX9_sortOf_21 : decode cX9_sortOf 21 = .ok (.bipush 122, 2) := by decide +kernel
theorem dX9_sortOf_23 : decode cX9_sortOf 23 = .ok (.if_icmp .gt 5, 3) := by decide +kernel
theorem dX9_sortOf_26 : decode cX9_sortOf 26 = .ok (.iconst 1, 1) := by decide +kernel
theorem dX9_sortOf_27 : decode cX9_sortOf 27 = .ok (.ireturn, 1) := by decide +kernel
theorem dX9_sortOf_28 : decode cX9_sortOf 28 = .ok (.iload_n 0, 1) := by decide +kernel
theorem dX9_sortOf_29 : decode cX9_sortOf 29 = .ok (.bipush 48, 2) := by decide +kernel
theorem dX9_sortOf_31 : decode cX9_sortOf 31 = .ok (.if_icmp .lt 11, 3) := by decide +kernel
theorem dX9_sortOf_34 : decode cX9_sortOf 34 = .ok (.iload_n 0, 1) := by decide +kernel
theorem dX9_sortOf_35 : decode cX9_sortOf 35 = .ok (.bipush 57, 2) := by decide +kernel
theorem dX9_sortOf_37 : decode cX9_sortOf 37 = .ok (.if_icmp .gt 5, 3) := by decide +kernel
theorem dX9_sortOf_40 : decode cX9_sortOf 40 = .ok (.iconst 2, 1) := by decide +kernel
theorem dX9_sortOf_41 : decode cX9_sortOf 41 = .ok (.ireturn, 1) := by decide +kernel
theorem dX9_sortOf_42 : decode cX9_sortOf 42 = .ok (.iload_n 0, 1) := by decide +kernel
theorem dX9_sortOf_43 : decode cX9_sortOf 43 = .ok (.bipush 59, 2) := by decide +kernel
theorem dX9_sortOf_45 : decode cX9_sortOf 45 = .ok (.if_icmp .ne 7, 3) := by decide +kernel
theorem dX9_sortOf_48 : decode cX9_sortOf 48 = .ok (.iconst 3, 1) := by decide +kernel
theorem dX9_sortOf_49 : decode cX9_sortOf 49 = .ok (.goto 4, 3) := by decide +kernel
theorem dX9_sortOf_52 : decode cX9_sortOf 52 = .ok (.iconst 4, 1) := by decide +kernel
theorem dX9_sortOf_53 : decode cX9_sortOf 53 = .ok (.ireturn, 1) := by decide +kernel
theorem dX9_kindOf_0 : decode cX9_kindOf 0 = .ok (.iload_n 1, 1) := by decide +kernel
theorem dX9_kindOf_1 : decode cX9_kindOf 1 = .ok (.ifCond .lt 20, 3) := by decide +kernel
theorem dX9_kindOf_4 : decode cX9_kindOf 4 = .ok (.iload_n 1, 1) := by decide +kernel
theorem dX9_kindOf_5 : decode cX9_kindOf 5 = .ok (.aload_n 0, 1) := by decide +kernel
theorem dX9_kindOf_6 : decode cX9_kindOf 6 = .ok (.getfield 27, 3) := by decide +kernel
theorem dX9_kindOf_9 : decode cX9_kindOf 9 = .ok (.if_icmp .ge 12, 3) := by decide +kernel
theorem dX9_kindOf_12 : decode cX9_kindOf 12 = .ok (.aload_n 0, 1) := by decide +kernel
theorem dX9_kindOf_13 : decode cX9_kindOf 13 = .ok (.getfield 21, 3) := by decide +kernel
theorem dX9_kindOf_16 : decode cX9_kindOf 16 = .ok (.iload_n 1, 1) := by decide +kernel
theorem dX9_kindOf_17 : decode cX9_kindOf 17 = .ok (.iaload, 1) := by decide +kernel
theorem dX9_kindOf_18 : decode cX9_kindOf 18 = .ok (.goto 4, 3) := by decide +kernel
theorem dX9_kindOf_21 : decode cX9_kindOf 21 = .ok (.iconst 0, 1) := by decide +kernel
theorem dX9_kindOf_22 : decode cX9_kindOf 22 = .ok (.ireturn, 1) := by decide +kernel
theorem dX9_valueOf_0 : decode cX9_valueOf 0 = .ok (.iload_n 1, 1) := by decide +kernel
theorem dX9_valueOf_1 : decode cX9_valueOf 1 = .ok (.ifCond .lt 20, 3) := by decide +kernel
theorem dX9_valueOf_4 : decode cX9_valueOf 4 = .ok (.iload_n 1, 1) := by decide +kernel
theorem dX9_valueOf_5 : decode cX9_valueOf 5 = .ok (.aload_n 0, 1) := by decide +kernel
theorem dX9_valueOf_6 : decode cX9_valueOf 6 = .ok (.getfield 27, 3) := by decide +kernel
theorem dX9_valueOf_9 : decode cX9_valueOf 9 = .ok (.if_icmp .ge 12, 3) := by decide +kernel
theorem dX9_valueOf_12 : decode cX9_valueOf 12 = .ok (.aload_n 0, 1) := by decide +kernel
theorem dX9_valueOf_13 : decode cX9_valueOf 13 = .ok (.getfield 24, 3) := by decide +kernel
theorem dX9_valueOf_16 : decode cX9_valueOf 16 = .ok (.iload_n 1, 1) := by decide +kernel
theorem dX9_valueOf_17 : decode cX9_valueOf 17 = .ok (.iaload, 1) := by decide +kernel
theorem dX9_valueOf_18 : decode cX9_valueOf 18 = .ok (.goto 4, 3) := by decide +kernel
theorem dX9_valueOf_21 : decode cX9_valueOf 21 = .ok (.iconst 0, 1) := by decide +kernel
theorem dX9_valueOf_22 : decode cX9_valueOf 22 = .ok (.ireturn, 1) := by decide +kernel
theorem dX9_startOf_0 : decode cX9_startOf 0 = .ok (.iload_n 1, 1) := by decide +kernel
theorem dX9_startOf_1 : decode cX9_startOf 1 = .ok (.ifCond .lt 20, 3) := by decide +kernel
theorem dX9_startOf_4 : decode cX9_startOf 4 = .ok (.iload_n 1, 1) := by decide +kernel
theorem dX9_startOf_5 : decode cX9_startOf 5 = .ok (.aload_n 0, 1) := by decide +kernel
theorem dX9_startOf_6 : decode cX9_startOf 6 = .ok (.getfield 27, 3) := by decide +kernel
theorem dX9_startOf_9 : decode cX9_startOf 9 = .ok (.if_icmp .ge 12, 3) := by decide +kernel
theorem dX9_startOf_12 : decode cX9_startOf 12 = .ok (.aload_n 0, 1) := by decide +kernel
theorem dX9_startOf_13 : decode cX9_startOf 13 = .ok (.getfield 11, 3) := by decide +kernel
theorem dX9_startOf_16 : decode cX9_startOf 16 = .ok (.iload_n 1, 1) := by decide +kernel
theorem dX9_startOf_17 : decode cX9_startOf 17 = .ok (.iaload, 1) := by decide +kernel
theorem dX9_startOf_18 : decode cX9_startOf 18 = .ok (.goto 7, 3) := by decide +kernel
theorem dX9_startOf_21 : decode cX9_startOf 21 = .ok (.aload_n 0, 1) := by decide +kernel
theorem dX9_startOf_22 : decode cX9_startOf 22 = .ok (.getfield 31, 3) := by decide +kernel
theorem dX9_startOf_25 : decode cX9_startOf 25 = .ok (.ireturn, 1) := by decide +kernel
theorem dX10_init_0 : decode cX10_init 0 = .ok (.aload_n 0, 1) := by decide +kernel
theorem dX10_init_1 : decode cX10_init 1 = .ok (.invokespecial 1, 3) := by decide +kernel
theorem dX10_init_4 : decode cX10_init 4 = .ok (.aload_n 0, 1) := by decide +kernel
theorem dX10_init_5 : decode cX10_init 5 = .ok (.bipush 8, 2) := by decide +kernel
theorem dX10_init_7 : decode cX10_init 7 = .ok (.anewarray 9, 3) := by decide +kernel
theorem dX10_init_10 : decode cX10_init 10 = .ok (.putfield 11, 3) := by decide +kernel
theorem dX10_init_13 : decode cX10_init 13 = .ok (.aload_n 0, 1) := by decide +kernel
theorem dX10_init_14 : decode cX10_init 14 = .ok (.new 15, 3) := by decide +kernel
theorem dX10_init_17 : decode cX10_init 17 = .ok (.dup, 1) := by decide +kernel
theorem dX10_init_18 : decode cX10_init 18 = .ok (.invokespecial 17, 3) := by decide +kernel
theorem dX10_init_21 : decode cX10_init 21 = .ok (.putfield 18, 3) := by decide +kernel
theorem dX10_init_24 : decode cX10_init 24 = .ok (.aload_n 0, 1) := by decide +kernel
theorem dX10_init_25 : decode cX10_init 25 = .ok (.new 22, 3) := by decide +kernel
theorem dX10_init_28 : decode cX10_init 28 = .ok (.dup, 1) := by decide +kernel
theorem dX10_init_29 : decode cX10_init 29 = .ok (.invokespecial 24, 3) := by decide +kernel
theorem dX10_init_32 : decode cX10_init 32 = .ok (.putfield 25, 3) := by decide +kernel
theorem dX10_init_35 : decode cX10_init 35 = .ok (.aload_n 0, 1) := by decide +kernel
theorem dX10_init_36 : decode cX10_init 36 = .ok (.new 29, 3) := by decide +kernel
theorem dX10_init_39 : decode cX10_init 39 = .ok (.dup, 1) := by decide +kernel
theorem dX10_init_40 : decode cX10_init 40 = .ok (.invokespecial 31, 3) := by decide +kernel
theorem dX10_init_43 : decode cX10_init 43 = .ok (.putfield 32, 3) := by decide +kernel
theorem dX10_init_46 : decode cX10_init 46 = .ok (.aload_n 0, 1) := by decide +kernel
theorem dX10_init_47 : decode cX10_init 47 = .ok (.new 36, 3) := by decide +kernel
theorem dX10_init_50 : decode cX10_init 50 = .ok (.dup, 1) := by decide +kernel
theorem dX10_init_51 : decode cX10_init 51 = .ok (.invokespecial 38, 3) := by decide +kernel
theorem dX10_init_54 : decode cX10_init 54 = .ok (.putfield 39, 3) := by decide +kernel
theorem dX10_init_57 : decode cX10_init 57 = .ok (.aload_n 0, 1) := by decide +kernel
theorem dX10_init_58 : decode cX10_init 58 = .ok (.new 43, 3) := by decide +kernel
theorem dX10_init_61 : decode cX10_init 61 = .ok (.dup, 1) := by decide +kernel
theorem dX10_init_62 : decode cX10_init 62 = .ok (.invokespecial 45, 3) := by decide +kernel
theorem dX10_init_65 : decode cX10_init 65 = .ok (.putfield 46, 3) := by decide +kernel
theorem dX10_init_68 : decode cX10_init 68 = .ok (.aload_n 0, 1) := by decide +kernel
theorem dX10_init_69 : decode cX10_init 69 = .ok (.new 50, 3) := by decide +kernel
theorem dX10_init_72 : decode cX10_init 72 = .ok (.dup, 1) := by decide +kernel
theorem dX10_init_73 : decode cX10_init 73 = .ok (.invokespecial 52, 3) := by decide +kernel
theorem dX10_init_76 : decode cX10_init 76 = .ok (.putfield 53, 3) := by decide +kernel
theorem dX10_init_79 : decode cX10_init 79 = .ok (.aload_n 0, 1) := by decide +kernel
theorem dX10_init_80 : decode cX10_init 80 = .ok (.new 50, 3) := by decide +kernel
theorem dX10_init_83 : decode cX10_init 83 = .ok (.dup, 1) := by decide +kernel
theorem dX10_init_84 : decode cX10_init 84 = .ok (.invokespecial 52, 3) := by decide +kernel
theorem dX10_init_87 : decode cX10_init 87 = .ok (.putfield 57, 3) := by decide +kernel
theorem dX10_init_90 : decode cX10_init 90 = .ok (.aload_n 0, 1) := by decide +kernel
theorem dX10_init_91 : decode cX10_init 91 = .ok (.iconst 0, 1) := by decide +kernel
theorem dX10_init_92 : decode cX10_init 92 = .ok (.putfield 60, 3) := by decide +kernel
theorem dX10_init_95 : decode cX10_init 95 = .ok (.aload_n 0, 1) := by decide +kernel
theorem dX10_init_96 : decode cX10_init 96 = .ok (.iconst 0, 1) := by decide +kernel
theorem dX10_init_97 : decode cX10_init 97 = .ok (.invokestatic 64, 3) := by decide +kernel
theorem dX10_init_100 : decode cX10_init 100 = .ok (.putfield 70, 3) := by decide +kernel
theorem dX10_init_103 : decode cX10_init 103 = .ok (.aload_n 0, 1) := by decide +kernel
theorem dX10_init_104 : decode cX10_init 104 = .ok (.iconst 0, 1) := by decide +kernel
theorem dX10_init_105 : decode cX10_init 105 = .ok (.putfield 74, 3) := by decide +kernel
theorem dX10_init_108 : decode cX10_init 108 = .ok (.aload_n 0, 1) := by decide +kernel
theorem dX10_init_109 : decode cX10_init 109 = .ok (.iconst 0, 1) := by decide +kernel
theorem dX10_init_110 : decode cX10_init 110 = .ok (.putfield 77, 3) := by decide +kernel
theorem dX10_init_113 : decode cX10_init 113 = .ok (.iconst 0, 1) := by decide +kernel
theorem dX10_init_114 : decode cX10_init 114 = .ok (.istore_n 1, 1) := by decide +kernel
theorem dX10_init_115 : decode cX10_init 115 = .ok (.iload_n 1, 1) := by decide +kernel
theorem dX10_init_116 : decode cX10_init 116 = .ok (.bipush 8, 2) := by decide +kernel
theorem dX10_init_118 : decode cX10_init 118 = .ok (.if_icmp .ge 22, 3) := by decide +kernel
theorem dX10_init_121 : decode cX10_init 121 = .ok (.aload_n 0, 1) := by decide +kernel
theorem dX10_init_122 : decode cX10_init 122 = .ok (.getfield 11, 3) := by decide +kernel
theorem dX10_init_125 : decode cX10_init 125 = .ok (.iload_n 1, 1) := by decide +kernel
theorem dX10_init_126 : decode cX10_init 126 = .ok (.new 9, 3) := by decide +kernel
theorem dX10_init_129 : decode cX10_init 129 = .ok (.dup, 1) := by decide +kernel
theorem dX10_init_130 : decode cX10_init 130 = .ok (.invokespecial 80, 3) := by decide +kernel
theorem dX10_init_133 : decode cX10_init 133 = .ok (.aastore, 1) := by decide +kernel
theorem dX10_init_134 : decode cX10_init 134 = .ok (.iinc 1 1, 3) := by decide +kernel
theorem dX10_init_137 : decode cX10_init 137 = .ok (.goto (-22), 3) := by decide +kernel
theorem dX10_init_140 : decode cX10_init 140 = .ok (.return_, 1) := by decide +kernel
theorem dX10_sheet_0 : decode cX10_sheet 0 = .ok (.iload_n 1, 1) := by decide +kernel
theorem dX10_sheet_1 : decode cX10_sheet 1 = .ok (.invokestatic 81, 3) := by decide +kernel
theorem dX10_sheet_4 : decode cX10_sheet 4 = .ok (.ifCond .eq 16, 3) := by decide +kernel
theorem dX10_sheet_7 : decode cX10_sheet 7 = .ok (.iload_n 2, 1) := by decide +kernel
theorem dX10_sheet_8 : decode cX10_sheet 8 = .ok (.invokestatic 85, 3) := by decide +kernel
theorem dX10_sheet_11 : decode cX10_sheet 11 = .ok (.ifCond .eq 9, 3) := by decide +kernel
theorem dX10_sheet_14 : decode cX10_sheet 14 = .ok (.iload_n 3, 1) := by decide +kernel
theorem dX10_sheet_15 : decode cX10_sheet 15 = .ok (.bipush 60, 2) := by decide +kernel
theorem dX10_sheet_17 : decode cX10_sheet 17 = .ok (.if_icmp .le 6, 3) := by decide +kernel
theorem dX10_sheet_20 : decode cX10_sheet 20 = .ok (.ldc 88, 2) := by decide +kernel
theorem dX10_sheet_22 : decode cX10_sheet 22 = .ok (.ireturn, 1) := by decide +kernel
theorem dX10_sheet_23 : decode cX10_sheet 23 = .ok (.iload_n 3, 1) := by decide +kernel
theorem dX10_sheet_24 : decode cX10_sheet 24 = .ok (.ifCond .ge 9, 3) := by decide +kernel
theorem dX10_sheet_27 : decode cX10_sheet 27 = .ok (.aload_n 0, 1) := by decide +kernel
theorem dX10_sheet_28 : decode cX10_sheet 28 = .ok (.iconst 4, 1) := by decide +kernel
theorem dX10_sheet_29 : decode cX10_sheet 29 = .ok (.invokevirtual 89, 3) := by decide +kernel
theorem dX10_sheet_32 : decode cX10_sheet 32 = .ok (.ireturn, 1) := by decide +kernel
theorem dX10_sheet_33 : decode cX10_sheet 33 = .ok (.aload_n 0, 1) := by decide +kernel
theorem dX10_sheet_34 : decode cX10_sheet 34 = .ok (.getfield 11, 3) := by decide +kernel
theorem dX10_sheet_37 : decode cX10_sheet 37 = .ok (.iload_n 1, 1) := by decide +kernel
theorem dX10_sheet_38 : decode cX10_sheet 38 = .ok (.aaload, 1) := by decide +kernel
theorem dX10_sheet_39 : decode cX10_sheet 39 = .ok (.iload_n 2, 1) := by decide +kernel
theorem dX10_sheet_40 : decode cX10_sheet 40 = .ok (.iload_n 3, 1) := by decide +kernel
theorem dX10_sheet_41 : decode cX10_sheet 41 = .ok (.invokevirtual 93, 3) := by decide +kernel
theorem dX10_sheet_44 : decode cX10_sheet 44 = .ok (.aload_n 0, 1) := by decide +kernel
theorem dX10_sheet_45 : decode cX10_sheet 45 = .ok (.iload_n 3, 1) := by decide +kernel
theorem dX10_sheet_46 : decode cX10_sheet 46 = .ok (.invokevirtual 97, 3) := by decide +kernel
theorem dX10_sheet_49 : decode cX10_sheet 49 = .ok (.ireturn, 1) := by decide +kernel
theorem dX10_set_0 : decode cX10_set 0 = .ok (.iload_n 1, 1) := by decide +kernel
theorem dX10_set_1 : decode cX10_set 1 = .ok (.invokestatic 81, 3) := by decide +kernel
theorem dX10_set_4 : decode cX10_set 4 = .ok (.ifCond .ne 6, 3) := by decide +kernel
theorem dX10_set_7 : decode cX10_set 7 = .ok (.ldc 88, 2) := by decide +kernel
theorem dX10_set_9 : decode cX10_set 9 = .ok (.ireturn, 1) := by decide +kernel
theorem dX10_set_10 : decode cX10_set 10 = .ok (.aload_n 0, 1) := by decide +kernel
theorem dX10_set_11 : decode cX10_set 11 = .ok (.getfield 11, 3) := by decide +kernel
theorem dX10_set_14 : decode cX10_set 14 = .ok (.iload_n 1, 1) := by decide +kernel
theorem dX10_set_15 : decode cX10_set 15 = .ok (.aaload, 1) := by decide +kernel
theorem dX10_set_16 : decode cX10_set 16 = .ok (.iload_n 2, 1) := by decide +kernel
theorem dX10_set_17 : decode cX10_set 17 = .ok (.iconst 1, 1) := by decide +kernel
theorem dX10_set_18 : decode cX10_set 18 = .ok (.invokevirtual 100, 3) := by decide +kernel
theorem dX10_set_21 : decode cX10_set 21 = .ok (.istore 4, 2) := by decide +kernel
theorem dX10_set_23 : decode cX10_set 23 = .ok (.iload 4, 2) := by decide +kernel
theorem dX10_set_25 : decode cX10_set 25 = .ok (.ifCond .eq 10, 3) := by decide +kernel
theorem dX10_set_28 : decode cX10_set 28 = .ok (.aload_n 0, 1) := by decide +kernel
theorem dX10_set_29 : decode cX10_set 29 = .ok (.iload 4, 2) := by decide +kernel
theorem dX10_set_31 : decode cX10_set 31 = .ok (.invokevirtual 89, 3) := by decide +kernel
theorem dX10_set_34 : decode cX10_set 34 = .ok (.ireturn, 1) := by decide +kernel
theorem dX10_set_35 : decode cX10_set 35 = .ok (.aload_n 0, 1) := by decide +kernel
theorem dX10_set_36 : decode cX10_set 36 = .ok (.aload_n 0, 1) := by decide +kernel
theorem dX10_set_37 : decode cX10_set 37 = .ok (.getfield 11, 3) := by decide +kernel
theorem dX10_set_40 : decode cX10_set 40 = .ok (.iload_n 1, 1) := by decide +kernel
theorem dX10_set_41 : decode cX10_set 41 = .ok (.aaload, 1) := by decide +kernel
theorem dX10_set_42 : decode cX10_set 42 = .ok (.iload_n 2, 1) := by decide +kernel
theorem dX10_set_43 : decode cX10_set 43 = .ok (.iload_n 3, 1) := by decide +kernel
theorem dX10_set_44 : decode cX10_set 44 = .ok (.invokevirtual 104, 3) := by decide +kernel
theorem dX10_set_47 : decode cX10_set 47 = .ok (.invokevirtual 97, 3) := by decide +kernel
theorem dX10_set_50 : decode cX10_set 50 = .ok (.ireturn, 1) := by decide +kernel
theorem dX10_copy_0 : decode cX10_copy 0 = .ok (.iload_n 1, 1) := by decide +kernel
theorem dX10_copy_1 : decode cX10_copy 1 = .ok (.invokestatic 81, 3) := by decide +kernel
theorem dX10_copy_4 : decode cX10_copy 4 = .ok (.ifCond .eq 10, 3) := by decide +kernel
theorem dX10_copy_7 : decode cX10_copy 7 = .ok (.iload_n 3, 1) := by decide +kernel
theorem dX10_copy_8 : decode cX10_copy 8 = .ok (.invokestatic 81, 3) := by decide +kernel
theorem dX10_copy_11 : decode cX10_copy 11 = .ok (.ifCond .ne 6, 3) := by decide +kernel
theorem dX10_copy_14 : decode cX10_copy 14 = .ok (.ldc 88, 2) := by decide +kernel
theorem dX10_copy_16 : decode cX10_copy 16 = .ok (.ireturn, 1) := by decide +kernel
theorem dX10_copy_17 : decode cX10_copy 17 = .ok (.aload_n 0, 1) := by decide +kernel
theorem dX10_copy_18 : decode cX10_copy 18 = .ok (.getfield 11, 3) := by decide +kernel
theorem dX10_copy_21 : decode cX10_copy 21 = .ok (.iload_n 1, 1) := by decide +kernel
theorem dX10_copy_22 : decode cX10_copy 22 = .ok (.aaload, 1) := by decide +kernel
theorem dX10_copy_23 : decode cX10_copy 23 = .ok (.astore 6, 2) := by decide +kernel
theorem dX10_copy_25 : decode cX10_copy 25 = .ok (.aload_n 0, 1) := by decide +kernel
theorem dX10_copy_26 : decode cX10_copy 26 = .ok (.getfield 11, 3) := by decide +kernel
theorem dX10_copy_29 : decode cX10_copy 29 = .ok (.iload_n 3, 1) := by decide +kernel
theorem dX10_copy_30 : decode cX10_copy 30 = .ok (.aaload, 1) := by decide +kernel
theorem dX10_copy_31 : decode cX10_copy 31 = .ok (.astore 7, 2) := by decide +kernel
theorem dX10_copy_33 : decode cX10_copy 33 = .ok (.aload 6, 2) := by decide +kernel
theorem dX10_copy_35 : decode cX10_copy 35 = .ok (.invokevirtual 107, 3) := by decide +kernel
theorem dX10_copy_38 : decode cX10_copy 38 = .ok (.ifCond .ne 11, 3) := by decide +kernel
theorem dX10_copy_41 : decode cX10_copy 41 = .ok (.aload 7, 2) := by decide +kernel
theorem dX10_copy_43 : decode cX10_copy 43 = .ok (.invokevirtual 107, 3) := by decide +kernel
theorem dX10_copy_46 : decode cX10_copy 46 = .ok (.ifCond .eq 9, 3) := by decide +kernel
theorem dX10_copy_49 : decode cX10_copy 49 = .ok (.aload_n 0, 1) := by decide +kernel
theorem dX10_copy_50 : decode cX10_copy 50 = .ok (.iconst 1, 1) := by decide +kernel
theorem dX10_copy_51 : decode cX10_copy 51 = .ok (.invokevirtual 89, 3) := by decide +kernel
theorem dX10_copy_54 : decode cX10_copy 54 = .ok (.ireturn, 1) := by decide +kernel
theorem dX10_copy_55 : decode cX10_copy 55 = .ok (.aload 6, 2) := by decide +kernel
theorem dX10_copy_57 : decode cX10_copy 57 = .ok (.getfield 111, 3) := by decide +kernel
theorem dX10_copy_60 : decode cX10_copy 60 = .ok (.aload 7, 2) := by decide +kernel
theorem dX10_copy_62 : decode cX10_copy 62 = .ok (.getfield 111, 3) := by decide +kernel
theorem dX10_copy_65 : decode cX10_copy 65 = .ok (.if_icmp .eq 9, 3) := by decide +kernel
theorem dX10_copy_68 : decode cX10_copy 68 = .ok (.aload_n 0, 1) := by decide +kernel
theorem dX10_copy_69 : decode cX10_copy 69 = .ok (.iconst 5, 1) := by decide +kernel
theorem dX10_copy_70 : decode cX10_copy 70 = .ok (.invokevirtual 89, 3) := by decide +kernel
theorem dX10_copy_73 : decode cX10_copy 73 = .ok (.ireturn, 1) := by decide +kernel
theorem dX10_copy_74 : decode cX10_copy 74 = .ok (.aload 6, 2) := by decide +kernel
theorem dX10_copy_76 : decode cX10_copy 76 = .ok (.iload_n 2, 1) := by decide +kernel
theorem dX10_copy_77 : decode cX10_copy 77 = .ok (.iload 5, 2) := by decide +kernel
theorem dX10_copy_79 : decode cX10_copy 79 = .ok (.invokevirtual 114, 3) := by decide +kernel
theorem dX10_copy_82 : decode cX10_copy 82 = .ok (.ifCond .eq 15, 3) := by decide +kernel
theorem dX10_copy_85 : decode cX10_copy 85 = .ok (.aload 7, 2) := by decide +kernel
theorem dX10_copy_87 : decode cX10_copy 87 = .ok (.iload 4, 2) := by decide +kernel
theorem dX10_copy_89 : decode cX10_copy 89 = .ok (.iload 5, 2) := by decide +kernel
theorem dX10_copy_91 : decode cX10_copy 91 = .ok (.invokevirtual 114, 3) := by decide +kernel
theorem dX10_copy_94 : decode cX10_copy 94 = .ok (.ifCond .ne 9, 3) := by decide +kernel
theorem dX10_copy_97 : decode cX10_copy 97 = .ok (.aload_n 0, 1) := by decide +kernel
theorem dX10_copy_98 : decode cX10_copy 98 = .ok (.iconst 2, 1) := by decide +kernel
theorem dX10_copy_99 : decode cX10_copy 99 = .ok (.invokevirtual 89, 3) := by decide +kernel
theorem dX10_copy_102 : decode cX10_copy 102 = .ok (.ireturn, 1) := by decide +kernel
theorem dX10_copy_103 : decode cX10_copy 103 = .ok (.aload 6, 2) := by decide +kernel
theorem dX10_copy_105 : decode cX10_copy 105 = .ok (.getfield 118, 3) := by decide +kernel
theorem dX10_copy_108 : decode cX10_copy 108 = .ok (.iload_n 2, 1) := by decide +kernel
theorem dX10_copy_109 : decode cX10_copy 109 = .ok (.aload 7, 2) := by decide +kernel
theorem dX10_copy_111 : decode cX10_copy 111 = .ok (.getfield 118, 3) := by decide +kernel
theorem dX10_copy_114 : decode cX10_copy 114 = .ok (.iload 4, 2) := by decide +kernel
theorem dX10_copy_116 : decode cX10_copy 116 = .ok (.iload 5, 2) := by decide +kernel
theorem dX10_copy_118 : decode cX10_copy 118 = .ok (.invokestatic 122, 3) := by decide +kernel
theorem dX10_copy_121 : decode cX10_copy 121 = .ok (.aload_n 0, 1) := by decide +kernel
theorem dX10_copy_122 : decode cX10_copy 122 = .ok (.iload 5, 2) := by decide +kernel
theorem dX10_copy_124 : decode cX10_copy 124 = .ok (.invokevirtual 97, 3) := by decide +kernel
theorem dX10_copy_127 : decode cX10_copy 127 = .ok (.ireturn, 1) := by decide +kernel
theorem dX10_drop_0 : decode cX10_drop 0 = .ok (.iload_n 1, 1) := by decide +kernel
theorem dX10_drop_1 : decode cX10_drop 1 = .ok (.invokestatic 81, 3) := by decide +kernel
theorem dX10_drop_4 : decode cX10_drop 4 = .ok (.ifCond .ne 6, 3) := by decide +kernel
theorem dX10_drop_7 : decode cX10_drop 7 = .ok (.ldc 88, 2) := by decide +kernel
theorem dX10_drop_9 : decode cX10_drop 9 = .ok (.ireturn, 1) := by decide +kernel
theorem dX10_drop_10 : decode cX10_drop 10 = .ok (.aload_n 0, 1) := by decide +kernel
theorem dX10_drop_11 : decode cX10_drop 11 = .ok (.getfield 11, 3) := by decide +kernel
theorem dX10_drop_14 : decode cX10_drop 14 = .ok (.iload_n 1, 1) := by decide +kernel
theorem dX10_drop_15 : decode cX10_drop 15 = .ok (.aaload, 1) := by decide +kernel
theorem dX10_drop_16 : decode cX10_drop 16 = .ok (.invokevirtual 107, 3) := by decide +kernel
theorem dX10_drop_19 : decode cX10_drop 19 = .ok (.ifCond .eq 9, 3) := by decide +kernel
theorem dX10_drop_22 : decode cX10_drop 22 = .ok (.aload_n 0, 1) := by decide +kernel
theorem dX10_drop_23 : decode cX10_drop 23 = .ok (.iconst 1, 1) := by decide +kernel
theorem dX10_drop_24 : decode cX10_drop 24 = .ok (.invokevirtual 89, 3) := by decide +kernel
theorem dX10_drop_27 : decode cX10_drop 27 = .ok (.ireturn, 1) := by decide +kernel
theorem dX10_drop_28 : decode cX10_drop 28 = .ok (.aload_n 0, 1) := by decide +kernel
theorem dX10_drop_29 : decode cX10_drop 29 = .ok (.getfield 11, 3) := by decide +kernel
theorem dX10_drop_32 : decode cX10_drop 32 = .ok (.iload_n 1, 1) := by decide +kernel
theorem dX10_drop_33 : decode cX10_drop 33 = .ok (.aaload, 1) := by decide +kernel
theorem dX10_drop_34 : decode cX10_drop 34 = .ok (.getfield 128, 3) := by decide +kernel
theorem dX10_drop_37 : decode cX10_drop 37 = .ok (.istore_n 2, 1) := by decide +kernel
theorem dX10_drop_38 : decode cX10_drop 38 = .ok (.aload_n 0, 1) := by decide +kernel
theorem dX10_drop_39 : decode cX10_drop 39 = .ok (.getfield 11, 3) := by decide +kernel
theorem dX10_drop_42 : decode cX10_drop 42 = .ok (.iload_n 1, 1) := by decide +kernel
theorem dX10_drop_43 : decode cX10_drop 43 = .ok (.aaload, 1) := by decide +kernel
theorem dX10_drop_44 : decode cX10_drop 44 = .ok (.invokevirtual 131, 3) := by decide +kernel
theorem dX10_drop_47 : decode cX10_drop 47 = .ok (.aload_n 0, 1) := by decide +kernel
theorem dX10_drop_48 : decode cX10_drop 48 = .ok (.iload_n 2, 1) := by decide +kernel
theorem dX10_drop_49 : decode cX10_drop 49 = .ok (.invokevirtual 97, 3) := by decide +kernel
theorem dX10_drop_52 : decode cX10_drop 52 = .ok (.ireturn, 1) := by decide +kernel
theorem dX10_cast_0 : decode cX10_cast 0 = .ok (.iload_n 1, 1) := by decide +kernel
theorem dX10_cast_1 : decode cX10_cast 1 = .ok (.invokestatic 81, 3) := by decide +kernel
theorem dX10_cast_4 : decode cX10_cast 4 = .ok (.ifCond .ne 6, 3) := by decide +kernel
theorem dX10_cast_7 : decode cX10_cast 7 = .ok (.ldc 88, 2) := by decide +kernel
theorem dX10_cast_9 : decode cX10_cast 9 = .ok (.ireturn, 1) := by decide +kernel
theorem dX10_cast_10 : decode cX10_cast 10 = .ok (.aload_n 0, 1) := by decide +kernel
theorem dX10_cast_11 : decode cX10_cast 11 = .ok (.getfield 11, 3) := by decide +kernel
theorem dX10_cast_14 : decode cX10_cast 14 = .ok (.iload_n 1, 1) := by decide +kernel
theorem dX10_cast_15 : decode cX10_cast 15 = .ok (.aaload, 1) := by decide +kernel
theorem dX10_cast_16 : decode cX10_cast 16 = .ok (.iload_n 2, 1) := by decide +kernel
theorem dX10_cast_17 : decode cX10_cast 17 = .ok (.bipush 16, 2) := by decide +kernel
theorem dX10_cast_19 : decode cX10_cast 19 = .ok (.invokevirtual 100, 3) := by decide +kernel
theorem dX10_cast_22 : decode cX10_cast 22 = .ok (.istore_n 3, 1) := by decide +kernel
theorem dX10_cast_23 : decode cX10_cast 23 = .ok (.iload_n 3, 1) := by decide +kernel
theorem dX10_cast_24 : decode cX10_cast 24 = .ok (.ifCond .eq 9, 3) := by decide +kernel
theorem dX10_cast_27 : decode cX10_cast 27 = .ok (.aload_n 0, 1) := by decide +kernel
theorem dX10_cast_28 : decode cX10_cast 28 = .ok (.iload_n 3, 1) := by decide +kernel
theorem dX10_cast_29 : decode cX10_cast 29 = .ok (.invokevirtual 89, 3) := by decide +kernel
theorem dX10_cast_32 : decode cX10_cast 32 = .ok (.ireturn, 1) := by decide +kernel
theorem dX10_cast_33 : decode cX10_cast 33 = .ok (.aload_n 0, 1) := by decide +kernel
theorem dX10_cast_34 : decode cX10_cast 34 = .ok (.getfield 11, 3) := by decide +kernel
theorem dX10_cast_37 : decode cX10_cast 37 = .ok (.iload_n 1, 1) := by decide +kernel
theorem dX10_cast_38 : decode cX10_cast 38 = .ok (.aaload, 1) := by decide +kernel
theorem dX10_cast_39 : decode cX10_cast 39 = .ok (.iload_n 2, 1) := by decide +kernel
theorem dX10_cast_40 : decode cX10_cast 40 = .ok (.bipush 16, 2) := by decide +kernel
theorem dX10_cast_42 : decode cX10_cast 42 = .ok (.iconst 0, 1) := by decide +kernel
theorem dX10_cast_43 : decode cX10_cast 43 = .ok (.ldc 134, 2) := by decide +kernel
theorem dX10_cast_45 : decode cX10_cast 45 = .ok (.invokevirtual 135, 3) := by decide +kernel
theorem dX10_cast_48 : decode cX10_cast 48 = .ok (.ifCond .ne 6, 3) := by decide +kernel
theorem dX10_cast_51 : decode cX10_cast 51 = .ok (.ldc 88, 2) := by decide +kernel
theorem dX10_cast_53 : decode cX10_cast 53 = .ok (.ireturn, 1) := by decide +kernel
theorem dX10_cast_54 : decode cX10_cast 54 = .ok (.aload_n 0, 1) := by decide +kernel
theorem dX10_cast_55 : decode cX10_cast 55 = .ok (.aload_n 0, 1) := by decide +kernel
theorem dX10_cast_56 : decode cX10_cast 56 = .ok (.getfield 11, 3) := by decide +kernel
theorem dX10_cast_59 : decode cX10_cast 59 = .ok (.iload_n 1, 1) := by decide +kernel
theorem dX10_cast_60 : decode cX10_cast 60 = .ok (.aaload, 1) := by decide +kernel
theorem dX10_cast_61 : decode cX10_cast 61 = .ok (.iload_n 2, 1) := by decide +kernel
theorem dX10_cast_62 : decode cX10_cast 62 = .ok (.invokevirtual 139, 3) := by decide +kernel
theorem dX10_cast_65 : decode cX10_cast 65 = .ok (.invokevirtual 142, 3) := by decide +kernel
theorem dX10_cast_68 : decode cX10_cast 68 = .ok (.aload_n 0, 1) := by decide +kernel
theorem dX10_cast_69 : decode cX10_cast 69 = .ok (.aload_n 0, 1) := by decide +kernel
theorem dX10_cast_70 : decode cX10_cast 70 = .ok (.getfield 60, 3) := by decide +kernel
theorem dX10_cast_73 : decode cX10_cast 73 = .ok (.invokevirtual 97, 3) := by decide +kernel
theorem dX10_cast_76 : decode cX10_cast 76 = .ok (.ireturn, 1) := by decide +kernel
theorem dX10_chart_0 : decode cX10_chart 0 = .ok (.iload_n 1, 1) := by decide +kernel
theorem dX10_chart_1 : decode cX10_chart 1 = .ok (.ifCond .lt 9, 3) := by decide +kernel
theorem dX10_chart_4 : decode cX10_chart 4 = .ok (.iload_n 1, 1) := by decide +kernel
theorem dX10_chart_5 : decode cX10_chart 5 = .ok (.ldc 146, 2) := by decide +kernel
theorem dX10_chart_7 : decode cX10_chart 7 = .ok (.if_icmp .lt 6, 3) := by decide +kernel
theorem dX10_chart_10 : decode cX10_chart 10 = .ok (.ldc 88, 2) := by decide +kernel
theorem dX10_chart_12 : decode cX10_chart 12 = .ok (.ireturn, 1) := by decide +kernel
theorem dX10_chart_13 : decode cX10_chart 13 = .ok (.aload_n 0, 1) := by decide +kernel
theorem dX10_chart_14 : decode cX10_chart 14 = .ok (.getfield 60, 3) := by decide +kernel
theorem dX10_chart_17 : decode cX10_chart 17 = .ok (.istore_n 2, 1) := by decide +kernel
theorem dX10_chart_18 : decode cX10_chart 18 = .ok (.aload_n 0, 1) := by decide +kernel
theorem dX10_chart_19 : decode cX10_chart 19 = .ok (.iload_n 1, 1) := by decide +kernel
theorem dX10_chart_20 : decode cX10_chart 20 = .ok (.invokevirtual 142, 3) := by decide +kernel
theorem dX10_chart_23 : decode cX10_chart 23 = .ok (.iload_n 2, 1) := by decide +kernel
theorem dX10_chart_24 : decode cX10_chart 24 = .ok (.ireturn, 1) := by decide +kernel
theorem dX10_at_0 : decode cX10_at 0 = .ok (.iload_n 1, 1) := by decide +kernel
theorem dX10_at_1 : decode cX10_at 1 = .ok (.invokestatic 147, 3) := by decide +kernel
theorem dX10_at_4 : decode cX10_at 4 = .ok (.ifCond .eq 14, 3) := by decide +kernel
theorem dX10_at_7 : decode cX10_at 7 = .ok (.aload_n 0, 1) := by decide +kernel
theorem dX10_at_8 : decode cX10_at 8 = .ok (.getfield 70, 3) := by decide +kernel
theorem dX10_at_11 : decode cX10_at 11 = .ok (.iload_n 1, 1) := by decide +kernel
theorem dX10_at_12 : decode cX10_at 12 = .ok (.invokestatic 150, 3) := by decide +kernel
theorem dX10_at_15 : decode cX10_at 15 = .ok (.goto 5, 3) := by decide +kernel
theorem dX10_at_18 : decode cX10_at 18 = .ok (.ldc 88, 2) := by decide +kernel
theorem dX10_at_20 : decode cX10_at 20 = .ok (.ireturn, 1) := by decide +kernel
theorem dX10_add_0 : decode cX10_add 0 = .ok (.iload_n 1, 1) := by decide +kernel
theorem dX10_add_1 : decode cX10_add 1 = .ok (.invokestatic 154, 3) := by decide +kernel
theorem dX10_add_4 : decode cX10_add 4 = .ok (.ifCond .eq 16, 3) := by decide +kernel
theorem dX10_add_7 : decode cX10_add 7 = .ok (.iload_n 2, 1) := by decide +kernel
theorem dX10_add_8 : decode cX10_add 8 = .ok (.invokestatic 154, 3) := by decide +kernel
theorem dX10_add_11 : decode cX10_add 11 = .ok (.ifCond .eq 9, 3) := by decide +kernel
theorem dX10_add_14 : decode cX10_add 14 = .ok (.iload_n 1, 1) := by decide +kernel
theorem dX10_add_15 : decode cX10_add 15 = .ok (.iload_n 2, 1) := by decide +kernel
theorem dX10_add_16 : decode cX10_add 16 = .ok (.ixor, 1) := by decide +kernel
theorem dX10_add_17 : decode cX10_add 17 = .ok (.goto 5, 3) := by decide +kernel
theorem dX10_add_20 : decode cX10_add 20 = .ok (.ldc 88, 2) := by decide +kernel
theorem dX10_add_22 : decode cX10_add 22 = .ok (.ireturn, 1) := by decide +kernel
theorem dX10_seen_0 : decode cX10_seen 0 = .ok (.iload_n 1, 1) := by decide +kernel
theorem dX10_seen_1 : decode cX10_seen 1 = .ok (.invokestatic 154, 3) := by decide +kernel
theorem dX10_seen_4 : decode cX10_seen 4 = .ok (.ifCond .eq 17, 3) := by decide +kernel
theorem dX10_seen_7 : decode cX10_seen 7 = .ok (.aload_n 0, 1) := by decide +kernel
theorem dX10_seen_8 : decode cX10_seen 8 = .ok (.getfield 70, 3) := by decide +kernel
theorem dX10_seen_11 : decode cX10_seen 11 = .ok (.iload_n 1, 1) := by decide +kernel
theorem dX10_seen_12 : decode cX10_seen 12 = .ok (.iconst 0, 1) := by decide +kernel
theorem dX10_seen_13 : decode cX10_seen 13 = .ok (.bipush 15, 2) := by decide +kernel
theorem dX10_seen_15 : decode cX10_seen 15 = .ok (.invokestatic 159, 3) := by decide +kernel
theorem dX10_seen_18 : decode cX10_seen 18 = .ok (.goto 5, 3) := by decide +kernel
theorem dX10_seen_21 : decode cX10_seen 21 = .ok (.ldc 88, 2) := by decide +kernel
theorem dX10_seen_23 : decode cX10_seen 23 = .ok (.ireturn, 1) := by decide +kernel
theorem dX10_point_0 : decode cX10_point 0 = .ok (.aload_n 0, 1) := by decide +kernel
theorem dX10_point_1 : decode cX10_point 1 = .ok (.getfield 70, 3) := by decide +kernel
theorem dX10_point_4 : decode cX10_point 4 = .ok (.invokestatic 163, 3) := by decide +kernel
theorem dX10_point_7 : decode cX10_point 7 = .ok (.ireturn, 1) := by decide +kernel
theorem dX10_drawing_0 : decode cX10_drawing 0 = .ok (.iload_n 1, 1) := by decide +kernel
theorem dX10_drawing_1 : decode cX10_drawing 1 = .ok (.invokestatic 81, 3) := by decide +kernel
theorem dX10_drawing_4 : decode cX10_drawing 4 = .ok (.ifCond .eq 12, 3) := by decide +kernel
theorem dX10_drawing_7 : decode cX10_drawing 7 = .ok (.iload_n 3, 1) := by decide +kernel
theorem dX10_drawing_8 : decode cX10_drawing 8 = .ok (.ifCond .lt 8, 3) := by decide +kernel
theorem dX10_drawing_11 : decode cX10_drawing 11 = .ok (.iload_n 3, 1) := by decide +kernel
theorem dX10_drawing_12 : decode cX10_drawing 12 = .ok (.iconst 4, 1) := by decide +kernel
theorem dX10_drawing_13 : decode cX10_drawing 13 = .ok (.if_icmp .le 6, 3) := by decide +kernel
theorem dX10_drawing_16 : decode cX10_drawing 16 = .ok (.ldc 88, 2) := by decide +kernel
theorem dX10_drawing_18 : decode cX10_drawing 18 = .ok (.ireturn, 1) := by decide +kernel
theorem dX10_drawing_19 : decode cX10_drawing 19 = .ok (.aload_n 0, 1) := by decide +kernel
theorem dX10_drawing_20 : decode cX10_drawing 20 = .ok (.getfield 11, 3) := by decide +kernel
theorem dX10_drawing_23 : decode cX10_drawing 23 = .ok (.iload_n 1, 1) := by decide +kernel
theorem dX10_drawing_24 : decode cX10_drawing 24 = .ok (.aaload, 1) := by decide +kernel
theorem dX10_drawing_25 : decode cX10_drawing 25 = .ok (.astore 4, 2) := by decide +kernel
theorem dX10_drawing_27 : decode cX10_drawing 27 = .ok (.aload 4, 2) := by decide +kernel
theorem dX10_drawing_29 : decode cX10_drawing 29 = .ok (.iload_n 2, 1) := by decide +kernel
theorem dX10_drawing_30 : decode cX10_drawing 30 = .ok (.bipush 16, 2) := by decide +kernel
theorem dX10_drawing_32 : decode cX10_drawing 32 = .ok (.invokevirtual 100, 3) := by decide +kernel
theorem dX10_drawing_35 : decode cX10_drawing 35 = .ok (.istore 5, 2) := by decide +kernel
theorem dX10_drawing_37 : decode cX10_drawing 37 = .ok (.iload 5, 2) := by decide +kernel
theorem dX10_drawing_39 : decode cX10_drawing 39 = .ok (.ifCond .eq 10, 3) := by decide +kernel
theorem dX10_drawing_42 : decode cX10_drawing 42 = .ok (.aload_n 0, 1) := by decide +kernel
theorem dX10_drawing_43 : decode cX10_drawing 43 = .ok (.iload 5, 2) := by decide +kernel
theorem dX10_drawing_45 : decode cX10_drawing 45 = .ok (.invokevirtual 89, 3) := by decide +kernel
theorem dX10_drawing_48 : decode cX10_drawing 48 = .ok (.ireturn, 1) := by decide +kernel
theorem dX10_drawing_49 : decode cX10_drawing 49 = .ok (.aload 4, 2) := by decide +kernel
theorem dX10_drawing_51 : decode cX10_drawing 51 = .ok (.iload_n 2, 1) := by decide +kernel
theorem dX10_drawing_52 : decode cX10_drawing 52 = .ok (.bipush 16, 2) := by decide +kernel
theorem dX10_drawing_54 : decode cX10_drawing 54 = .ok (.iconst (-1), 1) := by decide +kernel
theorem dX10_drawing_55 : decode cX10_drawing 55 = .ok (.bipush 15, 2) := by decide +kernel
theorem dX10_drawing_57 : decode cX10_drawing 57 = .ok (.invokevirtual 135, 3) := by decide +kernel
theorem dX10_drawing_60 : decode cX10_drawing 60 = .ok (.ifCond .ne 6, 3) := by decide +kernel
theorem dX10_drawing_63 : decode cX10_drawing 63 = .ok (.ldc 88, 2) := by decide +kernel
theorem dX10_drawing_65 : decode cX10_drawing 65 = .ok (.ireturn, 1) := by decide +kernel
theorem dX10_drawing_66 : decode cX10_drawing 66 = .ok (.aload_n 0, 1) := by decide +kernel
theorem dX10_drawing_67 : decode cX10_drawing 67 = .ok (.getfield 18, 3) := by decide +kernel
theorem dX10_drawing_70 : decode cX10_drawing 70 = .ok (.aload 4, 2) := by decide +kernel
theorem dX10_drawing_72 : decode cX10_drawing 72 = .ok (.iload_n 2, 1) := by decide +kernel
theorem dX10_drawing_73 : decode cX10_drawing 73 = .ok (.invokevirtual 167, 3) := by decide +kernel
theorem dX10_drawing_76 : decode cX10_drawing 76 = .ok (.aload 4, 2) := by decide +kernel
theorem dX10_drawing_78 : decode cX10_drawing 78 = .ok (.iload_n 2, 1) := by decide +kernel
theorem dX10_drawing_79 : decode cX10_drawing 79 = .ok (.invokevirtual 170, 3) := by decide +kernel
theorem dX10_drawing_82 : decode cX10_drawing 82 = .ok (.invokevirtual 173, 3) := by decide +kernel
theorem dX10_drawing_85 : decode cX10_drawing 85 = .ok (.aload_n 0, 1) := by decide +kernel
theorem dX10_drawing_86 : decode cX10_drawing 86 = .ok (.aload_n 0, 1) := by decide +kernel
theorem dX10_drawing_87 : decode cX10_drawing 87 = .ok (.getfield 18, 3) := by decide +kernel
theorem dX10_drawing_90 : decode cX10_drawing 90 = .ok (.iload_n 3, 1) := by decide +kernel
theorem dX10_drawing_91 : decode cX10_drawing 91 = .ok (.invokevirtual 177, 3) := by decide +kernel
theorem dX10_drawing_94 : decode cX10_drawing 94 = .ok (.invokevirtual 97, 3) := by decide +kernel
theorem dX10_drawing_97 : decode cX10_drawing 97 = .ok (.ireturn, 1) := by decide +kernel
theorem dX10_feed_0 : decode cX10_feed 0 = .ok (.iload_n 3, 1) := by decide +kernel
theorem dX10_feed_1 : decode cX10_feed 1 = .ok (.iconst 1, 1) := by decide +kernel
theorem dX10_feed_2 : decode cX10_feed 2 = .ok (.if_icmp .lt 9, 3) := by decide +kernel
theorem dX10_feed_5 : decode cX10_feed 5 = .ok (.iload_n 3, 1) := by decide +kernel
theorem dX10_feed_6 : decode cX10_feed 6 = .ok (.bipush 8, 2) := by decide +kernel
theorem dX10_feed_8 : decode cX10_feed 8 = .ok (.if_icmp .le 6, 3) := by decide +kernel
theorem dX10_feed_11 : decode cX10_feed 11 = .ok (.ldc 88, 2) := by decide +kernel
theorem dX10_feed_13 : decode cX10_feed 13 = .ok (.ireturn, 1) := by decide +kernel
theorem dX10_feed_14 : decode cX10_feed 14 = .ok (.aload_n 0, 1) := by decide +kernel
theorem dX10_feed_15 : decode cX10_feed 15 = .ok (.getfield 25, 3) := by decide +kernel
theorem dX10_feed_18 : decode cX10_feed 18 = .ok (.iload_n 3, 1) := by decide +kernel
theorem dX10_feed_19 : decode cX10_feed 19 = .ok (.invokevirtual 180, 3) := by decide +kernel
theorem dX10_feed_22 : decode cX10_feed 22 = .ok (.ifCond .ne 6, 3) := by decide +kernel
theorem dX10_feed_25 : decode cX10_feed 25 = .ok (.ldc 183, 2) := by decide +kernel
theorem dX10_feed_27 : decode cX10_feed 27 = .ok (.ireturn, 1) := by decide +kernel
theorem dX10_feed_28 : decode cX10_feed 28 = .ok (.aload_n 0, 1) := by decide +kernel
theorem dX10_feed_29 : decode cX10_feed 29 = .ok (.getfield 25, 3) := by decide +kernel
theorem dX10_feed_32 : decode cX10_feed 32 = .ok (.lload_n 1, 1) := by decide +kernel
theorem dX10_feed_33 : decode cX10_feed 33 = .ok (.iload_n 3, 1) := by decide +kernel
theorem dX10_feed_34 : decode cX10_feed 34 = .ok (.invokevirtual 184, 3) := by decide +kernel
theorem dX10_feed_37 : decode cX10_feed 37 = .ok (.aload_n 0, 1) := by decide +kernel
theorem dX10_feed_38 : decode cX10_feed 38 = .ok (.getfield 25, 3) := by decide +kernel
theorem dX10_feed_41 : decode cX10_feed 41 = .ok (.getfield 188, 3) := by decide +kernel
theorem dX10_feed_44 : decode cX10_feed 44 = .ok (.ireturn, 1) := by decide +kernel
theorem dX10_rules_0 : decode cX10_rules 0 = .ok (.aload_n 0, 1) := by decide +kernel
theorem dX10_rules_1 : decode cX10_rules 1 = .ok (.getfield 32, 3) := by decide +kernel
theorem dX10_rules_4 : decode cX10_rules 4 = .ok (.aload_n 0, 1) := by decide +kernel
theorem dX10_rules_5 : decode cX10_rules 5 = .ok (.getfield 57, 3) := by decide +kernel
theorem dX10_rules_8 : decode cX10_rules 8 = .ok (.aload_n 0, 1) := by decide +kernel
theorem dX10_rules_9 : decode cX10_rules 9 = .ok (.getfield 25, 3) := by decide +kernel
theorem dX10_rules_12 : decode cX10_rules 12 = .ok (.invokevirtual 191, 3) := by decide +kernel
theorem dX10_rules_15 : decode cX10_rules 15 = .ok (.istore_n 1, 1) := by decide +kernel
theorem dX10_rules_16 : decode cX10_rules 16 = .ok (.aload_n 0, 1) := by decide +kernel
theorem dX10_rules_17 : decode cX10_rules 17 = .ok (.getfield 25, 3) := by decide +kernel
theorem dX10_rules_20 : decode cX10_rules 20 = .ok (.iconst 0, 1) := by decide +kernel
theorem dX10_rules_21 : decode cX10_rules 21 = .ok (.putfield 188, 3) := by decide +kernel
theorem dX10_rules_24 : decode cX10_rules 24 = .ok (.iload_n 1, 1) := by decide +kernel
theorem dX10_rules_25 : decode cX10_rules 25 = .ok (.ifCond .ne 25, 3) := by decide +kernel
theorem dX10_rules_28 : decode cX10_rules 28 = .ok (.aload_n 0, 1) := by decide +kernel
theorem dX10_rules_29 : decode cX10_rules 29 = .ok (.aload_n 0, 1) := by decide +kernel
theorem dX10_rules_30 : decode cX10_rules 30 = .ok (.getfield 32, 3) := by decide +kernel
theorem dX10_rules_33 : decode cX10_rules 33 = .ok (.getfield 195, 3) := by decide +kernel
theorem dX10_rules_36 : decode cX10_rules 36 = .ok (.putfield 74, 3) := by decide +kernel
theorem dX10_rules_39 : decode cX10_rules 39 = .ok (.ldc 198, 2) := by decide +kernel
theorem dX10_rules_41 : decode cX10_rules 41 = .ok (.aload_n 0, 1) := by decide +kernel
theorem dX10_rules_42 : decode cX10_rules 42 = .ok (.getfield 32, 3) := by decide +kernel
theorem dX10_rules_45 : decode cX10_rules 45 = .ok (.getfield 199, 3) := by decide +kernel
theorem dX10_rules_48 : decode cX10_rules 48 = .ok (.isub, 1) := by decide +kernel
theorem dX10_rules_49 : decode cX10_rules 49 = .ok (.ireturn, 1) := by decide +kernel
theorem dX10_rules_50 : decode cX10_rules 50 = .ok (.aload_n 0, 1) := by decide +kernel
theorem dX10_rules_51 : decode cX10_rules 51 = .ok (.getfield 53, 3) := by decide +kernel
theorem dX10_rules_54 : decode cX10_rules 54 = .ok (.astore_n 2, 1) := by decide +kernel
theorem dX10_rules_55 : decode cX10_rules 55 = .ok (.aload_n 0, 1) := by decide +kernel
theorem dX10_rules_56 : decode cX10_rules 56 = .ok (.aload_n 0, 1) := by decide +kernel
theorem dX10_rules_57 : decode cX10_rules 57 = .ok (.getfield 57, 3) := by decide +kernel
theorem dX10_rules_60 : decode cX10_rules 60 = .ok (.putfield 53, 3) := by decide +kernel
theorem dX10_rules_63 : decode cX10_rules 63 = .ok (.aload_n 0, 1) := by decide +kernel
theorem dX10_rules_64 : decode cX10_rules 64 = .ok (.aload_n 2, 1) := by decide +kernel
theorem dX10_rules_65 : decode cX10_rules 65 = .ok (.putfield 57, 3) := by decide +kernel
theorem dX10_rules_68 : decode cX10_rules 68 = .ok (.aload_n 0, 1) := by decide +kernel
theorem dX10_rules_69 : decode cX10_rules 69 = .ok (.getfield 53, 3) := by decide +kernel
theorem dX10_rules_72 : decode cX10_rules 72 = .ok (.getfield 202, 3) := by decide +kernel
theorem dX10_rules_75 : decode cX10_rules 75 = .ok (.ireturn, 1) := by decide +kernel
theorem dX10_fault_0 : decode cX10_fault 0 = .ok (.aload_n 0, 1) := by decide +kernel
theorem dX10_fault_1 : decode cX10_fault 1 = .ok (.getfield 74, 3) := by decide +kernel
theorem dX10_fault_4 : decode cX10_fault 4 = .ok (.ireturn, 1) := by decide +kernel
theorem dX10_said_0 : decode cX10_said 0 = .ok (.iload_n 1, 1) := by decide +kernel
theorem dX10_said_1 : decode cX10_said 1 = .ok (.ifCond .eq 11, 3) := by decide +kernel
theorem dX10_said_4 : decode cX10_said 4 = .ok (.iload_n 1, 1) := by decide +kernel
theorem dX10_said_5 : decode cX10_said 5 = .ok (.iconst 1, 1) := by decide +kernel
theorem dX10_said_6 : decode cX10_said 6 = .ok (.if_icmp .eq 6, 3) := by decide +kernel
theorem dX10_said_9 : decode cX10_said 9 = .ok (.ldc 88, 2) := by decide +kernel
theorem dX10_said_11 : decode cX10_said 11 = .ok (.ireturn, 1) := by decide +kernel
theorem dX10_said_12 : decode cX10_said 12 = .ok (.aload_n 0, 1) := by decide +kernel
theorem dX10_said_13 : decode cX10_said 13 = .ok (.getfield 53, 3) := by decide +kernel
theorem dX10_said_16 : decode cX10_said 16 = .ok (.aload_n 0, 1) := by decide +kernel
theorem dX10_said_17 : decode cX10_said 17 = .ok (.getfield 70, 3) := by decide +kernel
theorem dX10_said_20 : decode cX10_said 20 = .ok (.invokevirtual 203, 3) := by decide +kernel
theorem dX10_said_23 : decode cX10_said 23 = .ok (.istore_n 2, 1) := by decide +kernel
theorem dX10_said_24 : decode cX10_said 24 = .ok (.iload_n 2, 1) := by decide +kernel
theorem dX10_said_25 : decode cX10_said 25 = .ok (.ldc 206, 2) := by decide +kernel
theorem dX10_said_27 : decode cX10_said 27 = .ok (.if_icmp .ne 6, 3) := by decide +kernel
theorem dX10_said_30 : decode cX10_said 30 = .ok (.ldc 206, 2) := by decide +kernel
theorem dX10_said_32 : decode cX10_said 32 = .ok (.ireturn, 1) := by decide +kernel
theorem dX10_said_33 : decode cX10_said 33 = .ok (.iload_n 1, 1) := by decide +kernel
theorem dX10_said_34 : decode cX10_said 34 = .ok (.ifCond .ne 14, 3) := by decide +kernel
theorem dX10_said_37 : decode cX10_said 37 = .ok (.aload_n 0, 1) := by decide +kernel
theorem dX10_said_38 : decode cX10_said 38 = .ok (.getfield 53, 3) := by decide +kernel
theorem dX10_said_41 : decode cX10_said 41 = .ok (.iload_n 2, 1) := by decide +kernel
theorem dX10_said_42 : decode cX10_said 42 = .ok (.invokevirtual 207, 3) := by decide +kernel
theorem dX10_said_45 : decode cX10_said 45 = .ok (.goto 4, 3) := by decide +kernel
theorem dX10_said_48 : decode cX10_said 48 = .ok (.iload_n 2, 1) := by decide +kernel
theorem dX10_said_49 : decode cX10_said 49 = .ok (.ireturn, 1) := by decide +kernel
theorem dX10_holds_0 : decode cX10_holds 0 = .ok (.aload_n 0, 1) := by decide +kernel
theorem dX10_holds_1 : decode cX10_holds 1 = .ok (.getfield 53, 3) := by decide +kernel
theorem dX10_holds_4 : decode cX10_holds 4 = .ok (.iload_n 1, 1) := by decide +kernel
theorem dX10_holds_5 : decode cX10_holds 5 = .ok (.invokevirtual 210, 3) := by decide +kernel
theorem dX10_holds_8 : decode cX10_holds 8 = .ok (.ifCond .ne 6, 3) := by decide +kernel
theorem dX10_holds_11 : decode cX10_holds 11 = .ok (.ldc 88, 2) := by decide +kernel
theorem dX10_holds_13 : decode cX10_holds 13 = .ok (.ireturn, 1) := by decide +kernel
theorem dX10_holds_14 : decode cX10_holds 14 = .ok (.aload_n 0, 1) := by decide +kernel
theorem dX10_holds_15 : decode cX10_holds 15 = .ok (.getfield 53, 3) := by decide +kernel
theorem dX10_holds_18 : decode cX10_holds 18 = .ok (.iload_n 1, 1) := by decide +kernel
theorem dX10_holds_19 : decode cX10_holds 19 = .ok (.aload_n 0, 1) := by decide +kernel
theorem dX10_holds_20 : decode cX10_holds 20 = .ok (.getfield 70, 3) := by decide +kernel
theorem dX10_holds_23 : decode cX10_holds 23 = .ok (.invokevirtual 213, 3) := by decide +kernel
theorem dX10_holds_26 : decode cX10_holds 26 = .ok (.ifCond .eq 7, 3) := by decide +kernel
theorem dX10_holds_29 : decode cX10_holds 29 = .ok (.iconst 1, 1) := by decide +kernel
theorem dX10_holds_30 : decode cX10_holds 30 = .ok (.goto 4, 3) := by decide +kernel
theorem dX10_holds_33 : decode cX10_holds 33 = .ok (.iconst 0, 1) := by decide +kernel
theorem dX10_holds_34 : decode cX10_holds 34 = .ok (.ireturn, 1) := by decide +kernel
theorem dX10_record_0 : decode cX10_record 0 = .ok (.iload_n 1, 1) := by decide +kernel
theorem dX10_record_1 : decode cX10_record 1 = .ok (.invokestatic 217, 3) := by decide +kernel
theorem dX10_record_4 : decode cX10_record 4 = .ok (.ifCond .ne 6, 3) := by decide +kernel
theorem dX10_record_7 : decode cX10_record 7 = .ok (.ldc 88, 2) := by decide +kernel
theorem dX10_record_9 : decode cX10_record 9 = .ok (.ireturn, 1) := by decide +kernel
theorem dX10_record_10 : decode cX10_record 10 = .ok (.aload_n 0, 1) := by decide +kernel
theorem dX10_record_11 : decode cX10_record 11 = .ok (.getfield 39, 3) := by decide +kernel
theorem dX10_record_14 : decode cX10_record 14 = .ok (.invokevirtual 220, 3) := by decide +kernel
theorem dX10_record_17 : decode cX10_record 17 = .ok (.ifCond .eq 6, 3) := by decide +kernel
theorem dX10_record_20 : decode cX10_record 20 = .ok (.ldc 183, 2) := by decide +kernel
theorem dX10_record_22 : decode cX10_record 22 = .ok (.ireturn, 1) := by decide +kernel
theorem dX10_record_23 : decode cX10_record 23 = .ok (.aload_n 0, 1) := by decide +kernel
theorem dX10_record_24 : decode cX10_record 24 = .ok (.getfield 39, 3) := by decide +kernel
theorem dX10_record_27 : decode cX10_record 27 = .ok (.aload_n 0, 1) := by decide +kernel
theorem dX10_record_28 : decode cX10_record 28 = .ok (.getfield 70, 3) := by decide +kernel
theorem dX10_record_31 : decode cX10_record 31 = .ok (.iload_n 1, 1) := by decide +kernel
theorem dX10_record_32 : decode cX10_record 32 = .ok (.invokevirtual 223, 3) := by decide +kernel
theorem dX10_record_35 : decode cX10_record 35 = .ok (.aload_n 0, 1) := by decide +kernel
theorem dX10_record_36 : decode cX10_record 36 = .ok (.getfield 39, 3) := by decide +kernel
theorem dX10_record_39 : decode cX10_record 39 = .ok (.getfield 226, 3) := by decide +kernel
theorem dX10_record_42 : decode cX10_record 42 = .ok (.ireturn, 1) := by decide +kernel
theorem dX10_worth_0 : decode cX10_worth 0 = .ok (.aload_n 0, 1) := by decide +kernel
theorem dX10_worth_1 : decode cX10_worth 1 = .ok (.getfield 53, 3) := by decide +kernel
theorem dX10_worth_4 : decode cX10_worth 4 = .ok (.iload_n 1, 1) := by decide +kernel
theorem dX10_worth_5 : decode cX10_worth 5 = .ok (.invokevirtual 210, 3) := by decide +kernel
theorem dX10_worth_8 : decode cX10_worth 8 = .ok (.ifCond .eq 12, 3) := by decide +kernel
theorem dX10_worth_11 : decode cX10_worth 11 = .ok (.iload_n 2, 1) := by decide +kernel
theorem dX10_worth_12 : decode cX10_worth 12 = .ok (.ifCond .lt 8, 3) := by decide +kernel
theorem dX10_worth_15 : decode cX10_worth 15 = .ok (.iload_n 2, 1) := by decide +kernel
theorem dX10_worth_16 : decode cX10_worth 16 = .ok (.iconst 3, 1) := by decide +kernel
theorem dX10_worth_17 : decode cX10_worth 17 = .ok (.if_icmp .le 6, 3) := by decide +kernel
theorem dX10_worth_20 : decode cX10_worth 20 = .ok (.ldc 88, 2) := by decide +kernel
theorem dX10_worth_22 : decode cX10_worth 22 = .ok (.ireturn, 1) := by decide +kernel
theorem dX10_worth_23 : decode cX10_worth 23 = .ok (.aload_n 0, 1) := by decide +kernel
theorem dX10_worth_24 : decode cX10_worth 24 = .ok (.getfield 39, 3) := by decide +kernel
theorem dX10_worth_27 : decode cX10_worth 27 = .ok (.aload_n 0, 1) := by decide +kernel
theorem dX10_worth_28 : decode cX10_worth 28 = .ok (.getfield 53, 3) := by decide +kernel
theorem dX10_worth_31 : decode cX10_worth 31 = .ok (.iload_n 1, 1) := by decide +kernel
theorem dX10_worth_32 : decode cX10_worth 32 = .ok (.invokevirtual 227, 3) := by decide +kernel
theorem dX10_worth_35 : decode cX10_worth 35 = .ok (.aload_n 0, 1) := by decide +kernel
theorem dX10_worth_36 : decode cX10_worth 36 = .ok (.getfield 39, 3) := by decide +kernel
theorem dX10_worth_39 : decode cX10_worth 39 = .ok (.iload_n 2, 1) := by decide +kernel
theorem dX10_worth_40 : decode cX10_worth 40 = .ok (.invokevirtual 231, 3) := by decide +kernel
theorem dX10_worth_43 : decode cX10_worth 43 = .ok (.ireturn, 1) := by decide +kernel
theorem dX10_best_0 : decode cX10_best 0 = .ok (.ldc 206, 2) := by decide +kernel
theorem dX10_best_2 : decode cX10_best 2 = .ok (.istore_n 1, 1) := by decide +kernel
theorem dX10_best_3 : decode cX10_best 3 = .ok (.iconst 0, 1) := by decide +kernel
theorem dX10_best_4 : decode cX10_best 4 = .ok (.istore_n 2, 1) := by decide +kernel
theorem dX10_best_5 : decode cX10_best 5 = .ok (.iconst 0, 1) := by decide +kernel
theorem dX10_best_6 : decode cX10_best 6 = .ok (.istore_n 3, 1) := by decide +kernel
theorem dX10_best_7 : decode cX10_best 7 = .ok (.iload_n 3, 1) := by decide +kernel
theorem dX10_best_8 : decode cX10_best 8 = .ok (.aload_n 0, 1) := by decide +kernel
theorem dX10_best_9 : decode cX10_best 9 = .ok (.getfield 53, 3) := by decide +kernel
theorem dX10_best_12 : decode cX10_best 12 = .ok (.getfield 202, 3) := by decide +kernel
theorem dX10_best_15 : decode cX10_best 15 = .ok (.if_icmp .ge 47, 3) := by decide +kernel
theorem dX10_best_18 : decode cX10_best 18 = .ok (.aload_n 0, 1) := by decide +kernel
theorem dX10_best_19 : decode cX10_best 19 = .ok (.getfield 39, 3) := by decide +kernel
theorem dX10_best_22 : decode cX10_best 22 = .ok (.aload_n 0, 1) := by decide +kernel
theorem dX10_best_23 : decode cX10_best 23 = .ok (.getfield 53, 3) := by decide +kernel
theorem dX10_best_26 : decode cX10_best 26 = .ok (.iload_n 3, 1) := by decide +kernel
theorem dX10_best_27 : decode cX10_best 27 = .ok (.invokevirtual 227, 3) := by decide +kernel
theorem dX10_best_30 : decode cX10_best 30 = .ok (.aload_n 0, 1) := by decide +kernel
theorem dX10_best_31 : decode cX10_best 31 = .ok (.getfield 39, 3) := by decide +kernel
theorem dX10_best_34 : decode cX10_best 34 = .ok (.invokevirtual 232, 3) := by decide +kernel
theorem dX10_best_37 : decode cX10_best 37 = .ok (.istore 4, 2) := by decide +kernel
theorem dX10_best_39 : decode cX10_best 39 = .ok (.iload_n 1, 1) := by decide +kernel
theorem dX10_best_40 : decode cX10_best 40 = .ok (.ldc 206, 2) := by decide +kernel
theorem dX10_best_42 : decode cX10_best 42 = .ok (.if_icmp .eq 9, 3) := by decide +kernel
theorem dX10_best_45 : decode cX10_best 45 = .ok (.iload 4, 2) := by decide +kernel
theorem dX10_best_47 : decode cX10_best 47 = .ok (.iload_n 2, 1) := by decide +kernel
theorem dX10_best_48 : decode cX10_best 48 = .ok (.if_icmp .le 8, 3) := by decide +kernel
theorem dX10_best_51 : decode cX10_best 51 = .ok (.iload_n 3, 1) := by decide +kernel
theorem dX10_best_52 : decode cX10_best 52 = .ok (.istore_n 1, 1) := by decide +kernel
theorem dX10_best_53 : decode cX10_best 53 = .ok (.iload 4, 2) := by decide +kernel
theorem dX10_best_55 : decode cX10_best 55 = .ok (.istore_n 2, 1) := by decide +kernel
theorem dX10_best_56 : decode cX10_best 56 = .ok (.iinc 3 1, 3) := by decide +kernel
theorem dX10_best_59 : decode cX10_best 59 = .ok (.goto (-52), 3) := by decide +kernel
theorem dX10_best_62 : decode cX10_best 62 = .ok (.iload_n 1, 1) := by decide +kernel
theorem dX10_best_63 : decode cX10_best 63 = .ok (.ireturn, 1) := by decide +kernel
theorem dX10_kind_0 : decode cX10_kind 0 = .ok (.iload_n 1, 1) := by decide +kernel
theorem dX10_kind_1 : decode cX10_kind 1 = .ok (.invokestatic 154, 3) := by decide +kernel
theorem dX10_kind_4 : decode cX10_kind 4 = .ok (.ifCond .eq 10, 3) := by decide +kernel
theorem dX10_kind_7 : decode cX10_kind 7 = .ok (.iload_n 1, 1) := by decide +kernel
theorem dX10_kind_8 : decode cX10_kind 8 = .ok (.invokestatic 236, 3) := by decide +kernel
theorem dX10_kind_11 : decode cX10_kind 11 = .ok (.goto 5, 3) := by decide +kernel
theorem dX10_kind_14 : decode cX10_kind 14 = .ok (.ldc 88, 2) := by decide +kernel
theorem dX10_kind_16 : decode cX10_kind 16 = .ok (.ireturn, 1) := by decide +kernel
theorem dX10_as_0 : decode cX10_as 0 = .ok (.iload_n 1, 1) := by decide +kernel
theorem dX10_as_1 : decode cX10_as 1 = .ok (.invokestatic 154, 3) := by decide +kernel
theorem dX10_as_4 : decode cX10_as 4 = .ok (.ifCond .eq 12, 3) := by decide +kernel
theorem dX10_as_7 : decode cX10_as 7 = .ok (.iload_n 2, 1) := by decide +kernel
theorem dX10_as_8 : decode cX10_as 8 = .ok (.ifCond .lt 8, 3) := by decide +kernel
theorem dX10_as_11 : decode cX10_as 11 = .ok (.iload_n 2, 1) := by decide +kernel
theorem dX10_as_12 : decode cX10_as 12 = .ok (.iconst 3, 1) := by decide +kernel
theorem dX10_as_13 : decode cX10_as 13 = .ok (.if_icmp .le 6, 3) := by decide +kernel
theorem dX10_as_16 : decode cX10_as 16 = .ok (.ldc 88, 2) := by decide +kernel
theorem dX10_as_18 : decode cX10_as 18 = .ok (.ireturn, 1) := by decide +kernel
theorem dX10_as_19 : decode cX10_as 19 = .ok (.iload_n 1, 1) := by decide +kernel
theorem dX10_as_20 : decode cX10_as 20 = .ok (.iload_n 2, 1) := by decide +kernel
theorem dX10_as_21 : decode cX10_as 21 = .ok (.invokestatic 239, 3) := by decide +kernel
theorem dX10_as_24 : decode cX10_as 24 = .ok (.ifCond .ne 9, 3) := by decide +kernel
theorem dX10_as_27 : decode cX10_as 27 = .ok (.aload_n 0, 1) := by decide +kernel
theorem dX10_as_28 : decode cX10_as 28 = .ok (.iconst 3, 1) := by decide +kernel
theorem dX10_as_29 : decode cX10_as 29 = .ok (.invokevirtual 89, 3) := by decide +kernel
theorem dX10_as_32 : decode cX10_as 32 = .ok (.ireturn, 1) := by decide +kernel
theorem dX10_as_33 : decode cX10_as 33 = .ok (.aload_n 0, 1) := by decide +kernel
theorem dX10_as_34 : decode cX10_as 34 = .ok (.iload_n 1, 1) := by decide +kernel
theorem dX10_as_35 : decode cX10_as 35 = .ok (.invokestatic 242, 3) := by decide +kernel
theorem dX10_as_38 : decode cX10_as 38 = .ok (.invokevirtual 97, 3) := by decide +kernel
theorem dX10_as_41 : decode cX10_as 41 = .ok (.ireturn, 1) := by decide +kernel
theorem dX10_ask_0 : decode cX10_ask 0 = .ok (.iload_n 1, 1) := by decide +kernel
theorem dX10_ask_1 : decode cX10_ask 1 = .ok (.invokestatic 154, 3) := by decide +kernel
theorem dX10_ask_4 : decode cX10_ask 4 = .ok (.ifCond .eq 12, 3) := by decide +kernel
theorem dX10_ask_7 : decode cX10_ask 7 = .ok (.iload_n 2, 1) := by decide +kernel
theorem dX10_ask_8 : decode cX10_ask 8 = .ok (.ifCond .eq 11, 3) := by decide +kernel
theorem dX10_ask_11 : decode cX10_ask 11 = .ok (.iload_n 2, 1) := by decide +kernel
theorem dX10_ask_12 : decode cX10_ask 12 = .ok (.iconst 1, 1) := by decide +kernel
theorem dX10_ask_13 : decode cX10_ask 13 = .ok (.if_icmp .eq 6, 3) := by decide +kernel
theorem dX10_ask_16 : decode cX10_ask 16 = .ok (.ldc 88, 2) := by decide +kernel
theorem dX10_ask_18 : decode cX10_ask 18 = .ok (.ireturn, 1) := by decide +kernel
theorem dX10_ask_19 : decode cX10_ask 19 = .ok (.aload_n 0, 1) := by decide +kernel
theorem dX10_ask_20 : decode cX10_ask 20 = .ok (.getfield 46, 3) := by decide +kernel
theorem dX10_ask_23 : decode cX10_ask 23 = .ok (.invokevirtual 245, 3) := by decide +kernel
theorem dX10_ask_26 : decode cX10_ask 26 = .ok (.iload_n 2, 1) := by decide +kernel
theorem dX10_ask_27 : decode cX10_ask 27 = .ok (.ifCond .ne 14, 3) := by decide +kernel
theorem dX10_ask_30 : decode cX10_ask 30 = .ok (.aload_n 0, 1) := by decide +kernel
theorem dX10_ask_31 : decode cX10_ask 31 = .ok (.getfield 46, 3) := by decide +kernel
theorem dX10_ask_34 : decode cX10_ask 34 = .ok (.iload_n 1, 1) := by decide +kernel
theorem dX10_ask_35 : decode cX10_ask 35 = .ok (.invokevirtual 248, 3) := by decide +kernel
theorem dX10_ask_38 : decode cX10_ask 38 = .ok (.goto 11, 3) := by decide +kernel
theorem dX10_ask_41 : decode cX10_ask 41 = .ok (.aload_n 0, 1) := by decide +kernel
theorem dX10_ask_42 : decode cX10_ask 42 = .ok (.getfield 46, 3) := by decide +kernel
theorem dX10_ask_45 : decode cX10_ask 45 = .ok (.iload_n 1, 1) := by decide +kernel
theorem dX10_ask_46 : decode cX10_ask 46 = .ok (.invokevirtual 251, 3) := by decide +kernel
theorem dX10_ask_49 : decode cX10_ask 49 = .ok (.ireturn, 1) := by decide +kernel
theorem dX10_trace_0 : decode cX10_trace 0 = .ok (.aload_n 0, 1) := by decide +kernel
theorem dX10_trace_1 : decode cX10_trace 1 = .ok (.getfield 46, 3) := by decide +kernel
theorem dX10_trace_4 : decode cX10_trace 4 = .ok (.iload_n 1, 1) := by decide +kernel
theorem dX10_trace_5 : decode cX10_trace 5 = .ok (.invokevirtual 254, 3) := by decide +kernel
theorem dX10_trace_8 : decode cX10_trace 8 = .ok (.ireturn, 1) := by decide +kernel
theorem dX10_count_0 : decode cX10_count 0 = .ok (.iload_n 1, 1) := by decide +kernel
theorem dX10_count_1 : decode cX10_count 1 = .ok (.tableswitch 93 0 6 #[43, 48, 56, 64, 72, 80, 88], 43) := by decide +kernel
theorem dX10_count_44 : decode cX10_count 44 = .ok (.aload_n 0, 1) := by decide +kernel
theorem dX10_count_45 : decode cX10_count 45 = .ok (.invokevirtual 257, 3) := by decide +kernel
theorem dX10_count_48 : decode cX10_count 48 = .ok (.ireturn, 1) := by decide +kernel
theorem dX10_count_49 : decode cX10_count 49 = .ok (.aload_n 0, 1) := by decide +kernel
theorem dX10_count_50 : decode cX10_count 50 = .ok (.getfield 53, 3) := by decide +kernel
theorem dX10_count_53 : decode cX10_count 53 = .ok (.getfield 202, 3) := by decide +kernel
theorem dX10_count_56 : decode cX10_count 56 = .ok (.ireturn, 1) := by decide +kernel
theorem dX10_count_57 : decode cX10_count 57 = .ok (.aload_n 0, 1) := by decide +kernel
theorem dX10_count_58 : decode cX10_count 58 = .ok (.getfield 39, 3) := by decide +kernel
theorem dX10_count_61 : decode cX10_count 61 = .ok (.getfield 226, 3) := by decide +kernel
theorem dX10_count_64 : decode cX10_count 64 = .ok (.ireturn, 1) := by decide +kernel
theorem dX10_count_65 : decode cX10_count 65 = .ok (.aload_n 0, 1) := by decide +kernel
theorem dX10_count_66 : decode cX10_count 66 = .ok (.getfield 39, 3) := by decide +kernel
theorem dX10_count_69 : decode cX10_count 69 = .ok (.invokevirtual 260, 3) := by decide +kernel
theorem dX10_count_72 : decode cX10_count 72 = .ok (.ireturn, 1) := by decide +kernel
theorem dX10_count_73 : decode cX10_count 73 = .ok (.aload_n 0, 1) := by decide +kernel
theorem dX10_count_74 : decode cX10_count 74 = .ok (.getfield 39, 3) := by decide +kernel
theorem dX10_count_77 : decode cX10_count 77 = .ok (.invokevirtual 263, 3) := by decide +kernel
theorem dX10_count_80 : decode cX10_count 80 = .ok (.ireturn, 1) := by decide +kernel
theorem dX10_count_81 : decode cX10_count 81 = .ok (.aload_n 0, 1) := by decide +kernel
theorem dX10_count_82 : decode cX10_count 82 = .ok (.getfield 25, 3) := by decide +kernel
theorem dX10_count_85 : decode cX10_count 85 = .ok (.getfield 188, 3) := by decide +kernel
theorem dX10_count_88 : decode cX10_count 88 = .ok (.ireturn, 1) := by decide +kernel
theorem dX10_count_89 : decode cX10_count 89 = .ok (.aload_n 0, 1) := by decide +kernel
theorem dX10_count_90 : decode cX10_count 90 = .ok (.getfield 60, 3) := by decide +kernel
theorem dX10_count_93 : decode cX10_count 93 = .ok (.ireturn, 1) := by decide +kernel
theorem dX10_count_94 : decode cX10_count 94 = .ok (.ldc 88, 2) := by decide +kernel
theorem dX10_count_96 : decode cX10_count 96 = .ok (.ireturn, 1) := by decide +kernel
theorem dX10_status_0 : decode cX10_status 0 = .ok (.aload_n 0, 1) := by decide +kernel
theorem dX10_status_1 : decode cX10_status 1 = .ok (.getfield 77, 3) := by decide +kernel
theorem dX10_status_4 : decode cX10_status 4 = .ok (.ireturn, 1) := by decide +kernel
theorem dX10_found_0 : decode cX10_found 0 = .ok (.aload_n 0, 1) := by decide +kernel
theorem dX10_found_1 : decode cX10_found 1 = .ok (.iload_n 1, 1) := by decide +kernel
theorem dX10_found_2 : decode cX10_found 2 = .ok (.putfield 77, 3) := by decide +kernel
theorem dX10_found_5 : decode cX10_found 5 = .ok (.ldc_w 266, 3) := by decide +kernel
theorem dX10_found_8 : decode cX10_found 8 = .ok (.iload_n 1, 1) := by decide +kernel
theorem dX10_found_9 : decode cX10_found 9 = .ok (.isub, 1) := by decide +kernel
theorem dX10_found_10 : decode cX10_found 10 = .ok (.ireturn, 1) := by decide +kernel
theorem dX10_done_0 : decode cX10_done 0 = .ok (.aload_n 0, 1) := by decide +kernel
theorem dX10_done_1 : decode cX10_done 1 = .ok (.iconst 0, 1) := by decide +kernel
theorem dX10_done_2 : decode cX10_done 2 = .ok (.putfield 77, 3) := by decide +kernel
theorem dX10_done_5 : decode cX10_done 5 = .ok (.iload_n 1, 1) := by decide +kernel
theorem dX10_done_6 : decode cX10_done 6 = .ok (.ireturn, 1) := by decide +kernel
theorem dX10_tellChart_0 : decode cX10_tellChart 0 = .ok (.aload_n 0, 1) := by decide +kernel
theorem dX10_tellChart_1 : decode cX10_tellChart 1 = .ok (.iload_n 1, 1) := by decide +kernel
theorem dX10_tellChart_2 : decode cX10_tellChart 2 = .ok (.putfield 60, 3) := by decide +kernel
theorem dX10_tellChart_5 : decode cX10_tellChart 5 = .ok (.aload_n 0, 1) := by decide +kernel
theorem dX10_tellChart_6 : decode cX10_tellChart 6 = .ok (.iload_n 1, 1) := by decide +kernel
theorem dX10_tellChart_7 : decode cX10_tellChart 7 = .ok (.invokestatic 64, 3) := by decide +kernel
theorem dX10_tellChart_10 : decode cX10_tellChart 10 = .ok (.putfield 70, 3) := by decide +kernel
theorem dX10_tellChart_13 : decode cX10_tellChart 13 = .ok (.return_, 1) := by decide +kernel
theorem dX10_sheetsThere_0 : decode cX10_sheetsThere 0 = .ok (.iconst 0, 1) := by decide +kernel
theorem dX10_sheetsThere_1 : decode cX10_sheetsThere 1 = .ok (.istore_n 1, 1) := by decide +kernel
theorem dX10_sheetsThere_2 : decode cX10_sheetsThere 2 = .ok (.iconst 0, 1) := by decide +kernel
theorem dX10_sheetsThere_3 : decode cX10_sheetsThere 3 = .ok (.istore_n 2, 1) := by decide +kernel
theorem dX10_sheetsThere_4 : decode cX10_sheetsThere 4 = .ok (.iload_n 2, 1) := by decide +kernel
theorem dX10_sheetsThere_5 : decode cX10_sheetsThere 5 = .ok (.bipush 8, 2) := by decide +kernel
theorem dX10_sheetsThere_7 : decode cX10_sheetsThere 7 = .ok (.if_icmp .ge 24, 3) := by decide +kernel
theorem dX10_sheetsThere_10 : decode cX10_sheetsThere 10 = .ok (.aload_n 0, 1) := by decide +kernel
theorem dX10_sheetsThere_11 : decode cX10_sheetsThere 11 = .ok (.getfield 11, 3) := by decide +kernel
theorem dX10_sheetsThere_14 : decode cX10_sheetsThere 14 = .ok (.iload_n 2, 1) := by decide +kernel
theorem dX10_sheetsThere_15 : decode cX10_sheetsThere 15 = .ok (.aaload, 1) := by decide +kernel
theorem dX10_sheetsThere_16 : decode cX10_sheetsThere 16 = .ok (.invokevirtual 107, 3) := by decide +kernel
theorem dX10_sheetsThere_19 : decode cX10_sheetsThere 19 = .ok (.ifCond .ne 6, 3) := by decide +kernel
theorem dX10_sheetsThere_22 : decode cX10_sheetsThere 22 = .ok (.iinc 1 1, 3) := by decide +kernel
theorem dX10_sheetsThere_25 : decode cX10_sheetsThere 25 = .ok (.iinc 2 1, 3) := by decide +kernel
theorem dX10_sheetsThere_28 : decode cX10_sheetsThere 28 = .ok (.goto (-24), 3) := by decide +kernel
theorem dX10_sheetsThere_31 : decode cX10_sheetsThere 31 = .ok (.iload_n 1, 1) := by decide +kernel
theorem dX10_sheetsThere_32 : decode cX10_sheetsThere 32 = .ok (.ireturn, 1) := by decide +kernel
theorem dX10_isSheet_0 : decode cX10_isSheet 0 = .ok (.iload_n 0, 1) := by decide +kernel
theorem dX10_isSheet_1 : decode cX10_isSheet 1 = .ok (.ifCond .lt 13, 3) := by decide +kernel
theorem dX10_isSheet_4 : decode cX10_isSheet 4 = .ok (.iload_n 0, 1) := by decide +kernel
theorem dX10_isSheet_5 : decode cX10_isSheet 5 = .ok (.bipush 8, 2) := by decide +kernel
theorem dX10_isSheet_7 : decode cX10_isSheet 7 = .ok (.if_icmp .ge 7, 3) := by decide +kernel
theorem dX10_isSheet_10 : decode cX10_isSheet 10 = .ok (.iconst 1, 1) := by decide +kernel
theorem dX10_isSheet_11 : decode cX10_isSheet 11 = .ok (.goto 4, 3) := by decide +kernel
theorem dX10_isSheet_14 : decode cX10_isSheet 14 = .ok (.iconst 0, 1) := by decide +kernel
theorem dX10_isSheet_15 : decode cX10_isSheet 15 = .ok (.ireturn, 1) := by decide +kernel
theorem dX10_isPlace_0 : decode cX10_isPlace 0 = .ok (.iload_n 0, 1) := by decide +kernel
theorem dX10_isPlace_1 : decode cX10_isPlace 1 = .ok (.ifCond .lt 13, 3) := by decide +kernel
theorem dX10_isPlace_4 : decode cX10_isPlace 4 = .ok (.iload_n 0, 1) := by decide +kernel
theorem dX10_isPlace_5 : decode cX10_isPlace 5 = .ok (.bipush 16, 2) := by decide +kernel
theorem dX10_isPlace_7 : decode cX10_isPlace 7 = .ok (.if_icmp .ge 7, 3) := by decide +kernel
theorem dX10_isPlace_10 : decode cX10_isPlace 10 = .ok (.iconst 1, 1) := by decide +kernel
theorem dX10_isPlace_11 : decode cX10_isPlace 11 = .ok (.goto 4, 3) := by decide +kernel
theorem dX10_isPlace_14 : decode cX10_isPlace 14 = .ok (.iconst 0, 1) := by decide +kernel
theorem dX10_isPlace_15 : decode cX10_isPlace 15 = .ok (.ireturn, 1) := by decide +kernel
theorem dX11_init_0 : decode cX11_init 0 = .ok (.aload_n 0, 1) := by decide +kernel
theorem dX11_init_1 : decode cX11_init 1 = .ok (.invokespecial 1, 3) := by decide +kernel
theorem dX11_init_4 : decode cX11_init 4 = .ok (.aload_n 0, 1) := by decide +kernel
theorem dX11_init_5 : decode cX11_init 5 = .ok (.bipush 8, 2) := by decide +kernel
theorem dX11_init_7 : decode cX11_init 7 = .ok (.newarray .int, 2) := by decide +kernel
theorem dX11_init_9 : decode cX11_init 9 = .ok (.dup, 1) := by decide +kernel
theorem dX11_init_10 : decode cX11_init 10 = .ok (.iconst 0, 1) := by decide +kernel
theorem dX11_init_11 : decode cX11_init 11 = .ok (.iconst (-1), 1) := by decide +kernel
theorem dX11_init_12 : decode cX11_init 12 = .ok (.iastore, 1) := by decide +kernel
theorem dX11_init_13 : decode cX11_init 13 = .ok (.dup, 1) := by decide +kernel
theorem dX11_init_14 : decode cX11_init 14 = .ok (.iconst 1, 1) := by decide +kernel
theorem dX11_init_15 : decode cX11_init 15 = .ok (.iconst (-1), 1) := by decide +kernel
theorem dX11_init_16 : decode cX11_init 16 = .ok (.iastore, 1) := by decide +kernel
theorem dX11_init_17 : decode cX11_init 17 = .ok (.dup, 1) := by decide +kernel
theorem dX11_init_18 : decode cX11_init 18 = .ok (.iconst 2, 1) := by decide +kernel
theorem dX11_init_19 : decode cX11_init 19 = .ok (.iconst (-1), 1) := by decide +kernel
theorem dX11_init_20 : decode cX11_init 20 = .ok (.iastore, 1) := by decide +kernel
theorem dX11_init_21 : decode cX11_init 21 = .ok (.dup, 1) := by decide +kernel
theorem dX11_init_22 : decode cX11_init 22 = .ok (.iconst 3, 1) := by decide +kernel
theorem dX11_init_23 : decode cX11_init 23 = .ok (.iconst (-1), 1) := by decide +kernel
theorem dX11_init_24 : decode cX11_init 24 = .ok (.iastore, 1) := by decide +kernel
theorem dX11_init_25 : decode cX11_init 25 = .ok (.dup, 1) := by decide +kernel
theorem dX11_init_26 : decode cX11_init 26 = .ok (.iconst 4, 1) := by decide +kernel
theorem dX11_init_27 : decode cX11_init 27 = .ok (.iconst (-1), 1) := by decide +kernel
theorem dX11_init_28 : decode cX11_init 28 = .ok (.iastore, 1) := by decide +kernel
theorem dX11_init_29 : decode cX11_init 29 = .ok (.dup, 1) := by decide +kernel
theorem dX11_init_30 : decode cX11_init 30 = .ok (.iconst 5, 1) := by decide +kernel
theorem dX11_init_31 : decode cX11_init 31 = .ok (.iconst (-1), 1) := by decide +kernel
theorem dX11_init_32 : decode cX11_init 32 = .ok (.iastore, 1) := by decide +kernel
theorem dX11_init_33 : decode cX11_init 33 = .ok (.dup, 1) := by decide +kernel
theorem dX11_init_34 : decode cX11_init 34 = .ok (.bipush 6, 2) := by decide +kernel
theorem dX11_init_36 : decode cX11_init 36 = .ok (.iconst (-1), 1) := by decide +kernel
theorem dX11_init_37 : decode cX11_init 37 = .ok (.iastore, 1) := by decide +kernel
theorem dX11_init_38 : decode cX11_init 38 = .ok (.dup, 1) := by decide +kernel
theorem dX11_init_39 : decode cX11_init 39 = .ok (.bipush 7, 2) := by decide +kernel
theorem dX11_init_41 : decode cX11_init 41 = .ok (.iconst (-1), 1) := by decide +kernel
theorem dX11_init_42 : decode cX11_init 42 = .ok (.iastore, 1) := by decide +kernel
theorem dX11_init_43 : decode cX11_init 43 = .ok (.putfield 7, 3) := by decide +kernel
theorem dX11_init_46 : decode cX11_init 46 = .ok (.aload_n 0, 1) := by decide +kernel
theorem dX11_init_47 : decode cX11_init 47 = .ok (.bipush 8, 2) := by decide +kernel
theorem dX11_init_49 : decode cX11_init 49 = .ok (.newarray .int, 2) := by decide +kernel
theorem dX11_init_51 : decode cX11_init 51 = .ok (.putfield 13, 3) := by decide +kernel
theorem dX11_init_54 : decode cX11_init 54 = .ok (.aload_n 0, 1) := by decide +kernel
theorem dX11_init_55 : decode cX11_init 55 = .ok (.sipush 480, 3) := by decide +kernel
theorem dX11_init_58 : decode cX11_init 58 = .ok (.newarray .int, 2) := by decide +kernel
theorem dX11_init_60 : decode cX11_init 60 = .ok (.putfield 16, 3) := by decide +kernel
theorem dX11_init_63 : decode cX11_init 63 = .ok (.aload_n 0, 1) := by decide +kernel
theorem dX11_init_64 : decode cX11_init 64 = .ok (.bipush 16, 2) := by decide +kernel
theorem dX11_init_66 : decode cX11_init 66 = .ok (.newarray .int, 2) := by decide +kernel
theorem dX11_init_68 : decode cX11_init 68 = .ok (.putfield 19, 3) := by decide +kernel
theorem dX11_init_71 : decode cX11_init 71 = .ok (.aload_n 0, 1) := by decide +kernel
theorem dX11_init_72 : decode cX11_init 72 = .ok (.bipush 15, 2) := by decide +kernel
theorem dX11_init_74 : decode cX11_init 74 = .ok (.newarray .int, 2) := by decide +kernel
theorem dX11_init_76 : decode cX11_init 76 = .ok (.putfield 22, 3) := by decide +kernel
theorem dX11_init_79 : decode cX11_init 79 = .ok (.aload_n 0, 1) := by decide +kernel
theorem dX11_init_80 : decode cX11_init 80 = .ok (.sipush 180, 3) := by decide +kernel
theorem dX11_init_83 : decode cX11_init 83 = .ok (.newarray .int, 2) := by decide +kernel
theorem dX11_init_85 : decode cX11_init 85 = .ok (.putfield 25, 3) := by decide +kernel
theorem dX11_init_88 : decode cX11_init 88 = .ok (.aload_n 0, 1) := by decide +kernel
theorem dX11_init_89 : decode cX11_init 89 = .ok (.bipush 15, 2) := by decide +kernel
theorem dX11_init_91 : decode cX11_init 91 = .ok (.newarray .int, 2) := by decide +kernel
theorem dX11_init_93 : decode cX11_init 93 = .ok (.putfield 28, 3) := by decide +kernel
theorem dX11_init_96 : decode cX11_init 96 = .ok (.aload_n 0, 1) := by decide +kernel
theorem dX11_init_97 : decode cX11_init 97 = .ok (.bipush 15, 2) := by decide +kernel
theorem dX11_init_99 : decode cX11_init 99 = .ok (.newarray .int, 2) := by decide +kernel
theorem dX11_init_101 : decode cX11_init 101 = .ok (.putfield 31, 3) := by decide +kernel
theorem dX11_init_104 : decode cX11_init 104 = .ok (.aload_n 0, 1) := by decide +kernel
theorem dX11_init_105 : decode cX11_init 105 = .ok (.sipush 180, 3) := by decide +kernel
theorem dX11_init_108 : decode cX11_init 108 = .ok (.newarray .int, 2) := by decide +kernel
theorem dX11_init_110 : decode cX11_init 110 = .ok (.putfield 34, 3) := by decide +kernel
theorem dX11_init_113 : decode cX11_init 113 = .ok (.aload_n 0, 1) := by decide +kernel
theorem dX11_init_114 : decode cX11_init 114 = .ok (.bipush 15, 2) := by decide +kernel
theorem dX11_init_116 : decode cX11_init 116 = .ok (.newarray .int, 2) := by decide +kernel
theorem dX11_init_118 : decode cX11_init 118 = .ok (.putfield 37, 3) := by decide +kernel
theorem dX11_init_121 : decode cX11_init 121 = .ok (.aload_n 0, 1) := by decide +kernel
theorem dX11_init_122 : decode cX11_init 122 = .ok (.sipush 400, 3) := by decide +kernel
theorem dX11_init_125 : decode cX11_init 125 = .ok (.newarray .int, 2) := by decide +kernel
theorem dX11_init_127 : decode cX11_init 127 = .ok (.putfield 40, 3) := by decide +kernel
theorem dX11_init_130 : decode cX11_init 130 = .ok (.aload_n 0, 1) := by decide +kernel
theorem dX11_init_131 : decode cX11_init 131 = .ok (.bipush 100, 2) := by decide +kernel
theorem dX11_init_133 : decode cX11_init 133 = .ok (.newarray .int, 2) := by decide +kernel
theorem dX11_init_135 : decode cX11_init 135 = .ok (.putfield 43, 3) := by decide +kernel
theorem dX11_init_138 : decode cX11_init 138 = .ok (.aload_n 0, 1) := by decide +kernel
theorem dX11_init_139 : decode cX11_init 139 = .ok (.bipush 100, 2) := by decide +kernel
theorem dX11_init_141 : decode cX11_init 141 = .ok (.newarray .int, 2) := by decide +kernel
theorem dX11_init_143 : decode cX11_init 143 = .ok (.putfield 46, 3) := by decide +kernel
theorem dX11_init_146 : decode cX11_init 146 = .ok (.aload_n 0, 1) := by decide +kernel
theorem dX11_init_147 : decode cX11_init 147 = .ok (.bipush 16, 2) := by decide +kernel
theorem dX11_init_149 : decode cX11_init 149 = .ok (.newarray .int, 2) := by decide +kernel
theorem dX11_init_151 : decode cX11_init 151 = .ok (.putfield 49, 3) := by decide +kernel
theorem dX11_init_154 : decode cX11_init 154 = .ok (.return_, 1) := by decide +kernel
theorem dX11_in_0 : decode cX11_in 0 = .ok (.lload_n 0, 1) := by decide +kernel
theorem dX11_in_1 : decode cX11_in 1 = .ok (.lload_n 2, 1) := by decide +kernel
theorem dX11_in_2 : decode cX11_in 2 = .ok (.lcmp, 1) := by decide +kernel
theorem dX11_in_3 : decode cX11_in 3 = .ok (.ifCond .lt 14, 3) := by decide +kernel
theorem dX11_in_6 : decode cX11_in 6 = .ok (.lload_n 0, 1) := by decide +kernel
theorem dX11_in_7 : decode cX11_in 7 = .ok (.lload 4, 2) := by decide +kernel
theorem dX11_in_9 : decode cX11_in 9 = .ok (.lcmp, 1) := by decide +kernel
theorem dX11_in_10 : decode cX11_in 10 = .ok (.ifCond .gt 7, 3) := by decide +kernel
end
section
theorem dX11_in_13 : decode cX11_in 13 = .ok (.iconst 1, 1) := by decide +kernel
theorem dX11_in_14 : decode cX11_in 14 = .ok (.goto 4, 3) := by decide +kernel
theorem dX11_in_17 : decode cX11_in 17 = .ok (.iconst 0, 1) := by decide +kernel
theorem dX11_in_18 : decode cX11_in 18 = .ok (.ireturn, 1) := by decide +kernel
theorem dX11_found_0 : decode cX11_found 0 = .ok (.aload_n 0, 1) := by decide +kernel
theorem dX11_found_1 : decode cX11_found 1 = .ok (.iload_n 1, 1) := by decide +kernel
theorem dX11_found_2 : decode cX11_found 2 = .ok (.putfield 56, 3) := by decide +kernel
theorem dX11_found_5 : decode cX11_found 5 = .ok (.ldc 59, 2) := by decide +kernel
theorem dX11_found_7 : decode cX11_found 7 = .ok (.iload_n 1, 1) := by decide +kernel
theorem dX11_found_8 : decode cX11_found 8 = .ok (.isub, 1) := by decide +kernel
theorem dX11_found_9 : decode cX11_found 9 = .ok (.ireturn, 1) := by decide +kernel
theorem dX11_isSheet_0 : decode cX11_isSheet 0 = .ok (.iload_n 0, 1) := by decide +kernel
theorem dX11_isSheet_1 : decode cX11_isSheet 1 = .ok (.i2l, 1) := by decide +kernel
theorem dX11_isSheet_2 : decode cX11_isSheet 2 = .ok (.lconst 0, 1) := by decide +kernel
theorem dX11_isSheet_3 : decode cX11_isSheet 3 = .ok (.ldc2_w 60, 3) := by decide +kernel
theorem dX11_isSheet_6 : decode cX11_isSheet 6 = .ok (.invokestatic 62, 3) := by decide +kernel
theorem dX11_isSheet_9 : decode cX11_isSheet 9 = .ok (.ireturn, 1) := by decide +kernel
theorem dX11_sheet_0 : decode cX11_sheet 0 = .ok (.aload_n 0, 1) := by decide +kernel
theorem dX11_sheet_1 : decode cX11_sheet 1 = .ok (.iconst 0, 1) := by decide +kernel
theorem dX11_sheet_2 : decode cX11_sheet 2 = .ok (.putfield 52, 3) := by decide +kernel
theorem dX11_sheet_5 : decode cX11_sheet 5 = .ok (.iload_n 1, 1) := by decide +kernel
theorem dX11_sheet_6 : decode cX11_sheet 6 = .ok (.invokestatic 66, 3) := by decide +kernel
theorem dX11_sheet_9 : decode cX11_sheet 9 = .ok (.ifCond .eq 21, 3) := by decide +kernel
theorem dX11_sheet_12 : decode cX11_sheet 12 = .ok (.iload_n 2, 1) := by decide +kernel
theorem dX11_sheet_13 : decode cX11_sheet 13 = .ok (.i2l, 1) := by decide +kernel
theorem dX11_sheet_14 : decode cX11_sheet 14 = .ok (.lconst 0, 1) := by decide +kernel
theorem dX11_sheet_15 : decode cX11_sheet 15 = .ok (.ldc2_w 70, 3) := by decide +kernel
theorem dX11_sheet_18 : decode cX11_sheet 18 = .ok (.invokestatic 62, 3) := by decide +kernel
theorem dX11_sheet_21 : decode cX11_sheet 21 = .ok (.ifCond .eq 9, 3) := by decide +kernel
theorem dX11_sheet_24 : decode cX11_sheet 24 = .ok (.iload_n 3, 1) := by decide +kernel
theorem dX11_sheet_25 : decode cX11_sheet 25 = .ok (.bipush 60, 2) := by decide +kernel
theorem dX11_sheet_27 : decode cX11_sheet 27 = .ok (.if_icmp .le 6, 3) := by decide +kernel
theorem dX11_sheet_30 : decode cX11_sheet 30 = .ok (.ldc 72, 2) := by decide +kernel
theorem dX11_sheet_32 : decode cX11_sheet 32 = .ok (.ireturn, 1) := by decide +kernel
theorem dX11_sheet_33 : decode cX11_sheet 33 = .ok (.aload_n 0, 1) := by decide +kernel
theorem dX11_sheet_34 : decode cX11_sheet 34 = .ok (.iconst 0, 1) := by decide +kernel
theorem dX11_sheet_35 : decode cX11_sheet 35 = .ok (.putfield 56, 3) := by decide +kernel
theorem dX11_sheet_38 : decode cX11_sheet 38 = .ok (.iload_n 3, 1) := by decide +kernel
theorem dX11_sheet_39 : decode cX11_sheet 39 = .ok (.ifCond .ge 9, 3) := by decide +kernel
theorem dX11_sheet_42 : decode cX11_sheet 42 = .ok (.aload_n 0, 1) := by decide +kernel
theorem dX11_sheet_43 : decode cX11_sheet 43 = .ok (.iconst 4, 1) := by decide +kernel
theorem dX11_sheet_44 : decode cX11_sheet 44 = .ok (.invokevirtual 73, 3) := by decide +kernel
theorem dX11_sheet_47 : decode cX11_sheet 47 = .ok (.ireturn, 1) := by decide +kernel
theorem dX11_sheet_48 : decode cX11_sheet 48 = .ok (.aload_n 0, 1) := by decide +kernel
theorem dX11_sheet_49 : decode cX11_sheet 49 = .ok (.getfield 7, 3) := by decide +kernel
theorem dX11_sheet_52 : decode cX11_sheet 52 = .ok (.iload_n 1, 1) := by decide +kernel
theorem dX11_sheet_53 : decode cX11_sheet 53 = .ok (.iload_n 2, 1) := by decide +kernel
theorem dX11_sheet_54 : decode cX11_sheet 54 = .ok (.iastore, 1) := by decide +kernel
theorem dX11_sheet_55 : decode cX11_sheet 55 = .ok (.aload_n 0, 1) := by decide +kernel
theorem dX11_sheet_56 : decode cX11_sheet 56 = .ok (.getfield 13, 3) := by decide +kernel
theorem dX11_sheet_59 : decode cX11_sheet 59 = .ok (.iload_n 1, 1) := by decide +kernel
theorem dX11_sheet_60 : decode cX11_sheet 60 = .ok (.iload_n 3, 1) := by decide +kernel
theorem dX11_sheet_61 : decode cX11_sheet 61 = .ok (.iastore, 1) := by decide +kernel
theorem dX11_sheet_62 : decode cX11_sheet 62 = .ok (.iconst 0, 1) := by decide +kernel
theorem dX11_sheet_63 : decode cX11_sheet 63 = .ok (.istore 4, 2) := by decide +kernel
theorem dX11_sheet_65 : decode cX11_sheet 65 = .ok (.iload 4, 2) := by decide +kernel
theorem dX11_sheet_67 : decode cX11_sheet 67 = .ok (.bipush 60, 2) := by decide +kernel
theorem dX11_sheet_69 : decode cX11_sheet 69 = .ok (.if_icmp .ge 22, 3) := by decide +kernel
theorem dX11_sheet_72 : decode cX11_sheet 72 = .ok (.aload_n 0, 1) := by decide +kernel
theorem dX11_sheet_73 : decode cX11_sheet 73 = .ok (.getfield 16, 3) := by decide +kernel
theorem dX11_sheet_76 : decode cX11_sheet 76 = .ok (.bipush 60, 2) := by decide +kernel
theorem dX11_sheet_78 : decode cX11_sheet 78 = .ok (.iload_n 1, 1) := by decide +kernel
theorem dX11_sheet_79 : decode cX11_sheet 79 = .ok (.imul, 1) := by decide +kernel
theorem dX11_sheet_80 : decode cX11_sheet 80 = .ok (.iload 4, 2) := by decide +kernel
theorem dX11_sheet_82 : decode cX11_sheet 82 = .ok (.iadd, 1) := by decide +kernel
theorem dX11_sheet_83 : decode cX11_sheet 83 = .ok (.iconst 0, 1) := by decide +kernel
theorem dX11_sheet_84 : decode cX11_sheet 84 = .ok (.iastore, 1) := by decide +kernel
theorem dX11_sheet_85 : decode cX11_sheet 85 = .ok (.iinc 4 1, 3) := by decide +kernel
theorem dX11_sheet_88 : decode cX11_sheet 88 = .ok (.goto (-23), 3) := by decide +kernel
theorem dX11_sheet_91 : decode cX11_sheet 91 = .ok (.iload_n 3, 1) := by decide +kernel
theorem dX11_sheet_92 : decode cX11_sheet 92 = .ok (.ireturn, 1) := by decide +kernel
theorem dX11_set_0 : decode cX11_set 0 = .ok (.aload_n 0, 1) := by decide +kernel
theorem dX11_set_1 : decode cX11_set 1 = .ok (.iconst 0, 1) := by decide +kernel
theorem dX11_set_2 : decode cX11_set 2 = .ok (.putfield 52, 3) := by decide +kernel
theorem dX11_set_5 : decode cX11_set 5 = .ok (.iload_n 1, 1) := by decide +kernel
theorem dX11_set_6 : decode cX11_set 6 = .ok (.invokestatic 66, 3) := by decide +kernel
theorem dX11_set_9 : decode cX11_set 9 = .ok (.ifCond .ne 6, 3) := by decide +kernel
theorem dX11_set_12 : decode cX11_set 12 = .ok (.ldc 72, 2) := by decide +kernel
theorem dX11_set_14 : decode cX11_set 14 = .ok (.ireturn, 1) := by decide +kernel
theorem dX11_set_15 : decode cX11_set 15 = .ok (.aload_n 0, 1) := by decide +kernel
theorem dX11_set_16 : decode cX11_set 16 = .ok (.iconst 0, 1) := by decide +kernel
theorem dX11_set_17 : decode cX11_set 17 = .ok (.putfield 56, 3) := by decide +kernel
theorem dX11_set_20 : decode cX11_set 20 = .ok (.aload_n 0, 1) := by decide +kernel
theorem dX11_set_21 : decode cX11_set 21 = .ok (.getfield 7, 3) := by decide +kernel
theorem dX11_set_24 : decode cX11_set 24 = .ok (.iload_n 1, 1) := by decide +kernel
theorem dX11_set_25 : decode cX11_set 25 = .ok (.iaload, 1) := by decide +kernel
theorem dX11_set_26 : decode cX11_set 26 = .ok (.ifCond .ge 9, 3) := by decide +kernel
theorem dX11_set_29 : decode cX11_set 29 = .ok (.aload_n 0, 1) := by decide +kernel
theorem dX11_set_30 : decode cX11_set 30 = .ok (.iconst 1, 1) := by decide +kernel
theorem dX11_set_31 : decode cX11_set 31 = .ok (.invokevirtual 73, 3) := by decide +kernel
theorem dX11_set_34 : decode cX11_set 34 = .ok (.ireturn, 1) := by decide +kernel
theorem dX11_set_35 : decode cX11_set 35 = .ok (.iload_n 2, 1) := by decide +kernel
theorem dX11_set_36 : decode cX11_set 36 = .ok (.i2l, 1) := by decide +kernel
theorem dX11_set_37 : decode cX11_set 37 = .ok (.lconst 0, 1) := by decide +kernel
theorem dX11_set_38 : decode cX11_set 38 = .ok (.aload_n 0, 1) := by decide +kernel
theorem dX11_set_39 : decode cX11_set 39 = .ok (.getfield 13, 3) := by decide +kernel
theorem dX11_set_42 : decode cX11_set 42 = .ok (.iload_n 1, 1) := by decide +kernel
theorem dX11_set_43 : decode cX11_set 43 = .ok (.iaload, 1) := by decide +kernel
theorem dX11_set_44 : decode cX11_set 44 = .ok (.iconst 1, 1) := by decide +kernel
theorem dX11_set_45 : decode cX11_set 45 = .ok (.isub, 1) := by decide +kernel
theorem dX11_set_46 : decode cX11_set 46 = .ok (.i2l, 1) := by decide +kernel
theorem dX11_set_47 : decode cX11_set 47 = .ok (.invokestatic 62, 3) := by decide +kernel
theorem dX11_set_50 : decode cX11_set 50 = .ok (.ifCond .ne 9, 3) := by decide +kernel
theorem dX11_set_53 : decode cX11_set 53 = .ok (.aload_n 0, 1) := by decide +kernel
theorem dX11_set_54 : decode cX11_set 54 = .ok (.iconst 2, 1) := by decide +kernel
theorem dX11_set_55 : decode cX11_set 55 = .ok (.invokevirtual 73, 3) := by decide +kernel
theorem dX11_set_58 : decode cX11_set 58 = .ok (.ireturn, 1) := by decide +kernel
theorem dX11_set_59 : decode cX11_set 59 = .ok (.aload_n 0, 1) := by decide +kernel
theorem dX11_set_60 : decode cX11_set 60 = .ok (.getfield 16, 3) := by decide +kernel
theorem dX11_set_63 : decode cX11_set 63 = .ok (.bipush 60, 2) := by decide +kernel
theorem dX11_set_65 : decode cX11_set 65 = .ok (.iload_n 1, 1) := by decide +kernel
theorem dX11_set_66 : decode cX11_set 66 = .ok (.imul, 1) := by decide +kernel
theorem dX11_set_67 : decode cX11_set 67 = .ok (.iload_n 2, 1) := by decide +kernel
theorem dX11_set_68 : decode cX11_set 68 = .ok (.iadd, 1) := by decide +kernel
theorem dX11_set_69 : decode cX11_set 69 = .ok (.aload_n 0, 1) := by decide +kernel
theorem dX11_set_70 : decode cX11_set 70 = .ok (.getfield 7, 3) := by decide +kernel
theorem dX11_set_73 : decode cX11_set 73 = .ok (.iload_n 1, 1) := by decide +kernel
theorem dX11_set_74 : decode cX11_set 74 = .ok (.iaload, 1) := by decide +kernel
theorem dX11_set_75 : decode cX11_set 75 = .ok (.ifCond .ne 8, 3) := by decide +kernel
theorem dX11_set_78 : decode cX11_set 78 = .ok (.iload_n 3, 1) := by decide +kernel
theorem dX11_set_79 : decode cX11_set 79 = .ok (.i2b, 1) := by decide +kernel
theorem dX11_set_80 : decode cX11_set 80 = .ok (.goto 19, 3) := by decide +kernel
theorem dX11_set_83 : decode cX11_set 83 = .ok (.aload_n 0, 1) := by decide +kernel
theorem dX11_set_84 : decode cX11_set 84 = .ok (.getfield 7, 3) := by decide +kernel
theorem dX11_set_87 : decode cX11_set 87 = .ok (.iload_n 1, 1) := by decide +kernel
theorem dX11_set_88 : decode cX11_set 88 = .ok (.iaload, 1) := by decide +kernel
theorem dX11_set_89 : decode cX11_set 89 = .ok (.iconst 1, 1) := by decide +kernel
theorem dX11_set_90 : decode cX11_set 90 = .ok (.if_icmp .ne 8, 3) := by decide +kernel
theorem dX11_set_93 : decode cX11_set 93 = .ok (.iload_n 3, 1) := by decide +kernel
theorem dX11_set_94 : decode cX11_set 94 = .ok (.i2s, 1) := by decide +kernel
theorem dX11_set_95 : decode cX11_set 95 = .ok (.goto 4, 3) := by decide +kernel
theorem dX11_set_98 : decode cX11_set 98 = .ok (.iload_n 3, 1) := by decide +kernel
theorem dX11_set_99 : decode cX11_set 99 = .ok (.iastore, 1) := by decide +kernel
theorem dX11_set_100 : decode cX11_set 100 = .ok (.aload_n 0, 1) := by decide +kernel
theorem dX11_set_101 : decode cX11_set 101 = .ok (.getfield 16, 3) := by decide +kernel
theorem dX11_set_104 : decode cX11_set 104 = .ok (.bipush 60, 2) := by decide +kernel
theorem dX11_set_106 : decode cX11_set 106 = .ok (.iload_n 1, 1) := by decide +kernel
theorem dX11_set_107 : decode cX11_set 107 = .ok (.imul, 1) := by decide +kernel
theorem dX11_set_108 : decode cX11_set 108 = .ok (.iload_n 2, 1) := by decide +kernel
theorem dX11_set_109 : decode cX11_set 109 = .ok (.iadd, 1) := by decide +kernel
theorem dX11_set_110 : decode cX11_set 110 = .ok (.iaload, 1) := by decide +kernel
theorem dX11_set_111 : decode cX11_set 111 = .ok (.ireturn, 1) := by decide +kernel
theorem dX11_copy_0 : decode cX11_copy 0 = .ok (.aload_n 0, 1) := by decide +kernel
theorem dX11_copy_1 : decode cX11_copy 1 = .ok (.iconst 0, 1) := by decide +kernel
theorem dX11_copy_2 : decode cX11_copy 2 = .ok (.putfield 52, 3) := by decide +kernel
theorem dX11_copy_5 : decode cX11_copy 5 = .ok (.iload_n 1, 1) := by decide +kernel
theorem dX11_copy_6 : decode cX11_copy 6 = .ok (.invokestatic 66, 3) := by decide +kernel
theorem dX11_copy_9 : decode cX11_copy 9 = .ok (.ifCond .eq 10, 3) := by decide +kernel
theorem dX11_copy_12 : decode cX11_copy 12 = .ok (.iload_n 3, 1) := by decide +kernel
theorem dX11_copy_13 : decode cX11_copy 13 = .ok (.invokestatic 66, 3) := by decide +kernel
theorem dX11_copy_16 : decode cX11_copy 16 = .ok (.ifCond .ne 6, 3) := by decide +kernel
theorem dX11_copy_19 : decode cX11_copy 19 = .ok (.ldc 72, 2) := by decide +kernel
theorem dX11_copy_21 : decode cX11_copy 21 = .ok (.ireturn, 1) := by decide +kernel
theorem dX11_copy_22 : decode cX11_copy 22 = .ok (.aload_n 0, 1) := by decide +kernel
theorem dX11_copy_23 : decode cX11_copy 23 = .ok (.iconst 0, 1) := by decide +kernel
theorem dX11_copy_24 : decode cX11_copy 24 = .ok (.putfield 56, 3) := by decide +kernel
theorem dX11_copy_27 : decode cX11_copy 27 = .ok (.aload_n 0, 1) := by decide +kernel
theorem dX11_copy_28 : decode cX11_copy 28 = .ok (.getfield 7, 3) := by decide +kernel
theorem dX11_copy_31 : decode cX11_copy 31 = .ok (.iload_n 1, 1) := by decide +kernel
theorem dX11_copy_32 : decode cX11_copy 32 = .ok (.iaload, 1) := by decide +kernel
theorem dX11_copy_33 : decode cX11_copy 33 = .ok (.ifCond .lt 12, 3) := by decide +kernel
theorem dX11_copy_36 : decode cX11_copy 36 = .ok (.aload_n 0, 1) := by decide +kernel
theorem dX11_copy_37 : decode cX11_copy 37 = .ok (.getfield 7, 3) := by decide +kernel
theorem dX11_copy_40 : decode cX11_copy 40 = .ok (.iload_n 3, 1) := by decide +kernel
theorem dX11_copy_41 : decode cX11_copy 41 = .ok (.iaload, 1) := by decide +kernel
theorem dX11_copy_42 : decode cX11_copy 42 = .ok (.ifCond .ge 9, 3) := by decide +kernel
theorem dX11_copy_45 : decode cX11_copy 45 = .ok (.aload_n 0, 1) := by decide +kernel
theorem dX11_copy_46 : decode cX11_copy 46 = .ok (.iconst 1, 1) := by decide +kernel
theorem dX11_copy_47 : decode cX11_copy 47 = .ok (.invokevirtual 73, 3) := by decide +kernel
theorem dX11_copy_50 : decode cX11_copy 50 = .ok (.ireturn, 1) := by decide +kernel
theorem dX11_copy_51 : decode cX11_copy 51 = .ok (.aload_n 0, 1) := by decide +kernel
theorem dX11_copy_52 : decode cX11_copy 52 = .ok (.getfield 7, 3) := by decide +kernel
theorem dX11_copy_55 : decode cX11_copy 55 = .ok (.iload_n 1, 1) := by decide +kernel
theorem dX11_copy_56 : decode cX11_copy 56 = .ok (.iaload, 1) := by decide +kernel
theorem dX11_copy_57 : decode cX11_copy 57 = .ok (.aload_n 0, 1) := by decide +kernel
theorem dX11_copy_58 : decode cX11_copy 58 = .ok (.getfield 7, 3) := by decide +kernel
theorem dX11_copy_61 : decode cX11_copy 61 = .ok (.iload_n 3, 1) := by decide +kernel
theorem dX11_copy_62 : decode cX11_copy 62 = .ok (.iaload, 1) := by decide +kernel
theorem dX11_copy_63 : decode cX11_copy 63 = .ok (.if_icmp .eq 9, 3) := by decide +kernel
theorem dX11_copy_66 : decode cX11_copy 66 = .ok (.aload_n 0, 1) := by decide +kernel
theorem dX11_copy_67 : decode cX11_copy 67 = .ok (.iconst 5, 1) := by decide +kernel
theorem dX11_copy_68 : decode cX11_copy 68 = .ok (.invokevirtual 73, 3) := by decide +kernel
theorem dX11_copy_71 : decode cX11_copy 71 = .ok (.ireturn, 1) := by decide +kernel
theorem dX11_copy_72 : decode cX11_copy 72 = .ok (.iload_n 2, 1) := by decide +kernel
theorem dX11_copy_73 : decode cX11_copy 73 = .ok (.ifCond .lt 48, 3) := by decide +kernel
theorem dX11_copy_76 : decode cX11_copy 76 = .ok (.iload 4, 2) := by decide +kernel
theorem dX11_copy_78 : decode cX11_copy 78 = .ok (.ifCond .lt 43, 3) := by decide +kernel
theorem dX11_copy_81 : decode cX11_copy 81 = .ok (.iload 5, 2) := by decide +kernel
theorem dX11_copy_83 : decode cX11_copy 83 = .ok (.ifCond .lt 38, 3) := by decide +kernel
theorem dX11_copy_86 : decode cX11_copy 86 = .ok (.iload_n 2, 1) := by decide +kernel
theorem dX11_copy_87 : decode cX11_copy 87 = .ok (.i2l, 1) := by decide +kernel
theorem dX11_copy_88 : decode cX11_copy 88 = .ok (.iload 5, 2) := by decide +kernel
theorem dX11_copy_90 : decode cX11_copy 90 = .ok (.i2l, 1) := by decide +kernel
theorem dX11_copy_91 : decode cX11_copy 91 = .ok (.ladd, 1) := by decide +kernel
theorem dX11_copy_92 : decode cX11_copy 92 = .ok (.aload_n 0, 1) := by decide +kernel
theorem dX11_copy_93 : decode cX11_copy 93 = .ok (.getfield 13, 3) := by decide +kernel
theorem dX11_copy_96 : decode cX11_copy 96 = .ok (.iload_n 1, 1) := by decide +kernel
theorem dX11_copy_97 : decode cX11_copy 97 = .ok (.iaload, 1) := by decide +kernel
theorem dX11_copy_98 : decode cX11_copy 98 = .ok (.i2l, 1) := by decide +kernel
theorem dX11_copy_99 : decode cX11_copy 99 = .ok (.lcmp, 1) := by decide +kernel
theorem dX11_copy_100 : decode cX11_copy 100 = .ok (.ifCond .gt 21, 3) := by decide +kernel
theorem dX11_copy_103 : decode cX11_copy 103 = .ok (.iload 4, 2) := by decide +kernel
theorem dX11_copy_105 : decode cX11_copy 105 = .ok (.i2l, 1) := by decide +kernel
theorem dX11_copy_106 : decode cX11_copy 106 = .ok (.iload 5, 2) := by decide +kernel
theorem dX11_copy_108 : decode cX11_copy 108 = .ok (.i2l, 1) := by decide +kernel
theorem dX11_copy_109 : decode cX11_copy 109 = .ok (.ladd, 1) := by decide +kernel
theorem dX11_copy_110 : decode cX11_copy 110 = .ok (.aload_n 0, 1) := by decide +kernel
theorem dX11_copy_111 : decode cX11_copy 111 = .ok (.getfield 13, 3) := by decide +kernel
theorem dX11_copy_114 : decode cX11_copy 114 = .ok (.iload_n 3, 1) := by decide +kernel
theorem dX11_copy_115 : decode cX11_copy 115 = .ok (.iaload, 1) := by decide +kernel
theorem dX11_copy_116 : decode cX11_copy 116 = .ok (.i2l, 1) := by decide +kernel
theorem dX11_copy_117 : decode cX11_copy 117 = .ok (.lcmp, 1) := by decide +kernel
theorem dX11_copy_118 : decode cX11_copy 118 = .ok (.ifCond .le 9, 3) := by decide +kernel
theorem dX11_copy_121 : decode cX11_copy 121 = .ok (.aload_n 0, 1) := by decide +kernel
theorem dX11_copy_122 : decode cX11_copy 122 = .ok (.iconst 2, 1) := by decide +kernel
theorem dX11_copy_123 : decode cX11_copy 123 = .ok (.invokevirtual 73, 3) := by decide +kernel
theorem dX11_copy_126 : decode cX11_copy 126 = .ok (.ireturn, 1) := by decide +kernel
theorem dX11_copy_127 : decode cX11_copy 127 = .ok (.iload_n 2, 1) := by decide +kernel
theorem dX11_copy_128 : decode cX11_copy 128 = .ok (.iload 4, 2) := by decide +kernel
theorem dX11_copy_130 : decode cX11_copy 130 = .ok (.if_icmp .lt 7, 3) := by decide +kernel
theorem dX11_copy_133 : decode cX11_copy 133 = .ok (.iconst 1, 1) := by decide +kernel
theorem dX11_copy_134 : decode cX11_copy 134 = .ok (.goto 4, 3) := by decide +kernel
theorem dX11_copy_137 : decode cX11_copy 137 = .ok (.iconst 0, 1) := by decide +kernel
theorem dX11_copy_138 : decode cX11_copy 138 = .ok (.istore 6, 2) := by decide +kernel
theorem dX11_copy_140 : decode cX11_copy 140 = .ok (.iconst 0, 1) := by decide +kernel
theorem dX11_copy_141 : decode cX11_copy 141 = .ok (.istore 7, 2) := by decide +kernel
theorem dX11_copy_143 : decode cX11_copy 143 = .ok (.iload 7, 2) := by decide +kernel
theorem dX11_copy_145 : decode cX11_copy 145 = .ok (.iload 5, 2) := by decide +kernel
theorem dX11_copy_147 : decode cX11_copy 147 = .ok (.if_icmp .ge 57, 3) := by decide +kernel
theorem dX11_copy_150 : decode cX11_copy 150 = .ok (.iload 6, 2) := by decide +kernel
theorem dX11_copy_152 : decode cX11_copy 152 = .ok (.ifCond .eq 8, 3) := by decide +kernel
theorem dX11_copy_155 : decode cX11_copy 155 = .ok (.iload 7, 2) := by decide +kernel
theorem dX11_copy_157 : decode cX11_copy 157 = .ok (.goto 10, 3) := by decide +kernel
theorem dX11_copy_160 : decode cX11_copy 160 = .ok (.iload 5, 2) := by decide +kernel
theorem dX11_copy_162 : decode cX11_copy 162 = .ok (.iconst 1, 1) := by decide +kernel
theorem dX11_copy_163 : decode cX11_copy 163 = .ok (.isub, 1) := by decide +kernel
theorem dX11_copy_164 : decode cX11_copy 164 = .ok (.iload 7, 2) := by decide +kernel
theorem dX11_copy_166 : decode cX11_copy 166 = .ok (.isub, 1) := by decide +kernel
theorem dX11_copy_167 : decode cX11_copy 167 = .ok (.istore 8, 2) := by decide +kernel
theorem dX11_copy_169 : decode cX11_copy 169 = .ok (.aload_n 0, 1) := by decide +kernel
theorem dX11_copy_170 : decode cX11_copy 170 = .ok (.getfield 16, 3) := by decide +kernel
theorem dX11_copy_173 : decode cX11_copy 173 = .ok (.bipush 60, 2) := by decide +kernel
theorem dX11_copy_175 : decode cX11_copy 175 = .ok (.iload_n 3, 1) := by decide +kernel
theorem dX11_copy_176 : decode cX11_copy 176 = .ok (.imul, 1) := by decide +kernel
theorem dX11_copy_177 : decode cX11_copy 177 = .ok (.iload 4, 2) := by decide +kernel
theorem dX11_copy_179 : decode cX11_copy 179 = .ok (.iadd, 1) := by decide +kernel
theorem dX11_copy_180 : decode cX11_copy 180 = .ok (.iload 8, 2) := by decide +kernel
theorem dX11_copy_182 : decode cX11_copy 182 = .ok (.iadd, 1) := by decide +kernel
theorem dX11_copy_183 : decode cX11_copy 183 = .ok (.aload_n 0, 1) := by decide +kernel
theorem dX11_copy_184 : decode cX11_copy 184 = .ok (.getfield 16, 3) := by decide +kernel
theorem dX11_copy_187 : decode cX11_copy 187 = .ok (.bipush 60, 2) := by decide +kernel
theorem dX11_copy_189 : decode cX11_copy 189 = .ok (.iload_n 1, 1) := by decide +kernel
theorem dX11_copy_190 : decode cX11_copy 190 = .ok (.imul, 1) := by decide +kernel
theorem dX11_copy_191 : decode cX11_copy 191 = .ok (.iload_n 2, 1) := by decide +kernel
theorem dX11_copy_192 : decode cX11_copy 192 = .ok (.iadd, 1) := by decide +kernel
theorem dX11_copy_193 : decode cX11_copy 193 = .ok (.iload 8, 2) := by decide +kernel
theorem dX11_copy_195 : decode cX11_copy 195 = .ok (.iadd, 1) := by decide +kernel
theorem dX11_copy_196 : decode cX11_copy 196 = .ok (.iaload, 1) := by decide +kernel
theorem dX11_copy_197 : decode cX11_copy 197 = .ok (.iastore, 1) := by decide +kernel
theorem dX11_copy_198 : decode cX11_copy 198 = .ok (.iinc 7 1, 3) := by decide +kernel
theorem dX11_copy_201 : decode cX11_copy 201 = .ok (.goto (-58), 3) := by decide +kernel
theorem dX11_copy_204 : decode cX11_copy 204 = .ok (.iload 5, 2) := by decide +kernel
theorem dX11_copy_206 : decode cX11_copy 206 = .ok (.ireturn, 1) := by decide +kernel
theorem dX11_drop_0 : decode cX11_drop 0 = .ok (.aload_n 0, 1) := by decide +kernel
theorem dX11_drop_1 : decode cX11_drop 1 = .ok (.iconst 0, 1) := by decide +kernel
theorem dX11_drop_2 : decode cX11_drop 2 = .ok (.putfield 52, 3) := by decide +kernel
theorem dX11_drop_5 : decode cX11_drop 5 = .ok (.iload_n 1, 1) := by decide +kernel
theorem dX11_drop_6 : decode cX11_drop 6 = .ok (.invokestatic 66, 3) := by decide +kernel
theorem dX11_drop_9 : decode cX11_drop 9 = .ok (.ifCond .ne 6, 3) := by decide +kernel
theorem dX11_drop_12 : decode cX11_drop 12 = .ok (.ldc 72, 2) := by decide +kernel
theorem dX11_drop_14 : decode cX11_drop 14 = .ok (.ireturn, 1) := by decide +kernel
theorem dX11_drop_15 : decode cX11_drop 15 = .ok (.aload_n 0, 1) := by decide +kernel
theorem dX11_drop_16 : decode cX11_drop 16 = .ok (.iconst 0, 1) := by decide +kernel
theorem dX11_drop_17 : decode cX11_drop 17 = .ok (.putfield 56, 3) := by decide +kernel
theorem dX11_drop_20 : decode cX11_drop 20 = .ok (.aload_n 0, 1) := by decide +kernel
theorem dX11_drop_21 : decode cX11_drop 21 = .ok (.getfield 7, 3) := by decide +kernel
theorem dX11_drop_24 : decode cX11_drop 24 = .ok (.iload_n 1, 1) := by decide +kernel
theorem dX11_drop_25 : decode cX11_drop 25 = .ok (.iaload, 1) := by decide +kernel
theorem dX11_drop_26 : decode cX11_drop 26 = .ok (.ifCond .ge 9, 3) := by decide +kernel
theorem dX11_drop_29 : decode cX11_drop 29 = .ok (.aload_n 0, 1) := by decide +kernel
theorem dX11_drop_30 : decode cX11_drop 30 = .ok (.iconst 1, 1) := by decide +kernel
theorem dX11_drop_31 : decode cX11_drop 31 = .ok (.invokevirtual 73, 3) := by decide +kernel
theorem dX11_drop_34 : decode cX11_drop 34 = .ok (.ireturn, 1) := by decide +kernel
theorem dX11_drop_35 : decode cX11_drop 35 = .ok (.aload_n 0, 1) := by decide +kernel
theorem dX11_drop_36 : decode cX11_drop 36 = .ok (.getfield 7, 3) := by decide +kernel
theorem dX11_drop_39 : decode cX11_drop 39 = .ok (.iload_n 1, 1) := by decide +kernel
theorem dX11_drop_40 : decode cX11_drop 40 = .ok (.iconst (-1), 1) := by decide +kernel
theorem dX11_drop_41 : decode cX11_drop 41 = .ok (.iastore, 1) := by decide +kernel
theorem dX11_drop_42 : decode cX11_drop 42 = .ok (.aload_n 0, 1) := by decide +kernel
theorem dX11_drop_43 : decode cX11_drop 43 = .ok (.getfield 13, 3) := by decide +kernel
theorem dX11_drop_46 : decode cX11_drop 46 = .ok (.iload_n 1, 1) := by decide +kernel
theorem dX11_drop_47 : decode cX11_drop 47 = .ok (.iaload, 1) := by decide +kernel
theorem dX11_drop_48 : decode cX11_drop 48 = .ok (.ireturn, 1) := by decide +kernel
theorem dX11_lay_0 : decode cX11_lay 0 = .ok (.iconst 0, 1) := by decide +kernel
theorem dX11_lay_1 : decode cX11_lay 1 = .ok (.istore_n 2, 1) := by decide +kernel
theorem dX11_lay_2 : decode cX11_lay 2 = .ok (.iload_n 2, 1) := by decide +kernel
theorem dX11_lay_3 : decode cX11_lay 3 = .ok (.iconst 4, 1) := by decide +kernel
theorem dX11_lay_4 : decode cX11_lay 4 = .ok (.if_icmp .ge 32, 3) := by decide +kernel
theorem dX11_lay_7 : decode cX11_lay 7 = .ok (.aload_n 0, 1) := by decide +kernel
theorem dX11_lay_8 : decode cX11_lay 8 = .ok (.getfield 19, 3) := by decide +kernel
theorem dX11_lay_11 : decode cX11_lay 11 = .ok (.iload_n 2, 1) := by decide +kernel
theorem dX11_lay_12 : decode cX11_lay 12 = .ok (.iload_n 1, 1) := by decide +kernel
theorem dX11_lay_13 : decode cX11_lay 13 = .ok (.iconst 4, 1) := by decide +kernel
theorem dX11_lay_14 : decode cX11_lay 14 = .ok (.iload_n 2, 1) := by decide +kernel
theorem dX11_lay_15 : decode cX11_lay 15 = .ok (.imul, 1) := by decide +kernel
theorem dX11_lay_16 : decode cX11_lay 16 = .ok (.ishr, 1) := by decide +kernel
theorem dX11_lay_17 : decode cX11_lay 17 = .ok (.bipush 15, 2) := by decide +kernel
theorem dX11_lay_19 : decode cX11_lay 19 = .ok (.iand, 1) := by decide +kernel
theorem dX11_lay_20 : decode cX11_lay 20 = .ok (.iastore, 1) := by decide +kernel
theorem dX11_lay_21 : decode cX11_lay 21 = .ok (.aload_n 0, 1) := by decide +kernel
theorem dX11_lay_22 : decode cX11_lay 22 = .ok (.getfield 19, 3) := by decide +kernel
theorem dX11_lay_25 : decode cX11_lay 25 = .ok (.iconst 4, 1) := by decide +kernel
theorem dX11_lay_26 : decode cX11_lay 26 = .ok (.iload_n 2, 1) := by decide +kernel
theorem dX11_lay_27 : decode cX11_lay 27 = .ok (.iadd, 1) := by decide +kernel
theorem dX11_lay_28 : decode cX11_lay 28 = .ok (.iconst 0, 1) := by decide +kernel
theorem dX11_lay_29 : decode cX11_lay 29 = .ok (.iastore, 1) := by decide +kernel
theorem dX11_lay_30 : decode cX11_lay 30 = .ok (.iinc 2 1, 3) := by decide +kernel
theorem dX11_lay_33 : decode cX11_lay 33 = .ok (.goto (-31), 3) := by decide +kernel
theorem dX11_lay_36 : decode cX11_lay 36 = .ok (.iconst 0, 1) := by decide +kernel
theorem dX11_lay_37 : decode cX11_lay 37 = .ok (.istore_n 2, 1) := by decide +kernel
theorem dX11_lay_38 : decode cX11_lay 38 = .ok (.iload_n 2, 1) := by decide +kernel
theorem dX11_lay_39 : decode cX11_lay 39 = .ok (.iconst 4, 1) := by decide +kernel
theorem dX11_lay_40 : decode cX11_lay 40 = .ok (.if_icmp .ge 45, 3) := by decide +kernel
theorem dX11_lay_43 : decode cX11_lay 43 = .ok (.iconst 0, 1) := by decide +kernel
theorem dX11_lay_44 : decode cX11_lay 44 = .ok (.istore_n 3, 1) := by decide +kernel
theorem dX11_lay_45 : decode cX11_lay 45 = .ok (.iload_n 3, 1) := by decide +kernel
theorem dX11_lay_46 : decode cX11_lay 46 = .ok (.iconst 4, 1) := by decide +kernel
theorem dX11_lay_47 : decode cX11_lay 47 = .ok (.if_icmp .ge 32, 3) := by decide +kernel
theorem dX11_lay_50 : decode cX11_lay 50 = .ok (.aload_n 0, 1) := by decide +kernel
theorem dX11_lay_51 : decode cX11_lay 51 = .ok (.getfield 19, 3) := by decide +kernel
theorem dX11_lay_54 : decode cX11_lay 54 = .ok (.iconst 4, 1) := by decide +kernel
theorem dX11_lay_55 : decode cX11_lay 55 = .ok (.iload_n 3, 1) := by decide +kernel
theorem dX11_lay_56 : decode cX11_lay 56 = .ok (.iadd, 1) := by decide +kernel
theorem dX11_lay_57 : decode cX11_lay 57 = .ok (.dup2, 1) := by decide +kernel
theorem dX11_lay_58 : decode cX11_lay 58 = .ok (.iaload, 1) := by decide +kernel
theorem dX11_lay_59 : decode cX11_lay 59 = .ok (.aload_n 0, 1) := by decide +kernel
theorem dX11_lay_60 : decode cX11_lay 60 = .ok (.getfield 19, 3) := by decide +kernel
theorem dX11_lay_63 : decode cX11_lay 63 = .ok (.iload_n 2, 1) := by decide +kernel
theorem dX11_lay_64 : decode cX11_lay 64 = .ok (.iaload, 1) := by decide +kernel
theorem dX11_lay_65 : decode cX11_lay 65 = .ok (.iload_n 3, 1) := by decide +kernel
theorem dX11_lay_66 : decode cX11_lay 66 = .ok (.ishr, 1) := by decide +kernel
theorem dX11_lay_67 : decode cX11_lay 67 = .ok (.iconst 1, 1) := by decide +kernel
theorem dX11_lay_68 : decode cX11_lay 68 = .ok (.iand, 1) := by decide +kernel
theorem dX11_lay_69 : decode cX11_lay 69 = .ok (.iload_n 2, 1) := by decide +kernel
theorem dX11_lay_70 : decode cX11_lay 70 = .ok (.ishl, 1) := by decide +kernel
theorem dX11_lay_71 : decode cX11_lay 71 = .ok (.ior, 1) := by decide +kernel
theorem dX11_lay_72 : decode cX11_lay 72 = .ok (.iastore, 1) := by decide +kernel
theorem dX11_lay_73 : decode cX11_lay 73 = .ok (.iinc 3 1, 3) := by decide +kernel
theorem dX11_lay_76 : decode cX11_lay 76 = .ok (.goto (-31), 3) := by decide +kernel
theorem dX11_lay_79 : decode cX11_lay 79 = .ok (.iinc 2 1, 3) := by decide +kernel
theorem dX11_lay_82 : decode cX11_lay 82 = .ok (.goto (-44), 3) := by decide +kernel
theorem dX11_lay_85 : decode cX11_lay 85 = .ok (.iconst 0, 1) := by decide +kernel
theorem dX11_lay_86 : decode cX11_lay 86 = .ok (.istore_n 2, 1) := by decide +kernel
theorem dX11_lay_87 : decode cX11_lay 87 = .ok (.iload_n 2, 1) := by decide +kernel
theorem dX11_lay_88 : decode cX11_lay 88 = .ok (.iconst 4, 1) := by decide +kernel
theorem dX11_lay_89 : decode cX11_lay 89 = .ok (.if_icmp .ge 37, 3) := by decide +kernel
theorem dX11_lay_92 : decode cX11_lay 92 = .ok (.aload_n 0, 1) := by decide +kernel
theorem dX11_lay_93 : decode cX11_lay 93 = .ok (.getfield 19, 3) := by decide +kernel
theorem dX11_lay_96 : decode cX11_lay 96 = .ok (.bipush 8, 2) := by decide +kernel
theorem dX11_lay_98 : decode cX11_lay 98 = .ok (.iload_n 2, 1) := by decide +kernel
theorem dX11_lay_99 : decode cX11_lay 99 = .ok (.iadd, 1) := by decide +kernel
theorem dX11_lay_100 : decode cX11_lay 100 = .ok (.aload_n 0, 1) := by decide +kernel
theorem dX11_lay_101 : decode cX11_lay 101 = .ok (.getfield 19, 3) := by decide +kernel
theorem dX11_lay_104 : decode cX11_lay 104 = .ok (.iconst 2, 1) := by decide +kernel
theorem dX11_lay_105 : decode cX11_lay 105 = .ok (.iload_n 2, 1) := by decide +kernel
theorem dX11_lay_106 : decode cX11_lay 106 = .ok (.imul, 1) := by decide +kernel
theorem dX11_lay_107 : decode cX11_lay 107 = .ok (.iaload, 1) := by decide +kernel
theorem dX11_lay_108 : decode cX11_lay 108 = .ok (.aload_n 0, 1) := by decide +kernel
theorem dX11_lay_109 : decode cX11_lay 109 = .ok (.getfield 19, 3) := by decide +kernel
theorem dX11_lay_112 : decode cX11_lay 112 = .ok (.iconst 2, 1) := by decide +kernel
theorem dX11_lay_113 : decode cX11_lay 113 = .ok (.iload_n 2, 1) := by decide +kernel
theorem dX11_lay_114 : decode cX11_lay 114 = .ok (.imul, 1) := by decide +kernel
theorem dX11_lay_115 : decode cX11_lay 115 = .ok (.iconst 1, 1) := by decide +kernel
theorem dX11_lay_116 : decode cX11_lay 116 = .ok (.iadd, 1) := by decide +kernel
theorem dX11_lay_117 : decode cX11_lay 117 = .ok (.iaload, 1) := by decide +kernel
theorem dX11_lay_118 : decode cX11_lay 118 = .ok (.ixor, 1) := by decide +kernel
theorem dX11_lay_119 : decode cX11_lay 119 = .ok (.iastore, 1) := by decide +kernel
theorem dX11_lay_120 : decode cX11_lay 120 = .ok (.iinc 2 1, 3) := by decide +kernel
theorem dX11_lay_123 : decode cX11_lay 123 = .ok (.goto (-36), 3) := by decide +kernel
theorem dX11_lay_126 : decode cX11_lay 126 = .ok (.aload_n 0, 1) := by decide +kernel
theorem dX11_lay_127 : decode cX11_lay 127 = .ok (.getfield 19, 3) := by decide +kernel
theorem dX11_lay_130 : decode cX11_lay 130 = .ok (.bipush 12, 2) := by decide +kernel
theorem dX11_lay_132 : decode cX11_lay 132 = .ok (.aload_n 0, 1) := by decide +kernel
theorem dX11_lay_133 : decode cX11_lay 133 = .ok (.getfield 19, 3) := by decide +kernel
theorem dX11_lay_136 : decode cX11_lay 136 = .ok (.bipush 8, 2) := by decide +kernel
theorem dX11_lay_138 : decode cX11_lay 138 = .ok (.iaload, 1) := by decide +kernel
theorem dX11_lay_139 : decode cX11_lay 139 = .ok (.aload_n 0, 1) := by decide +kernel
theorem dX11_lay_140 : decode cX11_lay 140 = .ok (.getfield 19, 3) := by decide +kernel
theorem dX11_lay_143 : decode cX11_lay 143 = .ok (.bipush 9, 2) := by decide +kernel
theorem dX11_lay_145 : decode cX11_lay 145 = .ok (.iaload, 1) := by decide +kernel
theorem dX11_lay_146 : decode cX11_lay 146 = .ok (.ixor, 1) := by decide +kernel
theorem dX11_lay_147 : decode cX11_lay 147 = .ok (.iastore, 1) := by decide +kernel
theorem dX11_lay_148 : decode cX11_lay 148 = .ok (.aload_n 0, 1) := by decide +kernel
theorem dX11_lay_149 : decode cX11_lay 149 = .ok (.getfield 19, 3) := by decide +kernel
theorem dX11_lay_152 : decode cX11_lay 152 = .ok (.bipush 13, 2) := by decide +kernel
theorem dX11_lay_154 : decode cX11_lay 154 = .ok (.aload_n 0, 1) := by decide +kernel
theorem dX11_lay_155 : decode cX11_lay 155 = .ok (.getfield 19, 3) := by decide +kernel
theorem dX11_lay_158 : decode cX11_lay 158 = .ok (.bipush 10, 2) := by decide +kernel
theorem dX11_lay_160 : decode cX11_lay 160 = .ok (.iaload, 1) := by decide +kernel
theorem dX11_lay_161 : decode cX11_lay 161 = .ok (.aload_n 0, 1) := by decide +kernel
theorem dX11_lay_162 : decode cX11_lay 162 = .ok (.getfield 19, 3) := by decide +kernel
theorem dX11_lay_165 : decode cX11_lay 165 = .ok (.bipush 11, 2) := by decide +kernel
theorem dX11_lay_167 : decode cX11_lay 167 = .ok (.iaload, 1) := by decide +kernel
theorem dX11_lay_168 : decode cX11_lay 168 = .ok (.ixor, 1) := by decide +kernel
theorem dX11_lay_169 : decode cX11_lay 169 = .ok (.iastore, 1) := by decide +kernel
theorem dX11_lay_170 : decode cX11_lay 170 = .ok (.aload_n 0, 1) := by decide +kernel
theorem dX11_lay_171 : decode cX11_lay 171 = .ok (.getfield 19, 3) := by decide +kernel
theorem dX11_lay_174 : decode cX11_lay 174 = .ok (.bipush 14, 2) := by decide +kernel
theorem dX11_lay_176 : decode cX11_lay 176 = .ok (.aload_n 0, 1) := by decide +kernel
theorem dX11_lay_177 : decode cX11_lay 177 = .ok (.getfield 19, 3) := by decide +kernel
theorem dX11_lay_180 : decode cX11_lay 180 = .ok (.bipush 12, 2) := by decide +kernel
theorem dX11_lay_182 : decode cX11_lay 182 = .ok (.iaload, 1) := by decide +kernel
theorem dX11_lay_183 : decode cX11_lay 183 = .ok (.aload_n 0, 1) := by decide +kernel
theorem dX11_lay_184 : decode cX11_lay 184 = .ok (.getfield 19, 3) := by decide +kernel
theorem dX11_lay_187 : decode cX11_lay 187 = .ok (.bipush 13, 2) := by decide +kernel
theorem dX11_lay_189 : decode cX11_lay 189 = .ok (.iaload, 1) := by decide +kernel
theorem dX11_lay_190 : decode cX11_lay 190 = .ok (.ixor, 1) := by decide +kernel
theorem dX11_lay_191 : decode cX11_lay 191 = .ok (.iastore, 1) := by decide +kernel
theorem dX11_lay_192 : decode cX11_lay 192 = .ok (.aload_n 0, 1) := by decide +kernel
theorem dX11_lay_193 : decode cX11_lay 193 = .ok (.getfield 19, 3) := by decide +kernel
theorem dX11_lay_196 : decode cX11_lay 196 = .ok (.bipush 15, 2) := by decide +kernel
theorem dX11_lay_198 : decode cX11_lay 198 = .ok (.aload_n 0, 1) := by decide +kernel
theorem dX11_lay_199 : decode cX11_lay 199 = .ok (.getfield 19, 3) := by decide +kernel
theorem dX11_lay_202 : decode cX11_lay 202 = .ok (.bipush 14, 2) := by decide +kernel
theorem dX11_lay_204 : decode cX11_lay 204 = .ok (.iaload, 1) := by decide +kernel
theorem dX11_lay_205 : decode cX11_lay 205 = .ok (.aload_n 0, 1) := by decide +kernel
theorem dX11_lay_206 : decode cX11_lay 206 = .ok (.getfield 19, 3) := by decide +kernel
theorem dX11_lay_209 : decode cX11_lay 209 = .ok (.iconst 0, 1) := by decide +kernel
theorem dX11_lay_210 : decode cX11_lay 210 = .ok (.iaload, 1) := by decide +kernel
theorem dX11_lay_211 : decode cX11_lay 211 = .ok (.ixor, 1) := by decide +kernel
theorem dX11_lay_212 : decode cX11_lay 212 = .ok (.iastore, 1) := by decide +kernel
theorem dX11_lay_213 : decode cX11_lay 213 = .ok (.return_, 1) := by decide +kernel
theorem dX11_isFigure16_0 : decode cX11_isFigure16 0 = .ok (.iload_n 0, 1) := by decide +kernel
theorem dX11_isFigure16_1 : decode cX11_isFigure16 1 = .ok (.i2l, 1) := by decide +kernel
theorem dX11_isFigure16_2 : decode cX11_isFigure16 2 = .ok (.lconst 0, 1) := by decide +kernel
theorem dX11_isFigure16_3 : decode cX11_isFigure16 3 = .ok (.ldc2_w 77, 3) := by decide +kernel
theorem dX11_isFigure16_6 : decode cX11_isFigure16 6 = .ok (.invokestatic 62, 3) := by decide +kernel
theorem dX11_isFigure16_9 : decode cX11_isFigure16 9 = .ok (.ireturn, 1) := by decide +kernel
theorem dX11_singles_0 : decode cX11_singles 0 = .ok (.iload_n 0, 1) := by decide +kernel
theorem dX11_singles_1 : decode cX11_singles 1 = .ok (.iconst 1, 1) := by decide +kernel
theorem dX11_singles_2 : decode cX11_singles 2 = .ok (.iand, 1) := by decide +kernel
theorem dX11_singles_3 : decode cX11_singles 3 = .ok (.iload_n 0, 1) := by decide +kernel
theorem dX11_singles_4 : decode cX11_singles 4 = .ok (.iconst 1, 1) := by decide +kernel
theorem dX11_singles_5 : decode cX11_singles 5 = .ok (.ishr, 1) := by decide +kernel
theorem dX11_singles_6 : decode cX11_singles 6 = .ok (.iconst 1, 1) := by decide +kernel
theorem dX11_singles_7 : decode cX11_singles 7 = .ok (.iand, 1) := by decide +kernel
theorem dX11_singles_8 : decode cX11_singles 8 = .ok (.iadd, 1) := by decide +kernel
theorem dX11_singles_9 : decode cX11_singles 9 = .ok (.iload_n 0, 1) := by decide +kernel
theorem dX11_singles_10 : decode cX11_singles 10 = .ok (.iconst 2, 1) := by decide +kernel
theorem dX11_singles_11 : decode cX11_singles 11 = .ok (.ishr, 1) := by decide +kernel
theorem dX11_singles_12 : decode cX11_singles 12 = .ok (.iconst 1, 1) := by decide +kernel
theorem dX11_singles_13 : decode cX11_singles 13 = .ok (.iand, 1) := by decide +kernel
theorem dX11_singles_14 : decode cX11_singles 14 = .ok (.iadd, 1) := by decide +kernel
theorem dX11_singles_15 : decode cX11_singles 15 = .ok (.iload_n 0, 1) := by decide +kernel
theorem dX11_singles_16 : decode cX11_singles 16 = .ok (.iconst 3, 1) := by decide +kernel
theorem dX11_singles_17 : decode cX11_singles 17 = .ok (.ishr, 1) := by decide +kernel
theorem dX11_singles_18 : decode cX11_singles 18 = .ok (.iconst 1, 1) := by decide +kernel
theorem dX11_singles_19 : decode cX11_singles 19 = .ok (.iand, 1) := by decide +kernel
theorem dX11_singles_20 : decode cX11_singles 20 = .ok (.iadd, 1) := by decide +kernel
theorem dX11_singles_21 : decode cX11_singles 21 = .ok (.ireturn, 1) := by decide +kernel
theorem dX11_cast_0 : decode cX11_cast 0 = .ok (.aload_n 0, 1) := by decide +kernel
theorem dX11_cast_1 : decode cX11_cast 1 = .ok (.iconst 0, 1) := by decide +kernel
theorem dX11_cast_2 : decode cX11_cast 2 = .ok (.putfield 52, 3) := by decide +kernel
theorem dX11_cast_5 : decode cX11_cast 5 = .ok (.iload_n 1, 1) := by decide +kernel
theorem dX11_cast_6 : decode cX11_cast 6 = .ok (.invokestatic 66, 3) := by decide +kernel
theorem dX11_cast_9 : decode cX11_cast 9 = .ok (.ifCond .ne 6, 3) := by decide +kernel
theorem dX11_cast_12 : decode cX11_cast 12 = .ok (.ldc 72, 2) := by decide +kernel
theorem dX11_cast_14 : decode cX11_cast 14 = .ok (.ireturn, 1) := by decide +kernel
theorem dX11_cast_15 : decode cX11_cast 15 = .ok (.aload_n 0, 1) := by decide +kernel
theorem dX11_cast_16 : decode cX11_cast 16 = .ok (.getfield 7, 3) := by decide +kernel
theorem dX11_cast_19 : decode cX11_cast 19 = .ok (.iload_n 1, 1) := by decide +kernel
theorem dX11_cast_20 : decode cX11_cast 20 = .ok (.iaload, 1) := by decide +kernel
theorem dX11_cast_21 : decode cX11_cast 21 = .ok (.ifCond .ge 9, 3) := by decide +kernel
theorem dX11_cast_24 : decode cX11_cast 24 = .ok (.aload_n 0, 1) := by decide +kernel
theorem dX11_cast_25 : decode cX11_cast 25 = .ok (.iconst 1, 1) := by decide +kernel
theorem dX11_cast_26 : decode cX11_cast 26 = .ok (.invokevirtual 73, 3) := by decide +kernel
theorem dX11_cast_29 : decode cX11_cast 29 = .ok (.ireturn, 1) := by decide +kernel
theorem dX11_cast_30 : decode cX11_cast 30 = .ok (.iload_n 2, 1) := by decide +kernel
theorem dX11_cast_31 : decode cX11_cast 31 = .ok (.ifCond .lt 20, 3) := by decide +kernel
theorem dX11_cast_34 : decode cX11_cast 34 = .ok (.iload_n 2, 1) := by decide +kernel
theorem dX11_cast_35 : decode cX11_cast 35 = .ok (.i2l, 1) := by decide +kernel
theorem dX11_cast_36 : decode cX11_cast 36 = .ok (.ldc2_w 79, 3) := by decide +kernel
theorem dX11_cast_39 : decode cX11_cast 39 = .ok (.ladd, 1) := by decide +kernel
theorem dX11_cast_40 : decode cX11_cast 40 = .ok (.aload_n 0, 1) := by decide +kernel
theorem dX11_cast_41 : decode cX11_cast 41 = .ok (.getfield 13, 3) := by decide +kernel
theorem dX11_cast_44 : decode cX11_cast 44 = .ok (.iload_n 1, 1) := by decide +kernel
theorem dX11_cast_45 : decode cX11_cast 45 = .ok (.iaload, 1) := by decide +kernel
theorem dX11_cast_46 : decode cX11_cast 46 = .ok (.i2l, 1) := by decide +kernel
theorem dX11_cast_47 : decode cX11_cast 47 = .ok (.lcmp, 1) := by decide +kernel
theorem dX11_cast_48 : decode cX11_cast 48 = .ok (.ifCond .le 9, 3) := by decide +kernel
theorem dX11_cast_51 : decode cX11_cast 51 = .ok (.aload_n 0, 1) := by decide +kernel
theorem dX11_cast_52 : decode cX11_cast 52 = .ok (.iconst 2, 1) := by decide +kernel
theorem dX11_cast_53 : decode cX11_cast 53 = .ok (.invokevirtual 73, 3) := by decide +kernel
theorem dX11_cast_56 : decode cX11_cast 56 = .ok (.ireturn, 1) := by decide +kernel
theorem dX11_cast_57 : decode cX11_cast 57 = .ok (.iconst 0, 1) := by decide +kernel
theorem dX11_cast_58 : decode cX11_cast 58 = .ok (.istore_n 3, 1) := by decide +kernel
theorem dX11_cast_59 : decode cX11_cast 59 = .ok (.iconst 0, 1) := by decide +kernel
theorem dX11_cast_60 : decode cX11_cast 60 = .ok (.istore 4, 2) := by decide +kernel
theorem dX11_cast_62 : decode cX11_cast 62 = .ok (.iload 4, 2) := by decide +kernel
theorem dX11_cast_64 : decode cX11_cast 64 = .ok (.bipush 16, 2) := by decide +kernel
theorem dX11_cast_66 : decode cX11_cast 66 = .ok (.if_icmp .ge 43, 3) := by decide +kernel
theorem dX11_cast_69 : decode cX11_cast 69 = .ok (.aload_n 0, 1) := by decide +kernel
theorem dX11_cast_70 : decode cX11_cast 70 = .ok (.getfield 16, 3) := by decide +kernel
theorem dX11_cast_73 : decode cX11_cast 73 = .ok (.bipush 60, 2) := by decide +kernel
theorem dX11_cast_75 : decode cX11_cast 75 = .ok (.iload_n 1, 1) := by decide +kernel
theorem dX11_cast_76 : decode cX11_cast 76 = .ok (.imul, 1) := by decide +kernel
theorem dX11_cast_77 : decode cX11_cast 77 = .ok (.iload_n 2, 1) := by decide +kernel
theorem dX11_cast_78 : decode cX11_cast 78 = .ok (.iadd, 1) := by decide +kernel
theorem dX11_cast_79 : decode cX11_cast 79 = .ok (.iload 4, 2) := by decide +kernel
theorem dX11_cast_81 : decode cX11_cast 81 = .ok (.iadd, 1) := by decide +kernel
theorem dX11_cast_82 : decode cX11_cast 82 = .ok (.iaload, 1) := by decide +kernel
theorem dX11_cast_83 : decode cX11_cast 83 = .ok (.istore 5, 2) := by decide +kernel
theorem dX11_cast_85 : decode cX11_cast 85 = .ok (.iload 5, 2) := by decide +kernel
theorem dX11_cast_87 : decode cX11_cast 87 = .ok (.ifCond .ge 6, 3) := by decide +kernel
theorem dX11_cast_90 : decode cX11_cast 90 = .ok (.ldc 72, 2) := by decide +kernel
theorem dX11_cast_92 : decode cX11_cast 92 = .ok (.ireturn, 1) := by decide +kernel
theorem dX11_cast_93 : decode cX11_cast 93 = .ok (.iload_n 3, 1) := by decide +kernel
theorem dX11_cast_94 : decode cX11_cast 94 = .ok (.iload 5, 2) := by decide +kernel
theorem dX11_cast_96 : decode cX11_cast 96 = .ok (.iconst 1, 1) := by decide +kernel
theorem dX11_cast_97 : decode cX11_cast 97 = .ok (.iand, 1) := by decide +kernel
theorem dX11_cast_98 : decode cX11_cast 98 = .ok (.iload 4, 2) := by decide +kernel
theorem dX11_cast_100 : decode cX11_cast 100 = .ok (.ishl, 1) := by decide +kernel
theorem dX11_cast_101 : decode cX11_cast 101 = .ok (.ior, 1) := by decide +kernel
theorem dX11_cast_102 : decode cX11_cast 102 = .ok (.istore_n 3, 1) := by decide +kernel
theorem dX11_cast_103 : decode cX11_cast 103 = .ok (.iinc 4 1, 3) := by decide +kernel
theorem dX11_cast_106 : decode cX11_cast 106 = .ok (.goto (-44), 3) := by decide +kernel
theorem dX11_cast_109 : decode cX11_cast 109 = .ok (.aload_n 0, 1) := by decide +kernel
theorem dX11_cast_110 : decode cX11_cast 110 = .ok (.iconst 0, 1) := by decide +kernel
theorem dX11_cast_111 : decode cX11_cast 111 = .ok (.putfield 56, 3) := by decide +kernel
theorem dX11_cast_114 : decode cX11_cast 114 = .ok (.aload_n 0, 1) := by decide +kernel
theorem dX11_cast_115 : decode cX11_cast 115 = .ok (.iload_n 3, 1) := by decide +kernel
theorem dX11_cast_116 : decode cX11_cast 116 = .ok (.putfield 81, 3) := by decide +kernel
theorem dX11_cast_119 : decode cX11_cast 119 = .ok (.aload_n 0, 1) := by decide +kernel
theorem dX11_cast_120 : decode cX11_cast 120 = .ok (.getfield 81, 3) := by decide +kernel
theorem dX11_cast_123 : decode cX11_cast 123 = .ok (.ireturn, 1) := by decide +kernel
theorem dX11_chart_0 : decode cX11_chart 0 = .ok (.aload_n 0, 1) := by decide +kernel
theorem dX11_chart_1 : decode cX11_chart 1 = .ok (.iconst 0, 1) := by decide +kernel
theorem dX11_chart_2 : decode cX11_chart 2 = .ok (.putfield 52, 3) := by decide +kernel
theorem dX11_chart_5 : decode cX11_chart 5 = .ok (.iload_n 1, 1) := by decide +kernel
theorem dX11_chart_6 : decode cX11_chart 6 = .ok (.i2l, 1) := by decide +kernel
theorem dX11_chart_7 : decode cX11_chart 7 = .ok (.lconst 0, 1) := by decide +kernel
theorem dX11_chart_8 : decode cX11_chart 8 = .ok (.ldc2_w 84, 3) := by decide +kernel
theorem dX11_chart_11 : decode cX11_chart 11 = .ok (.invokestatic 62, 3) := by decide +kernel
theorem dX11_chart_14 : decode cX11_chart 14 = .ok (.ifCond .ne 6, 3) := by decide +kernel
theorem dX11_chart_17 : decode cX11_chart 17 = .ok (.ldc 72, 2) := by decide +kernel
theorem dX11_chart_19 : decode cX11_chart 19 = .ok (.ireturn, 1) := by decide +kernel
theorem dX11_chart_20 : decode cX11_chart 20 = .ok (.aload_n 0, 1) := by decide +kernel
theorem dX11_chart_21 : decode cX11_chart 21 = .ok (.getfield 81, 3) := by decide +kernel
theorem dX11_chart_24 : decode cX11_chart 24 = .ok (.istore_n 2, 1) := by decide +kernel
theorem dX11_chart_25 : decode cX11_chart 25 = .ok (.aload_n 0, 1) := by decide +kernel
theorem dX11_chart_26 : decode cX11_chart 26 = .ok (.iload_n 1, 1) := by decide +kernel
theorem dX11_chart_27 : decode cX11_chart 27 = .ok (.putfield 81, 3) := by decide +kernel
theorem dX11_chart_30 : decode cX11_chart 30 = .ok (.iload_n 2, 1) := by decide +kernel
theorem dX11_chart_31 : decode cX11_chart 31 = .ok (.ireturn, 1) := by decide +kernel
theorem dX11_at_0 : decode cX11_at 0 = .ok (.aload_n 0, 1) := by decide +kernel
theorem dX11_at_1 : decode cX11_at 1 = .ok (.iconst 0, 1) := by decide +kernel
theorem dX11_at_2 : decode cX11_at 2 = .ok (.putfield 52, 3) := by decide +kernel
theorem dX11_at_5 : decode cX11_at 5 = .ok (.aload_n 0, 1) := by decide +kernel
theorem dX11_at_6 : decode cX11_at 6 = .ok (.aload_n 0, 1) := by decide +kernel
theorem dX11_at_7 : decode cX11_at 7 = .ok (.getfield 81, 3) := by decide +kernel
theorem dX11_at_10 : decode cX11_at 10 = .ok (.invokevirtual 86, 3) := by decide +kernel
theorem dX11_at_13 : decode cX11_at 13 = .ok (.iload_n 1, 1) := by decide +kernel
theorem dX11_at_14 : decode cX11_at 14 = .ok (.invokestatic 90, 3) := by decide +kernel
theorem dX11_at_17 : decode cX11_at 17 = .ok (.ifCond .eq 12, 3) := by decide +kernel
theorem dX11_at_20 : decode cX11_at 20 = .ok (.aload_n 0, 1) := by decide +kernel
theorem dX11_at_21 : decode cX11_at 21 = .ok (.getfield 19, 3) := by decide +kernel
theorem dX11_at_24 : decode cX11_at 24 = .ok (.iload_n 1, 1) := by decide +kernel
theorem dX11_at_25 : decode cX11_at 25 = .ok (.iaload, 1) := by decide +kernel
theorem dX11_at_26 : decode cX11_at 26 = .ok (.goto 5, 3) := by decide +kernel
theorem dX11_at_29 : decode cX11_at 29 = .ok (.ldc 72, 2) := by decide +kernel
theorem dX11_at_31 : decode cX11_at 31 = .ok (.ireturn, 1) := by decide +kernel
theorem dX11_add_0 : decode cX11_add 0 = .ok (.aload_n 0, 1) := by decide +kernel
theorem dX11_add_1 : decode cX11_add 1 = .ok (.iconst 0, 1) := by decide +kernel
theorem dX11_add_2 : decode cX11_add 2 = .ok (.putfield 52, 3) := by decide +kernel
theorem dX11_add_5 : decode cX11_add 5 = .ok (.iload_n 1, 1) := by decide +kernel
theorem dX11_add_6 : decode cX11_add 6 = .ok (.invokestatic 90, 3) := by decide +kernel
theorem dX11_add_9 : decode cX11_add 9 = .ok (.ifCond .eq 10, 3) := by decide +kernel
theorem dX11_add_12 : decode cX11_add 12 = .ok (.iload_n 2, 1) := by decide +kernel
theorem dX11_add_13 : decode cX11_add 13 = .ok (.invokestatic 90, 3) := by decide +kernel
theorem dX11_add_16 : decode cX11_add 16 = .ok (.ifCond .ne 8, 3) := by decide +kernel
theorem dX11_add_19 : decode cX11_add 19 = .ok (.ldc 72, 2) := by decide +kernel
theorem dX11_add_21 : decode cX11_add 21 = .ok (.goto 6, 3) := by decide +kernel
theorem dX11_add_24 : decode cX11_add 24 = .ok (.iload_n 1, 1) := by decide +kernel
theorem dX11_add_25 : decode cX11_add 25 = .ok (.iload_n 2, 1) := by decide +kernel
theorem dX11_add_26 : decode cX11_add 26 = .ok (.ixor, 1) := by decide +kernel
theorem dX11_add_27 : decode cX11_add 27 = .ok (.ireturn, 1) := by decide +kernel
theorem dX11_seen_0 : decode cX11_seen 0 = .ok (.aload_n 0, 1) := by decide +kernel
theorem dX11_seen_1 : decode cX11_seen 1 = .ok (.iconst 0, 1) := by decide +kernel
theorem dX11_seen_2 : decode cX11_seen 2 = .ok (.putfield 52, 3) := by decide +kernel
theorem dX11_seen_5 : decode cX11_seen 5 = .ok (.iload_n 1, 1) := by decide +kernel
theorem dX11_seen_6 : decode cX11_seen 6 = .ok (.invokestatic 90, 3) := by decide +kernel
theorem dX11_seen_9 : decode cX11_seen 9 = .ok (.ifCond .ne 6, 3) := by decide +kernel
theorem dX11_seen_12 : decode cX11_seen 12 = .ok (.ldc 72, 2) := by decide +kernel
theorem dX11_seen_14 : decode cX11_seen 14 = .ok (.ireturn, 1) := by decide +kernel
theorem dX11_seen_15 : decode cX11_seen 15 = .ok (.aload_n 0, 1) := by decide +kernel
theorem dX11_seen_16 : decode cX11_seen 16 = .ok (.aload_n 0, 1) := by decide +kernel
theorem dX11_seen_17 : decode cX11_seen 17 = .ok (.getfield 81, 3) := by decide +kernel
theorem dX11_seen_20 : decode cX11_seen 20 = .ok (.invokevirtual 86, 3) := by decide +kernel
theorem dX11_seen_23 : decode cX11_seen 23 = .ok (.iconst 0, 1) := by decide +kernel
theorem dX11_seen_24 : decode cX11_seen 24 = .ok (.istore_n 2, 1) := by decide +kernel
theorem dX11_seen_25 : decode cX11_seen 25 = .ok (.iconst 0, 1) := by decide +kernel
theorem dX11_seen_26 : decode cX11_seen 26 = .ok (.istore_n 3, 1) := by decide +kernel
theorem dX11_seen_27 : decode cX11_seen 27 = .ok (.iload_n 3, 1) := by decide +kernel
theorem dX11_seen_28 : decode cX11_seen 28 = .ok (.bipush 16, 2) := by decide +kernel
theorem dX11_seen_30 : decode cX11_seen 30 = .ok (.if_icmp .ge 27, 3) := by decide +kernel
theorem dX11_seen_33 : decode cX11_seen 33 = .ok (.iload_n 2, 1) := by decide +kernel
theorem dX11_seen_34 : decode cX11_seen 34 = .ok (.aload_n 0, 1) := by decide +kernel
theorem dX11_seen_35 : decode cX11_seen 35 = .ok (.getfield 19, 3) := by decide +kernel
theorem dX11_seen_38 : decode cX11_seen 38 = .ok (.iload_n 3, 1) := by decide +kernel
theorem dX11_seen_39 : decode cX11_seen 39 = .ok (.iaload, 1) := by decide +kernel
theorem dX11_seen_40 : decode cX11_seen 40 = .ok (.iload_n 1, 1) := by decide +kernel
theorem dX11_seen_41 : decode cX11_seen 41 = .ok (.if_icmp .ne 7, 3) := by decide +kernel
theorem dX11_seen_44 : decode cX11_seen 44 = .ok (.iconst 1, 1) := by decide +kernel
theorem dX11_seen_45 : decode cX11_seen 45 = .ok (.goto 4, 3) := by decide +kernel
theorem dX11_seen_48 : decode cX11_seen 48 = .ok (.iconst 0, 1) := by decide +kernel
theorem dX11_seen_49 : decode cX11_seen 49 = .ok (.iadd, 1) := by decide +kernel
theorem dX11_seen_50 : decode cX11_seen 50 = .ok (.istore_n 2, 1) := by decide +kernel
theorem dX11_seen_51 : decode cX11_seen 51 = .ok (.iinc 3 1, 3) := by decide +kernel
theorem dX11_seen_54 : decode cX11_seen 54 = .ok (.goto (-27), 3) := by decide +kernel
theorem dX11_seen_57 : decode cX11_seen 57 = .ok (.iload_n 2, 1) := by decide +kernel
theorem dX11_seen_58 : decode cX11_seen 58 = .ok (.ireturn, 1) := by decide +kernel
theorem dX11_above_0 : decode cX11_above 0 = .ok (.iload_n 0, 1) := by decide +kernel
theorem dX11_above_1 : decode cX11_above 1 = .ok (.bipush 14, 2) := by decide +kernel
theorem dX11_above_3 : decode cX11_above 3 = .ok (.if_icmp .ne 8, 3) := by decide +kernel
theorem dX11_above_6 : decode cX11_above 6 = .ok (.bipush 12, 2) := by decide +kernel
theorem dX11_above_8 : decode cX11_above 8 = .ok (.goto 31, 3) := by decide +kernel
theorem dX11_above_11 : decode cX11_above 11 = .ok (.iload_n 0, 1) := by decide +kernel
theorem dX11_above_12 : decode cX11_above 12 = .ok (.bipush 12, 2) := by decide +kernel
theorem dX11_above_14 : decode cX11_above 14 = .ok (.if_icmp .ne 8, 3) := by decide +kernel
theorem dX11_above_17 : decode cX11_above 17 = .ok (.bipush 8, 2) := by decide +kernel
theorem dX11_above_19 : decode cX11_above 19 = .ok (.goto 20, 3) := by decide +kernel
theorem dX11_above_22 : decode cX11_above 22 = .ok (.iload_n 0, 1) := by decide +kernel
theorem dX11_above_23 : decode cX11_above 23 = .ok (.bipush 13, 2) := by decide +kernel
theorem dX11_above_25 : decode cX11_above 25 = .ok (.if_icmp .ne 8, 3) := by decide +kernel
theorem dX11_above_28 : decode cX11_above 28 = .ok (.bipush 10, 2) := by decide +kernel
theorem dX11_above_30 : decode cX11_above 30 = .ok (.goto 9, 3) := by decide +kernel
theorem dX11_above_33 : decode cX11_above 33 = .ok (.iconst 2, 1) := by decide +kernel
theorem dX11_above_34 : decode cX11_above 34 = .ok (.iload_n 0, 1) := by decide +kernel
theorem dX11_above_35 : decode cX11_above 35 = .ok (.bipush 8, 2) := by decide +kernel
theorem dX11_above_37 : decode cX11_above 37 = .ok (.isub, 1) := by decide +kernel
theorem dX11_above_38 : decode cX11_above 38 = .ok (.imul, 1) := by decide +kernel
theorem dX11_above_39 : decode cX11_above 39 = .ok (.ireturn, 1) := by decide +kernel
theorem dX11_point_0 : decode cX11_point 0 = .ok (.aload_n 0, 1) := by decide +kernel
theorem dX11_point_1 : decode cX11_point 1 = .ok (.iconst 0, 1) := by decide +kernel
theorem dX11_point_2 : decode cX11_point 2 = .ok (.putfield 52, 3) := by decide +kernel
theorem dX11_point_5 : decode cX11_point 5 = .ok (.aload_n 0, 1) := by decide +kernel
theorem dX11_point_6 : decode cX11_point 6 = .ok (.aload_n 0, 1) := by decide +kernel
theorem dX11_point_7 : decode cX11_point 7 = .ok (.getfield 81, 3) := by decide +kernel
theorem dX11_point_10 : decode cX11_point 10 = .ok (.invokevirtual 86, 3) := by decide +kernel
theorem dX11_point_13 : decode cX11_point 13 = .ok (.sipush 16384, 3) := by decide +kernel
theorem dX11_point_16 : decode cX11_point 16 = .ok (.istore_n 1, 1) := by decide +kernel
theorem dX11_point_17 : decode cX11_point 17 = .ok (.iconst 0, 1) := by decide +kernel
theorem dX11_point_18 : decode cX11_point 18 = .ok (.istore_n 2, 1) := by decide +kernel
theorem dX11_point_19 : decode cX11_point 19 = .ok (.bipush 14, 2) := by decide +kernel
theorem dX11_point_21 : decode cX11_point 21 = .ok (.istore_n 3, 1) := by decide +kernel
theorem dX11_point_22 : decode cX11_point 22 = .ok (.iload_n 3, 1) := by decide +kernel
theorem dX11_point_23 : decode cX11_point 23 = .ok (.ifCond .lt 96, 3) := by decide +kernel
theorem dX11_point_26 : decode cX11_point 26 = .ok (.iload_n 1, 1) := by decide +kernel
theorem dX11_point_27 : decode cX11_point 27 = .ok (.iload_n 3, 1) := by decide +kernel
theorem dX11_point_28 : decode cX11_point 28 = .ok (.ishr, 1) := by decide +kernel
theorem dX11_point_29 : decode cX11_point 29 = .ok (.iconst 1, 1) := by decide +kernel
theorem dX11_point_30 : decode cX11_point 30 = .ok (.iand, 1) := by decide +kernel
theorem dX11_point_31 : decode cX11_point 31 = .ok (.iconst 1, 1) := by decide +kernel
theorem dX11_point_32 : decode cX11_point 32 = .ok (.if_icmp .ne 81, 3) := by decide +kernel
theorem dX11_point_35 : decode cX11_point 35 = .ok (.iconst 0, 1) := by decide +kernel
theorem dX11_point_36 : decode cX11_point 36 = .ok (.istore 4, 2) := by decide +kernel
theorem dX11_point_38 : decode cX11_point 38 = .ok (.iconst 0, 1) := by decide +kernel
theorem dX11_point_39 : decode cX11_point 39 = .ok (.istore 5, 2) := by decide +kernel
theorem dX11_point_41 : decode cX11_point 41 = .ok (.iload 5, 2) := by decide +kernel
theorem dX11_point_43 : decode cX11_point 43 = .ok (.iconst 2, 1) := by decide +kernel
theorem dX11_point_44 : decode cX11_point 44 = .ok (.if_icmp .ge 54, 3) := by decide +kernel
theorem dX11_point_47 : decode cX11_point 47 = .ok (.iload_n 3, 1) := by decide +kernel
theorem dX11_point_48 : decode cX11_point 48 = .ok (.bipush 7, 2) := by decide +kernel
theorem dX11_point_50 : decode cX11_point 50 = .ok (.if_icmp .le 48, 3) := by decide +kernel
theorem dX11_point_53 : decode cX11_point 53 = .ok (.iload_n 3, 1) := by decide +kernel
theorem dX11_point_54 : decode cX11_point 54 = .ok (.invokestatic 93, 3) := by decide +kernel
theorem dX11_point_57 : decode cX11_point 57 = .ok (.iload 5, 2) := by decide +kernel
theorem dX11_point_59 : decode cX11_point 59 = .ok (.iadd, 1) := by decide +kernel
theorem dX11_point_60 : decode cX11_point 60 = .ok (.istore 6, 2) := by decide +kernel
theorem dX11_point_62 : decode cX11_point 62 = .ok (.aload_n 0, 1) := by decide +kernel
theorem dX11_point_63 : decode cX11_point 63 = .ok (.getfield 19, 3) := by decide +kernel
theorem dX11_point_66 : decode cX11_point 66 = .ok (.iload 6, 2) := by decide +kernel
theorem dX11_point_68 : decode cX11_point 68 = .ok (.iaload, 1) := by decide +kernel
theorem dX11_point_69 : decode cX11_point 69 = .ok (.iconst 1, 1) := by decide +kernel
theorem dX11_point_70 : decode cX11_point 70 = .ok (.iand, 1) := by decide +kernel
theorem dX11_point_71 : decode cX11_point 71 = .ok (.aload_n 0, 1) := by decide +kernel
theorem dX11_point_72 : decode cX11_point 72 = .ok (.getfield 19, 3) := by decide +kernel
theorem dX11_point_75 : decode cX11_point 75 = .ok (.iload_n 3, 1) := by decide +kernel
theorem dX11_point_76 : decode cX11_point 76 = .ok (.iaload, 1) := by decide +kernel
theorem dX11_point_77 : decode cX11_point 77 = .ok (.iconst 1, 1) := by decide +kernel
theorem dX11_point_78 : decode cX11_point 78 = .ok (.iand, 1) := by decide +kernel
theorem dX11_point_79 : decode cX11_point 79 = .ok (.if_icmp .ne 13, 3) := by decide +kernel
theorem dX11_point_82 : decode cX11_point 82 = .ok (.iload_n 1, 1) := by decide +kernel
theorem dX11_point_83 : decode cX11_point 83 = .ok (.iconst 1, 1) := by decide +kernel
theorem dX11_point_84 : decode cX11_point 84 = .ok (.iload 6, 2) := by decide +kernel
theorem dX11_point_86 : decode cX11_point 86 = .ok (.ishl, 1) := by decide +kernel
theorem dX11_point_87 : decode cX11_point 87 = .ok (.ior, 1) := by decide +kernel
theorem dX11_point_88 : decode cX11_point 88 = .ok (.istore_n 1, 1) := by decide +kernel
theorem dX11_point_89 : decode cX11_point 89 = .ok (.iconst 1, 1) := by decide +kernel
theorem dX11_point_90 : decode cX11_point 90 = .ok (.istore 4, 2) := by decide +kernel
theorem dX11_point_92 : decode cX11_point 92 = .ok (.iinc 5 1, 3) := by decide +kernel
theorem dX11_point_95 : decode cX11_point 95 = .ok (.goto (-54), 3) := by decide +kernel
theorem dX11_point_98 : decode cX11_point 98 = .ok (.iload_n 2, 1) := by decide +kernel
theorem dX11_point_99 : decode cX11_point 99 = .ok (.iload 4, 2) := by decide +kernel
theorem dX11_point_101 : decode cX11_point 101 = .ok (.ifCond .eq 7, 3) := by decide +kernel
theorem dX11_point_104 : decode cX11_point 104 = .ok (.iconst 0, 1) := by decide +kernel
theorem dX11_point_105 : decode cX11_point 105 = .ok (.goto 6, 3) := by decide +kernel
theorem dX11_point_108 : decode cX11_point 108 = .ok (.iconst 1, 1) := by decide +kernel
theorem dX11_point_109 : decode cX11_point 109 = .ok (.iload_n 3, 1) := by decide +kernel
theorem dX11_point_110 : decode cX11_point 110 = .ok (.ishl, 1) := by decide +kernel
theorem dX11_point_111 : decode cX11_point 111 = .ok (.ior, 1) := by decide +kernel
theorem dX11_point_112 : decode cX11_point 112 = .ok (.istore_n 2, 1) := by decide +kernel
theorem dX11_point_113 : decode cX11_point 113 = .ok (.iinc 3 (-1), 3) := by decide +kernel
theorem dX11_point_116 : decode cX11_point 116 = .ok (.goto (-94), 3) := by decide +kernel
theorem dX11_point_119 : decode cX11_point 119 = .ok (.iload_n 2, 1) := by decide +kernel
theorem dX11_point_120 : decode cX11_point 120 = .ok (.ireturn, 1) := by decide +kernel
theorem dX11_drawing_0 : decode cX11_drawing 0 = .ok (.aload_n 0, 1) := by decide +kernel
theorem dX11_drawing_1 : decode cX11_drawing 1 = .ok (.iconst 0, 1) := by decide +kernel
theorem dX11_drawing_2 : decode cX11_drawing 2 = .ok (.putfield 52, 3) := by decide +kernel
theorem dX11_drawing_5 : decode cX11_drawing 5 = .ok (.iload_n 1, 1) := by decide +kernel
theorem dX11_drawing_6 : decode cX11_drawing 6 = .ok (.invokestatic 66, 3) := by decide +kernel
theorem dX11_drawing_9 : decode cX11_drawing 9 = .ok (.ifCond .eq 15, 3) := by decide +kernel
theorem dX11_drawing_12 : decode cX11_drawing 12 = .ok (.iload_n 3, 1) := by decide +kernel
theorem dX11_drawing_13 : decode cX11_drawing 13 = .ok (.i2l, 1) := by decide +kernel
theorem dX11_drawing_14 : decode cX11_drawing 14 = .ok (.lconst 0, 1) := by decide +kernel
theorem dX11_drawing_15 : decode cX11_drawing 15 = .ok (.ldc2_w 96, 3) := by decide +kernel
theorem dX11_drawing_18 : decode cX11_drawing 18 = .ok (.invokestatic 62, 3) := by decide +kernel
theorem dX11_drawing_21 : decode cX11_drawing 21 = .ok (.ifCond .ne 6, 3) := by decide +kernel
theorem dX11_drawing_24 : decode cX11_drawing 24 = .ok (.ldc 72, 2) := by decide +kernel
theorem dX11_drawing_26 : decode cX11_drawing 26 = .ok (.ireturn, 1) := by decide +kernel
theorem dX11_drawing_27 : decode cX11_drawing 27 = .ok (.aload_n 0, 1) := by decide +kernel
theorem dX11_drawing_28 : decode cX11_drawing 28 = .ok (.getfield 7, 3) := by decide +kernel
theorem dX11_drawing_31 : decode cX11_drawing 31 = .ok (.iload_n 1, 1) := by decide +kernel
theorem dX11_drawing_32 : decode cX11_drawing 32 = .ok (.iaload, 1) := by decide +kernel
theorem dX11_drawing_33 : decode cX11_drawing 33 = .ok (.ifCond .ge 9, 3) := by decide +kernel
theorem dX11_drawing_36 : decode cX11_drawing 36 = .ok (.aload_n 0, 1) := by decide +kernel
theorem dX11_drawing_37 : decode cX11_drawing 37 = .ok (.iconst 1, 1) := by decide +kernel
theorem dX11_drawing_38 : decode cX11_drawing 38 = .ok (.invokevirtual 73, 3) := by decide +kernel
theorem dX11_drawing_41 : decode cX11_drawing 41 = .ok (.ireturn, 1) := by decide +kernel
theorem dX11_drawing_42 : decode cX11_drawing 42 = .ok (.iload_n 2, 1) := by decide +kernel
theorem dX11_drawing_43 : decode cX11_drawing 43 = .ok (.ifCond .lt 20, 3) := by decide +kernel
theorem dX11_drawing_46 : decode cX11_drawing 46 = .ok (.iload_n 2, 1) := by decide +kernel
theorem dX11_drawing_47 : decode cX11_drawing 47 = .ok (.i2l, 1) := by decide +kernel
theorem dX11_drawing_48 : decode cX11_drawing 48 = .ok (.ldc2_w 79, 3) := by decide +kernel
theorem dX11_drawing_51 : decode cX11_drawing 51 = .ok (.ladd, 1) := by decide +kernel
theorem dX11_drawing_52 : decode cX11_drawing 52 = .ok (.aload_n 0, 1) := by decide +kernel
theorem dX11_drawing_53 : decode cX11_drawing 53 = .ok (.getfield 13, 3) := by decide +kernel
theorem dX11_drawing_56 : decode cX11_drawing 56 = .ok (.iload_n 1, 1) := by decide +kernel
theorem dX11_drawing_57 : decode cX11_drawing 57 = .ok (.iaload, 1) := by decide +kernel
theorem dX11_drawing_58 : decode cX11_drawing 58 = .ok (.i2l, 1) := by decide +kernel
theorem dX11_drawing_59 : decode cX11_drawing 59 = .ok (.lcmp, 1) := by decide +kernel
theorem dX11_drawing_60 : decode cX11_drawing 60 = .ok (.ifCond .le 9, 3) := by decide +kernel
theorem dX11_drawing_63 : decode cX11_drawing 63 = .ok (.aload_n 0, 1) := by decide +kernel
theorem dX11_drawing_64 : decode cX11_drawing 64 = .ok (.iconst 2, 1) := by decide +kernel
theorem dX11_drawing_65 : decode cX11_drawing 65 = .ok (.invokevirtual 73, 3) := by decide +kernel
theorem dX11_drawing_68 : decode cX11_drawing 68 = .ok (.ireturn, 1) := by decide +kernel
theorem dX11_drawing_69 : decode cX11_drawing 69 = .ok (.iconst 0, 1) := by decide +kernel
theorem dX11_drawing_70 : decode cX11_drawing 70 = .ok (.istore 4, 2) := by decide +kernel
theorem dX11_drawing_72 : decode cX11_drawing 72 = .ok (.iload 4, 2) := by decide +kernel
theorem dX11_drawing_74 : decode cX11_drawing 74 = .ok (.bipush 16, 2) := by decide +kernel
theorem dX11_drawing_76 : decode cX11_drawing 76 = .ok (.if_icmp .ge 39, 3) := by decide +kernel
theorem dX11_drawing_79 : decode cX11_drawing 79 = .ok (.aload_n 0, 1) := by decide +kernel
theorem dX11_drawing_80 : decode cX11_drawing 80 = .ok (.getfield 16, 3) := by decide +kernel
theorem dX11_drawing_83 : decode cX11_drawing 83 = .ok (.bipush 60, 2) := by decide +kernel
theorem dX11_drawing_85 : decode cX11_drawing 85 = .ok (.iload_n 1, 1) := by decide +kernel
theorem dX11_drawing_86 : decode cX11_drawing 86 = .ok (.imul, 1) := by decide +kernel
theorem dX11_drawing_87 : decode cX11_drawing 87 = .ok (.iload_n 2, 1) := by decide +kernel
theorem dX11_drawing_88 : decode cX11_drawing 88 = .ok (.iadd, 1) := by decide +kernel
theorem dX11_drawing_89 : decode cX11_drawing 89 = .ok (.iload 4, 2) := by decide +kernel
theorem dX11_drawing_91 : decode cX11_drawing 91 = .ok (.iadd, 1) := by decide +kernel
theorem dX11_drawing_92 : decode cX11_drawing 92 = .ok (.iaload, 1) := by decide +kernel
theorem dX11_drawing_93 : decode cX11_drawing 93 = .ok (.i2l, 1) := by decide +kernel
theorem dX11_drawing_94 : decode cX11_drawing 94 = .ok (.ldc2_w 98, 3) := by decide +kernel
theorem dX11_drawing_97 : decode cX11_drawing 97 = .ok (.ldc2_w 77, 3) := by decide +kernel
theorem dX11_drawing_100 : decode cX11_drawing 100 = .ok (.invokestatic 62, 3) := by decide +kernel
theorem dX11_drawing_103 : decode cX11_drawing 103 = .ok (.ifCond .ne 6, 3) := by decide +kernel
theorem dX11_drawing_106 : decode cX11_drawing 106 = .ok (.ldc 72, 2) := by decide +kernel
theorem dX11_drawing_108 : decode cX11_drawing 108 = .ok (.ireturn, 1) := by decide +kernel
theorem dX11_drawing_109 : decode cX11_drawing 109 = .ok (.iinc 4 1, 3) := by decide +kernel
theorem dX11_drawing_112 : decode cX11_drawing 112 = .ok (.goto (-40), 3) := by decide +kernel
theorem dX11_drawing_115 : decode cX11_drawing 115 = .ok (.aload_n 0, 1) := by decide +kernel
theorem dX11_drawing_116 : decode cX11_drawing 116 = .ok (.iconst 0, 1) := by decide +kernel
theorem dX11_drawing_117 : decode cX11_drawing 117 = .ok (.putfield 56, 3) := by decide +kernel
theorem dX11_drawing_120 : decode cX11_drawing 120 = .ok (.iconst 0, 1) := by decide +kernel
theorem dX11_drawing_121 : decode cX11_drawing 121 = .ok (.istore 4, 2) := by decide +kernel
theorem dX11_drawing_123 : decode cX11_drawing 123 = .ok (.ldc 100, 2) := by decide +kernel
theorem dX11_drawing_125 : decode cX11_drawing 125 = .ok (.istore 5, 2) := by decide +kernel
theorem dX11_drawing_127 : decode cX11_drawing 127 = .ok (.bipush 100, 2) := by decide +kernel
theorem dX11_drawing_129 : decode cX11_drawing 129 = .ok (.istore 6, 2) := by decide +kernel
theorem dX11_drawing_131 : decode cX11_drawing 131 = .ok (.ldc 100, 2) := by decide +kernel
theorem dX11_drawing_133 : decode cX11_drawing 133 = .ok (.istore 7, 2) := by decide +kernel
theorem dX11_drawing_135 : decode cX11_drawing 135 = .ok (.iconst (-1), 1) := by decide +kernel
theorem dX11_drawing_136 : decode cX11_drawing 136 = .ok (.istore 8, 2) := by decide +kernel
theorem dX11_drawing_138 : decode cX11_drawing 138 = .ok (.iconst 0, 1) := by decide +kernel
theorem dX11_drawing_139 : decode cX11_drawing 139 = .ok (.istore 9, 2) := by decide +kernel
theorem dX11_drawing_141 : decode cX11_drawing 141 = .ok (.iload 9, 2) := by decide +kernel
theorem dX11_drawing_143 : decode cX11_drawing 143 = .ok (.ldc 101, 2) := by decide +kernel
theorem dX11_drawing_145 : decode cX11_drawing 145 = .ok (.if_icmp .ge 176, 3) := by decide +kernel
theorem dX11_drawing_148 : decode cX11_drawing 148 = .ok (.aload_n 0, 1) := by decide +kernel
theorem dX11_drawing_149 : decode cX11_drawing 149 = .ok (.iload 9, 2) := by decide +kernel
theorem dX11_drawing_151 : decode cX11_drawing 151 = .ok (.invokevirtual 86, 3) := by decide +kernel
theorem dX11_drawing_154 : decode cX11_drawing 154 = .ok (.iconst 0, 1) := by decide +kernel
theorem dX11_drawing_155 : decode cX11_drawing 155 = .ok (.istore 10, 2) := by decide +kernel
theorem dX11_drawing_157 : decode cX11_drawing 157 = .ok (.bipush 16, 2) := by decide +kernel
theorem dX11_drawing_159 : decode cX11_drawing 159 = .ok (.istore 11, 2) := by decide +kernel
theorem dX11_drawing_161 : decode cX11_drawing 161 = .ok (.bipush 15, 2) := by decide +kernel
theorem dX11_drawing_163 : decode cX11_drawing 163 = .ok (.istore 12, 2) := by decide +kernel
theorem dX11_drawing_165 : decode cX11_drawing 165 = .ok (.iload 12, 2) := by decide +kernel
theorem dX11_drawing_167 : decode cX11_drawing 167 = .ok (.ifCond .lt 64, 3) := by decide +kernel
theorem dX11_drawing_170 : decode cX11_drawing 170 = .ok (.aload_n 0, 1) := by decide +kernel
theorem dX11_drawing_171 : decode cX11_drawing 171 = .ok (.getfield 16, 3) := by decide +kernel
theorem dX11_drawing_174 : decode cX11_drawing 174 = .ok (.bipush 60, 2) := by decide +kernel
theorem dX11_drawing_176 : decode cX11_drawing 176 = .ok (.iload_n 1, 1) := by decide +kernel
theorem dX11_drawing_177 : decode cX11_drawing 177 = .ok (.imul, 1) := by decide +kernel
theorem dX11_drawing_178 : decode cX11_drawing 178 = .ok (.iload_n 2, 1) := by decide +kernel
theorem dX11_drawing_179 : decode cX11_drawing 179 = .ok (.iadd, 1) := by decide +kernel
theorem dX11_drawing_180 : decode cX11_drawing 180 = .ok (.iload 12, 2) := by decide +kernel
theorem dX11_drawing_182 : decode cX11_drawing 182 = .ok (.iadd, 1) := by decide +kernel
theorem dX11_drawing_183 : decode cX11_drawing 183 = .ok (.iaload, 1) := by decide +kernel
theorem dX11_drawing_184 : decode cX11_drawing 184 = .ok (.istore 13, 2) := by decide +kernel
theorem dX11_drawing_186 : decode cX11_drawing 186 = .ok (.iload 13, 2) := by decide +kernel
theorem dX11_drawing_188 : decode cX11_drawing 188 = .ok (.ifCond .lt 37, 3) := by decide +kernel
theorem dX11_drawing_191 : decode cX11_drawing 191 = .ok (.iload 13, 2) := by decide +kernel
theorem dX11_drawing_193 : decode cX11_drawing 193 = .ok (.aload_n 0, 1) := by decide +kernel
theorem dX11_drawing_194 : decode cX11_drawing 194 = .ok (.getfield 19, 3) := by decide +kernel
theorem dX11_drawing_197 : decode cX11_drawing 197 = .ok (.iload 12, 2) := by decide +kernel
theorem dX11_drawing_199 : decode cX11_drawing 199 = .ok (.iaload, 1) := by decide +kernel
theorem dX11_drawing_200 : decode cX11_drawing 200 = .ok (.if_icmp .eq 25, 3) := by decide +kernel
theorem dX11_drawing_203 : decode cX11_drawing 203 = .ok (.iload 10, 2) := by decide +kernel
theorem dX11_drawing_205 : decode cX11_drawing 205 = .ok (.iload 13, 2) := by decide +kernel
theorem dX11_drawing_207 : decode cX11_drawing 207 = .ok (.aload_n 0, 1) := by decide +kernel
theorem dX11_drawing_208 : decode cX11_drawing 208 = .ok (.getfield 19, 3) := by decide +kernel
theorem dX11_drawing_211 : decode cX11_drawing 211 = .ok (.iload 12, 2) := by decide +kernel
theorem dX11_drawing_213 : decode cX11_drawing 213 = .ok (.iaload, 1) := by decide +kernel
theorem dX11_drawing_214 : decode cX11_drawing 214 = .ok (.ixor, 1) := by decide +kernel
theorem dX11_drawing_215 : decode cX11_drawing 215 = .ok (.invokestatic 102, 3) := by decide +kernel
theorem dX11_drawing_218 : decode cX11_drawing 218 = .ok (.iadd, 1) := by decide +kernel
theorem dX11_drawing_219 : decode cX11_drawing 219 = .ok (.istore 10, 2) := by decide +kernel
theorem dX11_drawing_221 : decode cX11_drawing 221 = .ok (.iload 12, 2) := by decide +kernel
theorem dX11_drawing_223 : decode cX11_drawing 223 = .ok (.istore 11, 2) := by decide +kernel
theorem dX11_drawing_225 : decode cX11_drawing 225 = .ok (.iinc 12 (-1), 3) := by decide +kernel
theorem dX11_drawing_228 : decode cX11_drawing 228 = .ok (.goto (-63), 3) := by decide +kernel
theorem dX11_drawing_231 : decode cX11_drawing 231 = .ok (.iload 4, 2) := by decide +kernel
theorem dX11_drawing_233 : decode cX11_drawing 233 = .ok (.iload 10, 2) := by decide +kernel
theorem dX11_drawing_235 : decode cX11_drawing 235 = .ok (.ifCond .ne 7, 3) := by decide +kernel
theorem dX11_drawing_238 : decode cX11_drawing 238 = .ok (.iconst 1, 1) := by decide +kernel
theorem dX11_drawing_239 : decode cX11_drawing 239 = .ok (.goto 4, 3) := by decide +kernel
theorem dX11_drawing_242 : decode cX11_drawing 242 = .ok (.iconst 0, 1) := by decide +kernel
theorem dX11_drawing_243 : decode cX11_drawing 243 = .ok (.iadd, 1) := by decide +kernel
theorem dX11_drawing_244 : decode cX11_drawing 244 = .ok (.istore 4, 2) := by decide +kernel
theorem dX11_drawing_246 : decode cX11_drawing 246 = .ok (.iload 10, 2) := by decide +kernel
theorem dX11_drawing_248 : decode cX11_drawing 248 = .ok (.ifCond .ne 15, 3) := by decide +kernel
theorem dX11_drawing_251 : decode cX11_drawing 251 = .ok (.iload 5, 2) := by decide +kernel
theorem dX11_drawing_253 : decode cX11_drawing 253 = .ok (.ldc 100, 2) := by decide +kernel
theorem dX11_drawing_255 : decode cX11_drawing 255 = .ok (.if_icmp .ne 8, 3) := by decide +kernel
theorem dX11_drawing_258 : decode cX11_drawing 258 = .ok (.iload 9, 2) := by decide +kernel
theorem dX11_drawing_260 : decode cX11_drawing 260 = .ok (.goto 5, 3) := by decide +kernel
theorem dX11_drawing_263 : decode cX11_drawing 263 = .ok (.iload 5, 2) := by decide +kernel
theorem dX11_drawing_265 : decode cX11_drawing 265 = .ok (.istore 5, 2) := by decide +kernel
theorem dX11_drawing_267 : decode cX11_drawing 267 = .ok (.iload 10, 2) := by decide +kernel
theorem dX11_drawing_269 : decode cX11_drawing 269 = .ok (.iload 6, 2) := by decide +kernel
theorem dX11_drawing_271 : decode cX11_drawing 271 = .ok (.if_icmp .ge 8, 3) := by decide +kernel
theorem dX11_drawing_274 : decode cX11_drawing 274 = .ok (.iload 9, 2) := by decide +kernel
theorem dX11_drawing_276 : decode cX11_drawing 276 = .ok (.goto 5, 3) := by decide +kernel
theorem dX11_drawing_279 : decode cX11_drawing 279 = .ok (.iload 7, 2) := by decide +kernel
theorem dX11_drawing_281 : decode cX11_drawing 281 = .ok (.istore 7, 2) := by decide +kernel
theorem dX11_drawing_283 : decode cX11_drawing 283 = .ok (.iload 10, 2) := by decide +kernel
theorem dX11_drawing_285 : decode cX11_drawing 285 = .ok (.iload 6, 2) := by decide +kernel
theorem dX11_drawing_287 : decode cX11_drawing 287 = .ok (.if_icmp .ge 8, 3) := by decide +kernel
theorem dX11_drawing_290 : decode cX11_drawing 290 = .ok (.iload 10, 2) := by decide +kernel
theorem dX11_drawing_292 : decode cX11_drawing 292 = .ok (.goto 5, 3) := by decide +kernel
theorem dX11_drawing_295 : decode cX11_drawing 295 = .ok (.iload 6, 2) := by decide +kernel
theorem dX11_drawing_297 : decode cX11_drawing 297 = .ok (.istore 6, 2) := by decide +kernel
theorem dX11_drawing_299 : decode cX11_drawing 299 = .ok (.iload 11, 2) := by decide +kernel
theorem dX11_drawing_301 : decode cX11_drawing 301 = .ok (.iload 8, 2) := by decide +kernel
theorem dX11_drawing_303 : decode cX11_drawing 303 = .ok (.if_icmp .le 8, 3) := by decide +kernel
theorem dX11_drawing_306 : decode cX11_drawing 306 = .ok (.iload 11, 2) := by decide +kernel
theorem dX11_drawing_308 : decode cX11_drawing 308 = .ok (.goto 5, 3) := by decide +kernel
theorem dX11_drawing_311 : decode cX11_drawing 311 = .ok (.iload 8, 2) := by decide +kernel
theorem dX11_drawing_313 : decode cX11_drawing 313 = .ok (.istore 8, 2) := by decide +kernel
theorem dX11_drawing_315 : decode cX11_drawing 315 = .ok (.iinc 9 1, 3) := by decide +kernel
theorem dX11_drawing_318 : decode cX11_drawing 318 = .ok (.goto (-177), 3) := by decide +kernel
theorem dX11_drawing_321 : decode cX11_drawing 321 = .ok (.iload_n 3, 1) := by decide +kernel
theorem dX11_drawing_322 : decode cX11_drawing 322 = .ok (.ifCond .ne 8, 3) := by decide +kernel
theorem dX11_drawing_325 : decode cX11_drawing 325 = .ok (.iload 4, 2) := by decide +kernel
theorem dX11_drawing_327 : decode cX11_drawing 327 = .ok (.goto 47, 3) := by decide +kernel
theorem dX11_drawing_330 : decode cX11_drawing 330 = .ok (.iload_n 3, 1) := by decide +kernel
theorem dX11_drawing_331 : decode cX11_drawing 331 = .ok (.iconst 1, 1) := by decide +kernel
theorem dX11_drawing_332 : decode cX11_drawing 332 = .ok (.if_icmp .ne 8, 3) := by decide +kernel
theorem dX11_drawing_335 : decode cX11_drawing 335 = .ok (.iload 5, 2) := by decide +kernel
theorem dX11_drawing_337 : decode cX11_drawing 337 = .ok (.goto 37, 3) := by decide +kernel
theorem dX11_drawing_340 : decode cX11_drawing 340 = .ok (.iload_n 3, 1) := by decide +kernel
theorem dX11_drawing_341 : decode cX11_drawing 341 = .ok (.iconst 2, 1) := by decide +kernel
theorem dX11_drawing_342 : decode cX11_drawing 342 = .ok (.if_icmp .ne 8, 3) := by decide +kernel
theorem dX11_drawing_345 : decode cX11_drawing 345 = .ok (.iload 6, 2) := by decide +kernel
theorem dX11_drawing_347 : decode cX11_drawing 347 = .ok (.goto 27, 3) := by decide +kernel
theorem dX11_drawing_350 : decode cX11_drawing 350 = .ok (.iload_n 3, 1) := by decide +kernel
theorem dX11_drawing_351 : decode cX11_drawing 351 = .ok (.iconst 3, 1) := by decide +kernel
theorem dX11_drawing_352 : decode cX11_drawing 352 = .ok (.if_icmp .ne 8, 3) := by decide +kernel
theorem dX11_drawing_355 : decode cX11_drawing 355 = .ok (.iload 7, 2) := by decide +kernel
theorem dX11_drawing_357 : decode cX11_drawing 357 = .ok (.goto 17, 3) := by decide +kernel
theorem dX11_drawing_360 : decode cX11_drawing 360 = .ok (.iload 8, 2) := by decide +kernel
theorem dX11_drawing_362 : decode cX11_drawing 362 = .ok (.bipush 16, 2) := by decide +kernel
theorem dX11_drawing_364 : decode cX11_drawing 364 = .ok (.if_icmp .ne 8, 3) := by decide +kernel
theorem dX11_drawing_367 : decode cX11_drawing 367 = .ok (.ldc 100, 2) := by decide +kernel
theorem dX11_drawing_369 : decode cX11_drawing 369 = .ok (.goto 5, 3) := by decide +kernel
theorem dX11_drawing_372 : decode cX11_drawing 372 = .ok (.iload 8, 2) := by decide +kernel
theorem dX11_drawing_374 : decode cX11_drawing 374 = .ok (.ireturn, 1) := by decide +kernel
theorem dX11_feed_0 : decode cX11_feed 0 = .ok (.aload_n 0, 1) := by decide +kernel
theorem dX11_feed_1 : decode cX11_feed 1 = .ok (.iconst 0, 1) := by decide +kernel
theorem dX11_feed_2 : decode cX11_feed 2 = .ok (.putfield 52, 3) := by decide +kernel
theorem dX11_feed_5 : decode cX11_feed 5 = .ok (.iload_n 3, 1) := by decide +kernel
theorem dX11_feed_6 : decode cX11_feed 6 = .ok (.i2l, 1) := by decide +kernel
theorem dX11_feed_7 : decode cX11_feed 7 = .ok (.lconst 1, 1) := by decide +kernel
theorem dX11_feed_8 : decode cX11_feed 8 = .ok (.ldc2_w 105, 3) := by decide +kernel
theorem dX11_feed_11 : decode cX11_feed 11 = .ok (.invokestatic 62, 3) := by decide +kernel
theorem dX11_feed_14 : decode cX11_feed 14 = .ok (.ifCond .ne 6, 3) := by decide +kernel
theorem dX11_feed_17 : decode cX11_feed 17 = .ok (.ldc 72, 2) := by decide +kernel
theorem dX11_feed_19 : decode cX11_feed 19 = .ok (.ireturn, 1) := by decide +kernel
theorem dX11_feed_20 : decode cX11_feed 20 = .ok (.aload_n 0, 1) := by decide +kernel
theorem dX11_feed_21 : decode cX11_feed 21 = .ok (.getfield 107, 3) := by decide +kernel
theorem dX11_feed_24 : decode cX11_feed 24 = .ok (.iload_n 3, 1) := by decide +kernel
theorem dX11_feed_25 : decode cX11_feed 25 = .ok (.iadd, 1) := by decide +kernel
theorem dX11_feed_26 : decode cX11_feed 26 = .ok (.sipush 400, 3) := by decide +kernel
theorem dX11_feed_29 : decode cX11_feed 29 = .ok (.if_icmp .le 6, 3) := by decide +kernel
theorem dX11_feed_32 : decode cX11_feed 32 = .ok (.ldc 110, 2) := by decide +kernel
theorem dX11_feed_34 : decode cX11_feed 34 = .ok (.ireturn, 1) := by decide +kernel
theorem dX11_feed_35 : decode cX11_feed 35 = .ok (.iload_n 3, 1) := by decide +kernel
theorem dX11_feed_36 : decode cX11_feed 36 = .ok (.iconst 1, 1) := by decide +kernel
theorem dX11_feed_37 : decode cX11_feed 37 = .ok (.isub, 1) := by decide +kernel
theorem dX11_feed_38 : decode cX11_feed 38 = .ok (.istore 4, 2) := by decide +kernel
theorem dX11_feed_40 : decode cX11_feed 40 = .ok (.iload 4, 2) := by decide +kernel
theorem dX11_feed_42 : decode cX11_feed 42 = .ok (.ifCond .lt 40, 3) := by decide +kernel
theorem dX11_feed_45 : decode cX11_feed 45 = .ok (.aload_n 0, 1) := by decide +kernel
theorem dX11_feed_46 : decode cX11_feed 46 = .ok (.getfield 40, 3) := by decide +kernel
theorem dX11_feed_49 : decode cX11_feed 49 = .ok (.aload_n 0, 1) := by decide +kernel
theorem dX11_feed_50 : decode cX11_feed 50 = .ok (.getfield 107, 3) := by decide +kernel
theorem dX11_feed_53 : decode cX11_feed 53 = .ok (.lload_n 1, 1) := by decide +kernel
theorem dX11_feed_54 : decode cX11_feed 54 = .ok (.bipush 8, 2) := by decide +kernel
theorem dX11_feed_56 : decode cX11_feed 56 = .ok (.iload 4, 2) := by decide +kernel
theorem dX11_feed_58 : decode cX11_feed 58 = .ok (.imul, 1) := by decide +kernel
theorem dX11_feed_59 : decode cX11_feed 59 = .ok (.lshr, 1) := by decide +kernel
theorem dX11_feed_60 : decode cX11_feed 60 = .ok (.ldc2_w 111, 3) := by decide +kernel
theorem dX11_feed_63 : decode cX11_feed 63 = .ok (.land, 1) := by decide +kernel
theorem dX11_feed_64 : decode cX11_feed 64 = .ok (.l2i, 1) := by decide +kernel
theorem dX11_feed_65 : decode cX11_feed 65 = .ok (.iastore, 1) := by decide +kernel
theorem dX11_feed_66 : decode cX11_feed 66 = .ok (.aload_n 0, 1) := by decide +kernel
theorem dX11_feed_67 : decode cX11_feed 67 = .ok (.dup, 1) := by decide +kernel
theorem dX11_feed_68 : decode cX11_feed 68 = .ok (.getfield 107, 3) := by decide +kernel
theorem dX11_feed_71 : decode cX11_feed 71 = .ok (.iconst 1, 1) := by decide +kernel
theorem dX11_feed_72 : decode cX11_feed 72 = .ok (.iadd, 1) := by decide +kernel
theorem dX11_feed_73 : decode cX11_feed 73 = .ok (.putfield 107, 3) := by decide +kernel
theorem dX11_feed_76 : decode cX11_feed 76 = .ok (.iinc 4 (-1), 3) := by decide +kernel
theorem dX11_feed_79 : decode cX11_feed 79 = .ok (.goto (-39), 3) := by decide +kernel
theorem dX11_feed_82 : decode cX11_feed 82 = .ok (.aload_n 0, 1) := by decide +kernel
theorem dX11_feed_83 : decode cX11_feed 83 = .ok (.getfield 107, 3) := by decide +kernel
theorem dX11_feed_86 : decode cX11_feed 86 = .ok (.ireturn, 1) := by decide +kernel
theorem dX11_byteAt_0 : decode cX11_byteAt 0 = .ok (.iload_n 1, 1) := by decide +kernel
theorem dX11_byteAt_1 : decode cX11_byteAt 1 = .ok (.aload_n 0, 1) := by decide +kernel
theorem dX11_byteAt_2 : decode cX11_byteAt 2 = .ok (.getfield 113, 3) := by decide +kernel
theorem dX11_byteAt_5 : decode cX11_byteAt 5 = .ok (.if_icmp .ge 12, 3) := by decide +kernel
theorem dX11_byteAt_8 : decode cX11_byteAt 8 = .ok (.aload_n 0, 1) := by decide +kernel
theorem dX11_byteAt_9 : decode cX11_byteAt 9 = .ok (.getfield 40, 3) := by decide +kernel
theorem dX11_byteAt_12 : decode cX11_byteAt 12 = .ok (.iload_n 1, 1) := by decide +kernel
theorem dX11_byteAt_13 : decode cX11_byteAt 13 = .ok (.iaload, 1) := by decide +kernel
theorem dX11_byteAt_14 : decode cX11_byteAt 14 = .ok (.goto 5, 3) := by decide +kernel
theorem dX11_byteAt_17 : decode cX11_byteAt 17 = .ok (.ldc 100, 2) := by decide +kernel
theorem dX11_byteAt_19 : decode cX11_byteAt 19 = .ok (.ireturn, 1) := by decide +kernel
theorem dX11_isLetter_0 : decode cX11_isLetter 0 = .ok (.iload_n 0, 1) := by decide +kernel
theorem dX11_isLetter_1 : decode cX11_isLetter 1 = .ok (.bipush 97, 2) := by decide +kernel
theorem dX11_isLetter_3 : decode cX11_isLetter 3 = .ok (.if_icmp .lt 13, 3) := by decide +kernel
theorem dX11_isLetter_6 : decode cX11_isLetter 6 = .ok (.iload_n 0, 1) := by decide +kernel
theorem dX11_isLetter_7 : decode cX11_isLetter 7 = .ok (.bipush 122, 2) := by decide +kernel
theorem dX11_isLetter_9 : decode cX11_isLetter 9 = .ok (.if_icmp .gt 7, 3) := by decide +kernel
theorem dX11_isLetter_12 : decode cX11_isLetter 12 = .ok (.iconst 1, 1) := by decide +kernel
theorem dX11_isLetter_13 : decode cX11_isLetter 13 = .ok (.goto 4, 3) := by decide +kernel
theorem dX11_isLetter_16 : decode cX11_isLetter 16 = .ok (.iconst 0, 1) := by decide +kernel
theorem dX11_isLetter_17 : decode cX11_isLetter 17 = .ok (.ireturn, 1) := by decide +kernel
theorem dX11_isFigure_0 : decode cX11_isFigure 0 = .ok (.iload_n 0, 1) := by decide +kernel
theorem dX11_isFigure_1 : decode cX11_isFigure 1 = .ok (.bipush 48, 2) := by decide +kernel
theorem dX11_isFigure_3 : decode cX11_isFigure 3 = .ok (.if_icmp .lt 13, 3) := by decide +kernel
theorem dX11_isFigure_6 : decode cX11_isFigure 6 = .ok (.iload_n 0, 1) := by decide +kernel
theorem dX11_isFigure_7 : decode cX11_isFigure 7 = .ok (.bipush 57, 2) := by decide +kernel
theorem dX11_isFigure_9 : decode cX11_isFigure 9 = .ok (.if_icmp .gt 7, 3) := by decide +kernel
theorem dX11_isFigure_12 : decode cX11_isFigure 12 = .ok (.iconst 1, 1) := by decide +kernel
theorem dX11_isFigure_13 : decode cX11_isFigure 13 = .ok (.goto 4, 3) := by decide +kernel
theorem dX11_isFigure_16 : decode cX11_isFigure 16 = .ok (.iconst 0, 1) := by decide +kernel
theorem dX11_isFigure_17 : decode cX11_isFigure 17 = .ok (.ireturn, 1) := by decide +kernel
theorem dX11_step_0 : decode cX11_step 0 = .ok (.aload_n 0, 1) := by decide +kernel
theorem dX11_step_1 : decode cX11_step 1 = .ok (.aload_n 0, 1) := by decide +kernel
theorem dX11_step_2 : decode cX11_step 2 = .ok (.getfield 116, 3) := by decide +kernel
theorem dX11_step_5 : decode cX11_step 5 = .ok (.invokevirtual 119, 3) := by decide +kernel
theorem dX11_step_8 : decode cX11_step 8 = .ok (.bipush 32, 2) := by decide +kernel
theorem dX11_step_10 : decode cX11_step 10 = .ok (.if_icmp .eq 16, 3) := by decide +kernel
theorem dX11_step_13 : decode cX11_step 13 = .ok (.aload_n 0, 1) := by decide +kernel
theorem dX11_step_14 : decode cX11_step 14 = .ok (.aload_n 0, 1) := by decide +kernel
theorem dX11_step_15 : decode cX11_step 15 = .ok (.getfield 116, 3) := by decide +kernel
theorem dX11_step_18 : decode cX11_step 18 = .ok (.invokevirtual 119, 3) := by decide +kernel
theorem dX11_step_21 : decode cX11_step 21 = .ok (.bipush 10, 2) := by decide +kernel
theorem dX11_step_23 : decode cX11_step 23 = .ok (.if_icmp .ne 16, 3) := by decide +kernel
theorem dX11_step_26 : decode cX11_step 26 = .ok (.aload_n 0, 1) := by decide +kernel
theorem dX11_step_27 : decode cX11_step 27 = .ok (.dup, 1) := by decide +kernel
theorem dX11_step_28 : decode cX11_step 28 = .ok (.getfield 116, 3) := by decide +kernel
theorem dX11_step_31 : decode cX11_step 31 = .ok (.iconst 1, 1) := by decide +kernel
theorem dX11_step_32 : decode cX11_step 32 = .ok (.iadd, 1) := by decide +kernel
theorem dX11_step_33 : decode cX11_step 33 = .ok (.putfield 116, 3) := by decide +kernel
theorem dX11_step_36 : decode cX11_step 36 = .ok (.goto (-36), 3) := by decide +kernel
theorem dX11_step_39 : decode cX11_step 39 = .ok (.aload_n 0, 1) := by decide +kernel
theorem dX11_step_40 : decode cX11_step 40 = .ok (.aload_n 0, 1) := by decide +kernel
theorem dX11_step_41 : decode cX11_step 41 = .ok (.getfield 116, 3) := by decide +kernel
theorem dX11_step_44 : decode cX11_step 44 = .ok (.putfield 122, 3) := by decide +kernel
theorem dX11_step_47 : decode cX11_step 47 = .ok (.aload_n 0, 1) := by decide +kernel
theorem dX11_step_48 : decode cX11_step 48 = .ok (.aload_n 0, 1) := by decide +kernel
theorem dX11_step_49 : decode cX11_step 49 = .ok (.getfield 116, 3) := by decide +kernel
theorem dX11_step_52 : decode cX11_step 52 = .ok (.invokevirtual 119, 3) := by decide +kernel
theorem dX11_step_55 : decode cX11_step 55 = .ok (.istore_n 1, 1) := by decide +kernel
theorem dX11_step_56 : decode cX11_step 56 = .ok (.iload_n 1, 1) := by decide +kernel
theorem dX11_step_57 : decode cX11_step 57 = .ok (.ldc 100, 2) := by decide +kernel
theorem dX11_step_59 : decode cX11_step 59 = .ok (.if_icmp .ne 11, 3) := by decide +kernel
theorem dX11_step_62 : decode cX11_step 62 = .ok (.aload_n 0, 1) := by decide +kernel
theorem dX11_step_63 : decode cX11_step 63 = .ok (.iconst 1, 1) := by decide +kernel
theorem dX11_step_64 : decode cX11_step 64 = .ok (.putfield 125, 3) := by decide +kernel
theorem dX11_step_67 : decode cX11_step 67 = .ok (.goto 147, 3) := by decide +kernel
theorem dX11_step_70 : decode cX11_step 70 = .ok (.iload_n 1, 1) := by decide +kernel
theorem dX11_step_71 : decode cX11_step 71 = .ok (.invokestatic 128, 3) := by decide +kernel
theorem dX11_step_74 : decode cX11_step 74 = .ok (.ifCond .eq 56, 3) := by decide +kernel
theorem dX11_step_77 : decode cX11_step 77 = .ok (.aload_n 0, 1) := by decide +kernel
theorem dX11_step_78 : decode cX11_step 78 = .ok (.aload_n 0, 1) := by decide +kernel
theorem dX11_step_79 : decode cX11_step 79 = .ok (.getfield 116, 3) := by decide +kernel
theorem dX11_step_82 : decode cX11_step 82 = .ok (.invokevirtual 119, 3) := by decide +kernel
theorem dX11_step_85 : decode cX11_step 85 = .ok (.invokestatic 128, 3) := by decide +kernel
theorem dX11_step_88 : decode cX11_step 88 = .ok (.ifCond .eq 16, 3) := by decide +kernel
theorem dX11_step_91 : decode cX11_step 91 = .ok (.aload_n 0, 1) := by decide +kernel
theorem dX11_step_92 : decode cX11_step 92 = .ok (.dup, 1) := by decide +kernel
theorem dX11_step_93 : decode cX11_step 93 = .ok (.getfield 116, 3) := by decide +kernel
theorem dX11_step_96 : decode cX11_step 96 = .ok (.iconst 1, 1) := by decide +kernel
theorem dX11_step_97 : decode cX11_step 97 = .ok (.iadd, 1) := by decide +kernel
theorem dX11_step_98 : decode cX11_step 98 = .ok (.putfield 116, 3) := by decide +kernel
theorem dX11_step_101 : decode cX11_step 101 = .ok (.goto (-24), 3) := by decide +kernel
theorem dX11_step_104 : decode cX11_step 104 = .ok (.aload_n 0, 1) := by decide +kernel
theorem dX11_step_105 : decode cX11_step 105 = .ok (.aload_n 0, 1) := by decide +kernel
theorem dX11_step_106 : decode cX11_step 106 = .ok (.getfield 116, 3) := by decide +kernel
theorem dX11_step_109 : decode cX11_step 109 = .ok (.aload_n 0, 1) := by decide +kernel
theorem dX11_step_110 : decode cX11_step 110 = .ok (.getfield 122, 3) := by decide +kernel
theorem dX11_step_113 : decode cX11_step 113 = .ok (.isub, 1) := by decide +kernel
theorem dX11_step_114 : decode cX11_step 114 = .ok (.bipush 6, 2) := by decide +kernel
theorem dX11_step_116 : decode cX11_step 116 = .ok (.if_icmp .le 7, 3) := by decide +kernel
theorem dX11_step_119 : decode cX11_step 119 = .ok (.iconst 0, 1) := by decide +kernel
theorem dX11_step_120 : decode cX11_step 120 = .ok (.goto 4, 3) := by decide +kernel
theorem dX11_step_123 : decode cX11_step 123 = .ok (.iconst 2, 1) := by decide +kernel
theorem dX11_step_124 : decode cX11_step 124 = .ok (.putfield 125, 3) := by decide +kernel
theorem dX11_step_127 : decode cX11_step 127 = .ok (.goto 87, 3) := by decide +kernel
theorem dX11_step_130 : decode cX11_step 130 = .ok (.iload_n 1, 1) := by decide +kernel
theorem dX11_step_131 : decode cX11_step 131 = .ok (.invokestatic 131, 3) := by decide +kernel
theorem dX11_step_134 : decode cX11_step 134 = .ok (.ifCond .eq 55, 3) := by decide +kernel
theorem dX11_step_137 : decode cX11_step 137 = .ok (.aload_n 0, 1) := by decide +kernel
theorem dX11_step_138 : decode cX11_step 138 = .ok (.aload_n 0, 1) := by decide +kernel
theorem dX11_step_139 : decode cX11_step 139 = .ok (.getfield 116, 3) := by decide +kernel
theorem dX11_step_142 : decode cX11_step 142 = .ok (.invokevirtual 119, 3) := by decide +kernel
theorem dX11_step_145 : decode cX11_step 145 = .ok (.invokestatic 131, 3) := by decide +kernel
theorem dX11_step_148 : decode cX11_step 148 = .ok (.ifCond .eq 16, 3) := by decide +kernel
theorem dX11_step_151 : decode cX11_step 151 = .ok (.aload_n 0, 1) := by decide +kernel
theorem dX11_step_152 : decode cX11_step 152 = .ok (.dup, 1) := by decide +kernel
theorem dX11_step_153 : decode cX11_step 153 = .ok (.getfield 116, 3) := by decide +kernel
theorem dX11_step_156 : decode cX11_step 156 = .ok (.iconst 1, 1) := by decide +kernel
theorem dX11_step_157 : decode cX11_step 157 = .ok (.iadd, 1) := by decide +kernel
theorem dX11_step_158 : decode cX11_step 158 = .ok (.putfield 116, 3) := by decide +kernel
theorem dX11_step_161 : decode cX11_step 161 = .ok (.goto (-24), 3) := by decide +kernel
theorem dX11_step_164 : decode cX11_step 164 = .ok (.aload_n 0, 1) := by decide +kernel
theorem dX11_step_165 : decode cX11_step 165 = .ok (.aload_n 0, 1) := by decide +kernel
theorem dX11_step_166 : decode cX11_step 166 = .ok (.getfield 116, 3) := by decide +kernel
theorem dX11_step_169 : decode cX11_step 169 = .ok (.aload_n 0, 1) := by decide +kernel
theorem dX11_step_170 : decode cX11_step 170 = .ok (.getfield 122, 3) := by decide +kernel
theorem dX11_step_173 : decode cX11_step 173 = .ok (.isub, 1) := by decide +kernel
theorem dX11_step_174 : decode cX11_step 174 = .ok (.iconst 4, 1) := by decide +kernel
theorem dX11_step_175 : decode cX11_step 175 = .ok (.if_icmp .le 7, 3) := by decide +kernel
theorem dX11_step_178 : decode cX11_step 178 = .ok (.iconst 0, 1) := by decide +kernel
theorem dX11_step_179 : decode cX11_step 179 = .ok (.goto 4, 3) := by decide +kernel
theorem dX11_step_182 : decode cX11_step 182 = .ok (.iconst 3, 1) := by decide +kernel
theorem dX11_step_183 : decode cX11_step 183 = .ok (.putfield 125, 3) := by decide +kernel
theorem dX11_step_186 : decode cX11_step 186 = .ok (.goto 28, 3) := by decide +kernel
theorem dX11_step_189 : decode cX11_step 189 = .ok (.aload_n 0, 1) := by decide +kernel
theorem dX11_step_190 : decode cX11_step 190 = .ok (.dup, 1) := by decide +kernel
theorem dX11_step_191 : decode cX11_step 191 = .ok (.getfield 116, 3) := by decide +kernel
theorem dX11_step_194 : decode cX11_step 194 = .ok (.iconst 1, 1) := by decide +kernel
theorem dX11_step_195 : decode cX11_step 195 = .ok (.iadd, 1) := by decide +kernel
theorem dX11_step_196 : decode cX11_step 196 = .ok (.putfield 116, 3) := by decide +kernel
theorem dX11_step_199 : decode cX11_step 199 = .ok (.aload_n 0, 1) := by decide +kernel
theorem dX11_step_200 : decode cX11_step 200 = .ok (.iload_n 1, 1) := by decide +kernel
theorem dX11_step_201 : decode cX11_step 201 = .ok (.bipush 59, 2) := by decide +kernel
theorem dX11_step_203 : decode cX11_step 203 = .ok (.if_icmp .ne 7, 3) := by decide +kernel
theorem dX11_step_206 : decode cX11_step 206 = .ok (.iconst 4, 1) := by decide +kernel
theorem dX11_step_207 : decode cX11_step 207 = .ok (.goto 4, 3) := by decide +kernel
theorem dX11_step_210 : decode cX11_step 210 = .ok (.iconst 0, 1) := by decide +kernel
theorem dX11_step_211 : decode cX11_step 211 = .ok (.putfield 125, 3) := by decide +kernel
theorem dX11_step_214 : decode cX11_step 214 = .ok (.aload_n 0, 1) := by decide +kernel
theorem dX11_step_215 : decode cX11_step 215 = .ok (.aload_n 0, 1) := by decide +kernel
theorem dX11_step_216 : decode cX11_step 216 = .ok (.getfield 116, 3) := by decide +kernel
theorem dX11_step_219 : decode cX11_step 219 = .ok (.putfield 134, 3) := by decide +kernel
theorem dX11_step_222 : decode cX11_step 222 = .ok (.return_, 1) := by decide +kernel
theorem dX11_bad_0 : decode cX11_bad 0 = .ok (.aload_n 0, 1) := by decide +kernel
theorem dX11_bad_1 : decode cX11_bad 1 = .ok (.getfield 137, 3) := by decide +kernel
theorem dX11_bad_4 : decode cX11_bad 4 = .ok (.ifCond .ne 16, 3) := by decide +kernel
theorem dX11_bad_7 : decode cX11_bad 7 = .ok (.aload_n 0, 1) := by decide +kernel
theorem dX11_bad_8 : decode cX11_bad 8 = .ok (.iload_n 1, 1) := by decide +kernel
theorem dX11_bad_9 : decode cX11_bad 9 = .ok (.putfield 137, 3) := by decide +kernel
theorem dX11_bad_12 : decode cX11_bad 12 = .ok (.aload_n 0, 1) := by decide +kernel
theorem dX11_bad_13 : decode cX11_bad 13 = .ok (.aload_n 0, 1) := by decide +kernel
theorem dX11_bad_14 : decode cX11_bad 14 = .ok (.getfield 122, 3) := by decide +kernel
theorem dX11_bad_17 : decode cX11_bad 17 = .ok (.putfield 140, 3) := by decide +kernel
theorem dX11_bad_20 : decode cX11_bad 20 = .ok (.return_, 1) := by decide +kernel
theorem dX11_need_0 : decode cX11_need 0 = .ok (.iload_n 1, 1) := by decide +kernel
theorem dX11_need_1 : decode cX11_need 1 = .ok (.ifCond .ne 8, 3) := by decide +kernel
theorem dX11_need_4 : decode cX11_need 4 = .ok (.aload_n 0, 1) := by decide +kernel
theorem dX11_need_5 : decode cX11_need 5 = .ok (.iconst 1, 1) := by decide +kernel
theorem dX11_need_6 : decode cX11_need 6 = .ok (.invokevirtual 143, 3) := by decide +kernel
theorem dX11_need_9 : decode cX11_need 9 = .ok (.aload_n 0, 1) := by decide +kernel
theorem dX11_need_10 : decode cX11_need 10 = .ok (.getfield 137, 3) := by decide +kernel
theorem dX11_need_13 : decode cX11_need 13 = .ok (.ifCond .ne 7, 3) := by decide +kernel
theorem dX11_need_16 : decode cX11_need 16 = .ok (.aload_n 0, 1) := by decide +kernel
theorem dX11_need_17 : decode cX11_need 17 = .ok (.invokevirtual 146, 3) := by decide +kernel
theorem dX11_need_20 : decode cX11_need 20 = .ok (.return_, 1) := by decide +kernel
theorem dX11_word_0 : decode cX11_word 0 = .ok (.lconst 0, 1) := by decide +kernel
theorem dX11_word_1 : decode cX11_word 1 = .ok (.lstore_n 1, 1) := by decide +kernel
theorem dX11_word_2 : decode cX11_word 2 = .ok (.aload_n 0, 1) := by decide +kernel
theorem dX11_word_3 : decode cX11_word 3 = .ok (.getfield 122, 3) := by decide +kernel
theorem dX11_word_6 : decode cX11_word 6 = .ok (.istore_n 3, 1) := by decide +kernel
theorem dX11_word_7 : decode cX11_word 7 = .ok (.iload_n 3, 1) := by decide +kernel
theorem dX11_word_8 : decode cX11_word 8 = .ok (.aload_n 0, 1) := by decide +kernel
theorem dX11_word_9 : decode cX11_word 9 = .ok (.getfield 134, 3) := by decide +kernel
theorem dX11_word_12 : decode cX11_word 12 = .ok (.if_icmp .ge 30, 3) := by decide +kernel
theorem dX11_word_15 : decode cX11_word 15 = .ok (.aload_n 0, 1) := by decide +kernel
theorem dX11_word_16 : decode cX11_word 16 = .ok (.getfield 125, 3) := by decide +kernel
theorem dX11_word_19 : decode cX11_word 19 = .ok (.iconst 2, 1) := by decide +kernel
theorem dX11_word_20 : decode cX11_word 20 = .ok (.if_icmp .ne 22, 3) := by decide +kernel
theorem dX11_word_23 : decode cX11_word 23 = .ok (.lload_n 1, 1) := by decide +kernel
theorem dX11_word_24 : decode cX11_word 24 = .ok (.bipush 8, 2) := by decide +kernel
theorem dX11_word_26 : decode cX11_word 26 = .ok (.lshl, 1) := by decide +kernel
theorem dX11_word_27 : decode cX11_word 27 = .ok (.aload_n 0, 1) := by decide +kernel
theorem dX11_word_28 : decode cX11_word 28 = .ok (.getfield 40, 3) := by decide +kernel
theorem dX11_word_31 : decode cX11_word 31 = .ok (.iload_n 3, 1) := by decide +kernel
theorem dX11_word_32 : decode cX11_word 32 = .ok (.iaload, 1) := by decide +kernel
theorem dX11_word_33 : decode cX11_word 33 = .ok (.i2l, 1) := by decide +kernel
theorem dX11_word_34 : decode cX11_word 34 = .ok (.lor, 1) := by decide +kernel
theorem dX11_word_35 : decode cX11_word 35 = .ok (.lstore_n 1, 1) := by decide +kernel
theorem dX11_word_36 : decode cX11_word 36 = .ok (.iinc 3 1, 3) := by decide +kernel
theorem dX11_word_39 : decode cX11_word 39 = .ok (.goto (-32), 3) := by decide +kernel
theorem dX11_word_42 : decode cX11_word 42 = .ok (.lload_n 1, 1) := by decide +kernel
theorem dX11_word_43 : decode cX11_word 43 = .ok (.lreturn, 1) := by decide +kernel
theorem dX11_numberIn_0 : decode cX11_numberIn 0 = .ok (.iconst 0, 1) := by decide +kernel
theorem dX11_numberIn_1 : decode cX11_numberIn 1 = .ok (.istore_n 3, 1) := by decide +kernel
theorem dX11_numberIn_2 : decode cX11_numberIn 2 = .ok (.aload_n 0, 1) := by decide +kernel
theorem dX11_numberIn_3 : decode cX11_numberIn 3 = .ok (.getfield 122, 3) := by decide +kernel
theorem dX11_numberIn_6 : decode cX11_numberIn 6 = .ok (.istore 4, 2) := by decide +kernel
theorem dX11_numberIn_8 : decode cX11_numberIn 8 = .ok (.iload 4, 2) := by decide +kernel
theorem dX11_numberIn_10 : decode cX11_numberIn 10 = .ok (.aload_n 0, 1) := by decide +kernel
theorem dX11_numberIn_11 : decode cX11_numberIn 11 = .ok (.getfield 134, 3) := by decide +kernel
theorem dX11_numberIn_14 : decode cX11_numberIn 14 = .ok (.if_icmp .ge 33, 3) := by decide +kernel
theorem dX11_numberIn_17 : decode cX11_numberIn 17 = .ok (.aload_n 0, 1) := by decide +kernel
theorem dX11_numberIn_18 : decode cX11_numberIn 18 = .ok (.getfield 125, 3) := by decide +kernel
theorem dX11_numberIn_21 : decode cX11_numberIn 21 = .ok (.iconst 3, 1) := by decide +kernel
theorem dX11_numberIn_22 : decode cX11_numberIn 22 = .ok (.if_icmp .ne 25, 3) := by decide +kernel
theorem dX11_numberIn_25 : decode cX11_numberIn 25 = .ok (.bipush 10, 2) := by decide +kernel
theorem dX11_numberIn_27 : decode cX11_numberIn 27 = .ok (.iload_n 3, 1) := by decide +kernel
theorem dX11_numberIn_28 : decode cX11_numberIn 28 = .ok (.imul, 1) := by decide +kernel
theorem dX11_numberIn_29 : decode cX11_numberIn 29 = .ok (.aload_n 0, 1) := by decide +kernel
theorem dX11_numberIn_30 : decode cX11_numberIn 30 = .ok (.getfield 40, 3) := by decide +kernel
theorem dX11_numberIn_33 : decode cX11_numberIn 33 = .ok (.iload 4, 2) := by decide +kernel
theorem dX11_numberIn_35 : decode cX11_numberIn 35 = .ok (.iaload, 1) := by decide +kernel
theorem dX11_numberIn_36 : decode cX11_numberIn 36 = .ok (.iadd, 1) := by decide +kernel
theorem dX11_numberIn_37 : decode cX11_numberIn 37 = .ok (.bipush 48, 2) := by decide +kernel
theorem dX11_numberIn_39 : decode cX11_numberIn 39 = .ok (.isub, 1) := by decide +kernel
theorem dX11_numberIn_40 : decode cX11_numberIn 40 = .ok (.istore_n 3, 1) := by decide +kernel
theorem dX11_numberIn_41 : decode cX11_numberIn 41 = .ok (.iinc 4 1, 3) := by decide +kernel
theorem dX11_numberIn_44 : decode cX11_numberIn 44 = .ok (.goto (-36), 3) := by decide +kernel
theorem dX11_numberIn_47 : decode cX11_numberIn 47 = .ok (.aload_n 0, 1) := by decide +kernel
theorem dX11_numberIn_48 : decode cX11_numberIn 48 = .ok (.getfield 125, 3) := by decide +kernel
theorem dX11_numberIn_51 : decode cX11_numberIn 51 = .ok (.iconst 3, 1) := by decide +kernel
theorem dX11_numberIn_52 : decode cX11_numberIn 52 = .ok (.if_icmp .ne 20, 3) := by decide +kernel
theorem dX11_numberIn_55 : decode cX11_numberIn 55 = .ok (.iload_n 3, 1) := by decide +kernel
theorem dX11_numberIn_56 : decode cX11_numberIn 56 = .ok (.i2l, 1) := by decide +kernel
theorem dX11_numberIn_57 : decode cX11_numberIn 57 = .ok (.iload_n 1, 1) := by decide +kernel
theorem dX11_numberIn_58 : decode cX11_numberIn 58 = .ok (.i2l, 1) := by decide +kernel
theorem dX11_numberIn_59 : decode cX11_numberIn 59 = .ok (.iload_n 2, 1) := by decide +kernel
theorem dX11_numberIn_60 : decode cX11_numberIn 60 = .ok (.i2l, 1) := by decide +kernel
theorem dX11_numberIn_61 : decode cX11_numberIn 61 = .ok (.invokestatic 62, 3) := by decide +kernel
theorem dX11_numberIn_64 : decode cX11_numberIn 64 = .ok (.ifCond .ne 8, 3) := by decide +kernel
theorem dX11_numberIn_67 : decode cX11_numberIn 67 = .ok (.aload_n 0, 1) := by decide +kernel
theorem dX11_numberIn_68 : decode cX11_numberIn 68 = .ok (.iconst 2, 1) := by decide +kernel
theorem dX11_numberIn_69 : decode cX11_numberIn 69 = .ok (.invokevirtual 143, 3) := by decide +kernel
theorem dX11_numberIn_72 : decode cX11_numberIn 72 = .ok (.aload_n 0, 1) := by decide +kernel
theorem dX11_numberIn_73 : decode cX11_numberIn 73 = .ok (.aload_n 0, 1) := by decide +kernel
theorem dX11_numberIn_74 : decode cX11_numberIn 74 = .ok (.getfield 125, 3) := by decide +kernel
theorem dX11_numberIn_77 : decode cX11_numberIn 77 = .ok (.iconst 3, 1) := by decide +kernel
theorem dX11_numberIn_78 : decode cX11_numberIn 78 = .ok (.if_icmp .ne 7, 3) := by decide +kernel
theorem dX11_numberIn_81 : decode cX11_numberIn 81 = .ok (.iconst 1, 1) := by decide +kernel
theorem dX11_numberIn_82 : decode cX11_numberIn 82 = .ok (.goto 4, 3) := by decide +kernel
theorem dX11_numberIn_85 : decode cX11_numberIn 85 = .ok (.iconst 0, 1) := by decide +kernel
theorem dX11_numberIn_86 : decode cX11_numberIn 86 = .ok (.invokevirtual 149, 3) := by decide +kernel
theorem dX11_numberIn_89 : decode cX11_numberIn 89 = .ok (.iload_n 3, 1) := by decide +kernel
theorem dX11_numberIn_90 : decode cX11_numberIn 90 = .ok (.ireturn, 1) := by decide +kernel
theorem dX11_readTest_0 : decode cX11_readTest 0 = .ok (.bipush 12, 2) := by decide +kernel
theorem dX11_readTest_2 : decode cX11_readTest 2 = .ok (.aload_n 0, 1) := by decide +kernel
theorem dX11_readTest_3 : decode cX11_readTest 3 = .ok (.getfield 153, 3) := by decide +kernel
theorem dX11_readTest_6 : decode cX11_readTest 6 = .ok (.imul, 1) := by decide +kernel
theorem dX11_readTest_7 : decode cX11_readTest 7 = .ok (.iconst 3, 1) := by decide +kernel
theorem dX11_readTest_8 : decode cX11_readTest 8 = .ok (.iload_n 1, 1) := by decide +kernel
theorem dX11_readTest_9 : decode cX11_readTest 9 = .ok (.imul, 1) := by decide +kernel
theorem dX11_readTest_10 : decode cX11_readTest 10 = .ok (.iadd, 1) := by decide +kernel
theorem dX11_readTest_11 : decode cX11_readTest 11 = .ok (.istore_n 2, 1) := by decide +kernel
theorem dX11_readTest_12 : decode cX11_readTest 12 = .ok (.aload_n 0, 1) := by decide +kernel
theorem dX11_readTest_13 : decode cX11_readTest 13 = .ok (.invokevirtual 156, 3) := by decide +kernel
theorem dX11_readTest_16 : decode cX11_readTest 16 = .ok (.lstore_n 3, 1) := by decide +kernel
theorem dX11_readTest_17 : decode cX11_readTest 17 = .ok (.lload_n 3, 1) := by decide +kernel
theorem dX11_readTest_18 : decode cX11_readTest 18 = .ok (.ldc2_w 160, 3) := by decide +kernel
theorem dX11_readTest_21 : decode cX11_readTest 21 = .ok (.lcmp, 1) := by decide +kernel
theorem dX11_readTest_22 : decode cX11_readTest 22 = .ok (.ifCond .ne 7, 3) := by decide +kernel
theorem dX11_readTest_25 : decode cX11_readTest 25 = .ok (.iconst 1, 1) := by decide +kernel
theorem dX11_readTest_26 : decode cX11_readTest 26 = .ok (.goto 40, 3) := by decide +kernel
theorem dX11_readTest_29 : decode cX11_readTest 29 = .ok (.lload_n 3, 1) := by decide +kernel
theorem dX11_readTest_30 : decode cX11_readTest 30 = .ok (.ldc2_w 162, 3) := by decide +kernel
theorem dX11_readTest_33 : decode cX11_readTest 33 = .ok (.lcmp, 1) := by decide +kernel
theorem dX11_readTest_34 : decode cX11_readTest 34 = .ok (.ifCond .ne 7, 3) := by decide +kernel
theorem dX11_readTest_37 : decode cX11_readTest 37 = .ok (.iconst 2, 1) := by decide +kernel
theorem dX11_readTest_38 : decode cX11_readTest 38 = .ok (.goto 28, 3) := by decide +kernel
theorem dX11_readTest_41 : decode cX11_readTest 41 = .ok (.lload_n 3, 1) := by decide +kernel
theorem dX11_readTest_42 : decode cX11_readTest 42 = .ok (.ldc2_w 164, 3) := by decide +kernel
theorem dX11_readTest_45 : decode cX11_readTest 45 = .ok (.lcmp, 1) := by decide +kernel
theorem dX11_readTest_46 : decode cX11_readTest 46 = .ok (.ifCond .ne 7, 3) := by decide +kernel
theorem dX11_readTest_49 : decode cX11_readTest 49 = .ok (.iconst 3, 1) := by decide +kernel
theorem dX11_readTest_50 : decode cX11_readTest 50 = .ok (.goto 16, 3) := by decide +kernel
theorem dX11_readTest_53 : decode cX11_readTest 53 = .ok (.lload_n 3, 1) := by decide +kernel
theorem dX11_readTest_54 : decode cX11_readTest 54 = .ok (.ldc2_w 166, 3) := by decide +kernel
theorem dX11_readTest_57 : decode cX11_readTest 57 = .ok (.lcmp, 1) := by decide +kernel
theorem dX11_readTest_58 : decode cX11_readTest 58 = .ok (.ifCond .ne 7, 3) := by decide +kernel
theorem dX11_readTest_61 : decode cX11_readTest 61 = .ok (.iconst 4, 1) := by decide +kernel
theorem dX11_readTest_62 : decode cX11_readTest 62 = .ok (.goto 4, 3) := by decide +kernel
theorem dX11_readTest_65 : decode cX11_readTest 65 = .ok (.iconst 0, 1) := by decide +kernel
theorem dX11_readTest_66 : decode cX11_readTest 66 = .ok (.istore 5, 2) := by decide +kernel
theorem dX11_readTest_68 : decode cX11_readTest 68 = .ok (.aload_n 0, 1) := by decide +kernel
theorem dX11_readTest_69 : decode cX11_readTest 69 = .ok (.iload 5, 2) := by decide +kernel
theorem dX11_readTest_71 : decode cX11_readTest 71 = .ok (.ifCond .le 7, 3) := by decide +kernel
theorem dX11_readTest_74 : decode cX11_readTest 74 = .ok (.iconst 1, 1) := by decide +kernel
theorem dX11_readTest_75 : decode cX11_readTest 75 = .ok (.goto 4, 3) := by decide +kernel
theorem dX11_readTest_78 : decode cX11_readTest 78 = .ok (.iconst 0, 1) := by decide +kernel
theorem dX11_readTest_79 : decode cX11_readTest 79 = .ok (.invokevirtual 149, 3) := by decide +kernel
theorem dX11_readTest_82 : decode cX11_readTest 82 = .ok (.aload_n 0, 1) := by decide +kernel
theorem dX11_readTest_83 : decode cX11_readTest 83 = .ok (.getfield 137, 3) := by decide +kernel
theorem dX11_readTest_86 : decode cX11_readTest 86 = .ok (.ifCond .le 4, 3) := by decide +kernel
theorem dX11_readTest_89 : decode cX11_readTest 89 = .ok (.return_, 1) := by decide +kernel
theorem dX11_readTest_90 : decode cX11_readTest 90 = .ok (.aload_n 0, 1) := by decide +kernel
theorem dX11_readTest_91 : decode cX11_readTest 91 = .ok (.getfield 34, 3) := by decide +kernel
theorem dX11_readTest_94 : decode cX11_readTest 94 = .ok (.iload_n 2, 1) := by decide +kernel
theorem dX11_readTest_95 : decode cX11_readTest 95 = .ok (.iload 5, 2) := by decide +kernel
theorem dX11_readTest_97 : decode cX11_readTest 97 = .ok (.iastore, 1) := by decide +kernel
theorem dX11_readTest_98 : decode cX11_readTest 98 = .ok (.aload_n 0, 1) := by decide +kernel
theorem dX11_readTest_99 : decode cX11_readTest 99 = .ok (.getfield 34, 3) := by decide +kernel
theorem dX11_readTest_102 : decode cX11_readTest 102 = .ok (.iload_n 2, 1) := by decide +kernel
theorem dX11_readTest_103 : decode cX11_readTest 103 = .ok (.iconst 1, 1) := by decide +kernel
theorem dX11_readTest_104 : decode cX11_readTest 104 = .ok (.iadd, 1) := by decide +kernel
theorem dX11_readTest_105 : decode cX11_readTest 105 = .ok (.iload 5, 2) := by decide +kernel
theorem dX11_readTest_107 : decode cX11_readTest 107 = .ok (.iconst 3, 1) := by decide +kernel
theorem dX11_readTest_108 : decode cX11_readTest 108 = .ok (.if_icmp .ne 13, 3) := by decide +kernel
theorem dX11_readTest_111 : decode cX11_readTest 111 = .ok (.aload_n 0, 1) := by decide +kernel
theorem dX11_readTest_112 : decode cX11_readTest 112 = .ok (.iconst 1, 1) := by decide +kernel
theorem dX11_readTest_113 : decode cX11_readTest 113 = .ok (.bipush 11, 2) := by decide +kernel
theorem dX11_readTest_115 : decode cX11_readTest 115 = .ok (.invokevirtual 168, 3) := by decide +kernel
theorem dX11_readTest_118 : decode cX11_readTest 118 = .ok (.goto 10, 3) := by decide +kernel
theorem dX11_readTest_121 : decode cX11_readTest 121 = .ok (.aload_n 0, 1) := by decide +kernel
theorem dX11_readTest_122 : decode cX11_readTest 122 = .ok (.iconst 0, 1) := by decide +kernel
theorem dX11_readTest_123 : decode cX11_readTest 123 = .ok (.bipush 15, 2) := by decide +kernel
theorem dX11_readTest_125 : decode cX11_readTest 125 = .ok (.invokevirtual 168, 3) := by decide +kernel
theorem dX11_readTest_128 : decode cX11_readTest 128 = .ok (.iastore, 1) := by decide +kernel
theorem dX11_readTest_129 : decode cX11_readTest 129 = .ok (.iload 5, 2) := by decide +kernel
theorem dX11_readTest_131 : decode cX11_readTest 131 = .ok (.iconst 1, 1) := by decide +kernel
theorem dX11_readTest_132 : decode cX11_readTest 132 = .ok (.if_icmp .ne 23, 3) := by decide +kernel
theorem dX11_readTest_135 : decode cX11_readTest 135 = .ok (.aload_n 0, 1) := by decide +kernel
theorem dX11_readTest_136 : decode cX11_readTest 136 = .ok (.aload_n 0, 1) := by decide +kernel
theorem dX11_readTest_137 : decode cX11_readTest 137 = .ok (.invokevirtual 156, 3) := by decide +kernel
theorem dX11_readTest_140 : decode cX11_readTest 140 = .ok (.ldc2_w 172, 3) := by decide +kernel
theorem dX11_readTest_143 : decode cX11_readTest 143 = .ok (.lcmp, 1) := by decide +kernel
theorem dX11_readTest_144 : decode cX11_readTest 144 = .ok (.ifCond .ne 7, 3) := by decide +kernel
theorem dX11_readTest_147 : decode cX11_readTest 147 = .ok (.iconst 1, 1) := by decide +kernel
theorem dX11_readTest_148 : decode cX11_readTest 148 = .ok (.goto 4, 3) := by decide +kernel
theorem dX11_readTest_151 : decode cX11_readTest 151 = .ok (.iconst 0, 1) := by decide +kernel
theorem dX11_readTest_152 : decode cX11_readTest 152 = .ok (.invokevirtual 149, 3) := by decide +kernel
theorem dX11_readTest_155 : decode cX11_readTest 155 = .ok (.aload_n 0, 1) := by decide +kernel
theorem dX11_readTest_156 : decode cX11_readTest 156 = .ok (.getfield 34, 3) := by decide +kernel
theorem dX11_readTest_159 : decode cX11_readTest 159 = .ok (.iload_n 2, 1) := by decide +kernel
theorem dX11_readTest_160 : decode cX11_readTest 160 = .ok (.iconst 2, 1) := by decide +kernel
theorem dX11_readTest_161 : decode cX11_readTest 161 = .ok (.iadd, 1) := by decide +kernel
theorem dX11_readTest_162 : decode cX11_readTest 162 = .ok (.iload 5, 2) := by decide +kernel
theorem dX11_readTest_164 : decode cX11_readTest 164 = .ok (.iconst 1, 1) := by decide +kernel
theorem dX11_readTest_165 : decode cX11_readTest 165 = .ok (.if_icmp .eq 9, 3) := by decide +kernel
theorem dX11_readTest_168 : decode cX11_readTest 168 = .ok (.iload 5, 2) := by decide +kernel
theorem dX11_readTest_170 : decode cX11_readTest 170 = .ok (.iconst 2, 1) := by decide +kernel
theorem dX11_readTest_171 : decode cX11_readTest 171 = .ok (.if_icmp .ne 13, 3) := by decide +kernel
theorem dX11_readTest_174 : decode cX11_readTest 174 = .ok (.aload_n 0, 1) := by decide +kernel
theorem dX11_readTest_175 : decode cX11_readTest 175 = .ok (.iconst 0, 1) := by decide +kernel
theorem dX11_readTest_176 : decode cX11_readTest 176 = .ok (.bipush 15, 2) := by decide +kernel
theorem dX11_readTest_178 : decode cX11_readTest 178 = .ok (.invokevirtual 168, 3) := by decide +kernel
theorem dX11_readTest_181 : decode cX11_readTest 181 = .ok (.goto 4, 3) := by decide +kernel
theorem dX11_readTest_184 : decode cX11_readTest 184 = .ok (.iconst 0, 1) := by decide +kernel
theorem dX11_readTest_185 : decode cX11_readTest 185 = .ok (.iastore, 1) := by decide +kernel
theorem dX11_readTest_186 : decode cX11_readTest 186 = .ok (.return_, 1) := by decide +kernel
theorem dX11_readRule_0 : decode cX11_readRule 0 = .ok (.aload_n 0, 1) := by decide +kernel
theorem dX11_readRule_1 : decode cX11_readRule 1 = .ok (.invokevirtual 156, 3) := by decide +kernel
theorem dX11_readRule_4 : decode cX11_readRule 4 = .ok (.ldc2_w 174, 3) := by decide +kernel
theorem dX11_readRule_7 : decode cX11_readRule 7 = .ok (.lcmp, 1) := by decide +kernel
theorem dX11_readRule_8 : decode cX11_readRule 8 = .ok (.ifCond .ne 17, 3) := by decide +kernel
theorem dX11_readRule_11 : decode cX11_readRule 11 = .ok (.aload_n 0, 1) := by decide +kernel
theorem dX11_readRule_12 : decode cX11_readRule 12 = .ok (.getfield 153, 3) := by decide +kernel
theorem dX11_readRule_15 : decode cX11_readRule 15 = .ok (.bipush 15, 2) := by decide +kernel
theorem dX11_readRule_17 : decode cX11_readRule 17 = .ok (.if_icmp .ne 8, 3) := by decide +kernel
theorem dX11_readRule_20 : decode cX11_readRule 20 = .ok (.aload_n 0, 1) := by decide +kernel
theorem dX11_readRule_21 : decode cX11_readRule 21 = .ok (.iconst 3, 1) := by decide +kernel
theorem dX11_readRule_22 : decode cX11_readRule 22 = .ok (.invokevirtual 143, 3) := by decide +kernel
theorem dX11_readRule_25 : decode cX11_readRule 25 = .ok (.aload_n 0, 1) := by decide +kernel
theorem dX11_readRule_26 : decode cX11_readRule 26 = .ok (.aload_n 0, 1) := by decide +kernel
theorem dX11_readRule_27 : decode cX11_readRule 27 = .ok (.invokevirtual 156, 3) := by decide +kernel
theorem dX11_readRule_30 : decode cX11_readRule 30 = .ok (.ldc2_w 174, 3) := by decide +kernel
theorem dX11_readRule_33 : decode cX11_readRule 33 = .ok (.lcmp, 1) := by decide +kernel
theorem dX11_readRule_34 : decode cX11_readRule 34 = .ok (.ifCond .ne 7, 3) := by decide +kernel
theorem dX11_readRule_37 : decode cX11_readRule 37 = .ok (.iconst 1, 1) := by decide +kernel
theorem dX11_readRule_38 : decode cX11_readRule 38 = .ok (.goto 4, 3) := by decide +kernel
theorem dX11_readRule_41 : decode cX11_readRule 41 = .ok (.iconst 0, 1) := by decide +kernel
theorem dX11_readRule_42 : decode cX11_readRule 42 = .ok (.invokevirtual 149, 3) := by decide +kernel
theorem dX11_readRule_45 : decode cX11_readRule 45 = .ok (.iconst 0, 1) := by decide +kernel
theorem dX11_readRule_46 : decode cX11_readRule 46 = .ok (.istore_n 1, 1) := by decide +kernel
theorem dX11_readRule_47 : decode cX11_readRule 47 = .ok (.aload_n 0, 1) := by decide +kernel
theorem dX11_readRule_48 : decode cX11_readRule 48 = .ok (.getfield 137, 3) := by decide +kernel
theorem dX11_readRule_51 : decode cX11_readRule 51 = .ok (.ifCond .ne 11, 3) := by decide +kernel
theorem dX11_readRule_54 : decode cX11_readRule 54 = .ok (.aload_n 0, 1) := by decide +kernel
theorem dX11_readRule_55 : decode cX11_readRule 55 = .ok (.iload_n 1, 1) := by decide +kernel
theorem dX11_readRule_56 : decode cX11_readRule 56 = .ok (.invokevirtual 176, 3) := by decide +kernel
theorem dX11_readRule_59 : decode cX11_readRule 59 = .ok (.iinc 1 1, 3) := by decide +kernel
theorem dX11_readRule_62 : decode cX11_readRule 62 = .ok (.aload_n 0, 1) := by decide +kernel
theorem dX11_readRule_63 : decode cX11_readRule 63 = .ok (.getfield 137, 3) := by decide +kernel
theorem dX11_readRule_66 : decode cX11_readRule 66 = .ok (.ifCond .ne 42, 3) := by decide +kernel
theorem dX11_readRule_69 : decode cX11_readRule 69 = .ok (.aload_n 0, 1) := by decide +kernel
theorem dX11_readRule_70 : decode cX11_readRule 70 = .ok (.invokevirtual 156, 3) := by decide +kernel
theorem dX11_readRule_73 : decode cX11_readRule 73 = .ok (.ldc2_w 178, 3) := by decide +kernel
theorem dX11_readRule_76 : decode cX11_readRule 76 = .ok (.lcmp, 1) := by decide +kernel
theorem dX11_readRule_77 : decode cX11_readRule 77 = .ok (.ifCond .ne 31, 3) := by decide +kernel
theorem dX11_readRule_80 : decode cX11_readRule 80 = .ok (.iload_n 1, 1) := by decide +kernel
theorem dX11_readRule_81 : decode cX11_readRule 81 = .ok (.iconst 4, 1) := by decide +kernel
theorem dX11_readRule_82 : decode cX11_readRule 82 = .ok (.if_icmp .ne 11, 3) := by decide +kernel
theorem dX11_readRule_85 : decode cX11_readRule 85 = .ok (.aload_n 0, 1) := by decide +kernel
theorem dX11_readRule_86 : decode cX11_readRule 86 = .ok (.iconst 3, 1) := by decide +kernel
theorem dX11_readRule_87 : decode cX11_readRule 87 = .ok (.invokevirtual 143, 3) := by decide +kernel
theorem dX11_readRule_90 : decode cX11_readRule 90 = .ok (.goto (-28), 3) := by decide +kernel
theorem dX11_readRule_93 : decode cX11_readRule 93 = .ok (.aload_n 0, 1) := by decide +kernel
theorem dX11_readRule_94 : decode cX11_readRule 94 = .ok (.invokevirtual 146, 3) := by decide +kernel
theorem dX11_readRule_97 : decode cX11_readRule 97 = .ok (.aload_n 0, 1) := by decide +kernel
theorem dX11_readRule_98 : decode cX11_readRule 98 = .ok (.iload_n 1, 1) := by decide +kernel
theorem dX11_readRule_99 : decode cX11_readRule 99 = .ok (.invokevirtual 176, 3) := by decide +kernel
theorem dX11_readRule_102 : decode cX11_readRule 102 = .ok (.iinc 1 1, 3) := by decide +kernel
theorem dX11_readRule_105 : decode cX11_readRule 105 = .ok (.goto (-43), 3) := by decide +kernel
theorem dX11_readRule_108 : decode cX11_readRule 108 = .ok (.aload_n 0, 1) := by decide +kernel
theorem dX11_readRule_109 : decode cX11_readRule 109 = .ok (.getfield 137, 3) := by decide +kernel
theorem dX11_readRule_112 : decode cX11_readRule 112 = .ok (.ifCond .ne 23, 3) := by decide +kernel
theorem dX11_readRule_115 : decode cX11_readRule 115 = .ok (.aload_n 0, 1) := by decide +kernel
theorem dX11_readRule_116 : decode cX11_readRule 116 = .ok (.aload_n 0, 1) := by decide +kernel
theorem dX11_readRule_117 : decode cX11_readRule 117 = .ok (.invokevirtual 156, 3) := by decide +kernel
theorem dX11_readRule_120 : decode cX11_readRule 120 = .ok (.ldc2_w 180, 3) := by decide +kernel
theorem dX11_readRule_123 : decode cX11_readRule 123 = .ok (.lcmp, 1) := by decide +kernel
theorem dX11_readRule_124 : decode cX11_readRule 124 = .ok (.ifCond .ne 7, 3) := by decide +kernel
theorem dX11_readRule_127 : decode cX11_readRule 127 = .ok (.iconst 1, 1) := by decide +kernel
theorem dX11_readRule_128 : decode cX11_readRule 128 = .ok (.goto 4, 3) := by decide +kernel
theorem dX11_readRule_131 : decode cX11_readRule 131 = .ok (.iconst 0, 1) := by decide +kernel
theorem dX11_readRule_132 : decode cX11_readRule 132 = .ok (.invokevirtual 149, 3) := by decide +kernel
theorem dX11_readRule_135 : decode cX11_readRule 135 = .ok (.aload_n 0, 1) := by decide +kernel
theorem dX11_readRule_136 : decode cX11_readRule 136 = .ok (.getfield 137, 3) := by decide +kernel
theorem dX11_readRule_139 : decode cX11_readRule 139 = .ok (.ifCond .ne 14, 3) := by decide +kernel
theorem dX11_readRule_142 : decode cX11_readRule 142 = .ok (.aload_n 0, 1) := by decide +kernel
theorem dX11_readRule_143 : decode cX11_readRule 143 = .ok (.iconst 0, 1) := by decide +kernel
theorem dX11_readRule_144 : decode cX11_readRule 144 = .ok (.sipush 9999, 3) := by decide +kernel
theorem dX11_readRule_147 : decode cX11_readRule 147 = .ok (.invokevirtual 168, 3) := by decide +kernel
theorem dX11_readRule_150 : decode cX11_readRule 150 = .ok (.goto 4, 3) := by decide +kernel
theorem dX11_readRule_153 : decode cX11_readRule 153 = .ok (.iconst 0, 1) := by decide +kernel
theorem dX11_readRule_154 : decode cX11_readRule 154 = .ok (.istore_n 2, 1) := by decide +kernel
theorem dX11_readRule_155 : decode cX11_readRule 155 = .ok (.aload_n 0, 1) := by decide +kernel
theorem dX11_readRule_156 : decode cX11_readRule 156 = .ok (.getfield 137, 3) := by decide +kernel
theorem dX11_readRule_159 : decode cX11_readRule 159 = .ok (.ifCond .ne 20, 3) := by decide +kernel
theorem dX11_readRule_162 : decode cX11_readRule 162 = .ok (.aload_n 0, 1) := by decide +kernel
theorem dX11_readRule_163 : decode cX11_readRule 163 = .ok (.aload_n 0, 1) := by decide +kernel
theorem dX11_readRule_164 : decode cX11_readRule 164 = .ok (.getfield 125, 3) := by decide +kernel
theorem dX11_readRule_167 : decode cX11_readRule 167 = .ok (.iconst 4, 1) := by decide +kernel
theorem dX11_readRule_168 : decode cX11_readRule 168 = .ok (.if_icmp .ne 7, 3) := by decide +kernel
theorem dX11_readRule_171 : decode cX11_readRule 171 = .ok (.iconst 1, 1) := by decide +kernel
theorem dX11_readRule_172 : decode cX11_readRule 172 = .ok (.goto 4, 3) := by decide +kernel
theorem dX11_readRule_175 : decode cX11_readRule 175 = .ok (.iconst 0, 1) := by decide +kernel
theorem dX11_readRule_176 : decode cX11_readRule 176 = .ok (.invokevirtual 149, 3) := by decide +kernel
theorem dX11_readRule_179 : decode cX11_readRule 179 = .ok (.aload_n 0, 1) := by decide +kernel
theorem dX11_readRule_180 : decode cX11_readRule 180 = .ok (.getfield 137, 3) := by decide +kernel
theorem dX11_readRule_183 : decode cX11_readRule 183 = .ok (.ifCond .ne 33, 3) := by decide +kernel
theorem dX11_readRule_186 : decode cX11_readRule 186 = .ok (.aload_n 0, 1) := by decide +kernel
theorem dX11_readRule_187 : decode cX11_readRule 187 = .ok (.getfield 31, 3) := by decide +kernel
theorem dX11_readRule_190 : decode cX11_readRule 190 = .ok (.aload_n 0, 1) := by decide +kernel
theorem dX11_readRule_191 : decode cX11_readRule 191 = .ok (.getfield 153, 3) := by decide +kernel
end
section
theorem dX11_readRule_194 : decode cX11_readRule 194 = .ok (.iload_n 1, 1) := by decide +kernel
theorem dX11_readRule_195 : decode cX11_readRule 195 = .ok (.iastore, 1) := by decide +kernel
theorem dX11_readRule_196 : decode cX11_readRule 196 = .ok (.aload_n 0, 1) := by decide +kernel
theorem dX11_readRule_197 : decode cX11_readRule 197 = .ok (.getfield 37, 3) := by decide +kernel
theorem dX11_readRule_200 : decode cX11_readRule 200 = .ok (.aload_n 0, 1) := by decide +kernel
theorem dX11_readRule_201 : decode cX11_readRule 201 = .ok (.getfield 153, 3) := by decide +kernel
theorem dX11_readRule_204 : decode cX11_readRule 204 = .ok (.iload_n 2, 1) := by decide +kernel
theorem dX11_readRule_205 : decode cX11_readRule 205 = .ok (.iastore, 1) := by decide +kernel
theorem dX11_readRule_206 : decode cX11_readRule 206 = .ok (.aload_n 0, 1) := by decide +kernel
theorem dX11_readRule_207 : decode cX11_readRule 207 = .ok (.dup, 1) := by decide +kernel
theorem dX11_readRule_208 : decode cX11_readRule 208 = .ok (.getfield 153, 3) := by decide +kernel
theorem dX11_readRule_211 : decode cX11_readRule 211 = .ok (.iconst 1, 1) := by decide +kernel
theorem dX11_readRule_212 : decode cX11_readRule 212 = .ok (.iadd, 1) := by decide +kernel
theorem dX11_readRule_213 : decode cX11_readRule 213 = .ok (.putfield 153, 3) := by decide +kernel
theorem dX11_readRule_216 : decode cX11_readRule 216 = .ok (.return_, 1) := by decide +kernel
theorem dX11_rules_0 : decode cX11_rules 0 = .ok (.aload_n 0, 1) := by decide +kernel
theorem dX11_rules_1 : decode cX11_rules 1 = .ok (.iconst 0, 1) := by decide +kernel
theorem dX11_rules_2 : decode cX11_rules 2 = .ok (.putfield 52, 3) := by decide +kernel
theorem dX11_rules_5 : decode cX11_rules 5 = .ok (.aload_n 0, 1) := by decide +kernel
theorem dX11_rules_6 : decode cX11_rules 6 = .ok (.aload_n 0, 1) := by decide +kernel
theorem dX11_rules_7 : decode cX11_rules 7 = .ok (.getfield 107, 3) := by decide +kernel
theorem dX11_rules_10 : decode cX11_rules 10 = .ok (.putfield 113, 3) := by decide +kernel
theorem dX11_rules_13 : decode cX11_rules 13 = .ok (.aload_n 0, 1) := by decide +kernel
theorem dX11_rules_14 : decode cX11_rules 14 = .ok (.iconst 0, 1) := by decide +kernel
theorem dX11_rules_15 : decode cX11_rules 15 = .ok (.putfield 107, 3) := by decide +kernel
theorem dX11_rules_18 : decode cX11_rules 18 = .ok (.aload_n 0, 1) := by decide +kernel
theorem dX11_rules_19 : decode cX11_rules 19 = .ok (.iconst 0, 1) := by decide +kernel
theorem dX11_rules_20 : decode cX11_rules 20 = .ok (.putfield 116, 3) := by decide +kernel
theorem dX11_rules_23 : decode cX11_rules 23 = .ok (.aload_n 0, 1) := by decide +kernel
theorem dX11_rules_24 : decode cX11_rules 24 = .ok (.iconst 0, 1) := by decide +kernel
theorem dX11_rules_25 : decode cX11_rules 25 = .ok (.putfield 137, 3) := by decide +kernel
theorem dX11_rules_28 : decode cX11_rules 28 = .ok (.aload_n 0, 1) := by decide +kernel
theorem dX11_rules_29 : decode cX11_rules 29 = .ok (.iconst 0, 1) := by decide +kernel
theorem dX11_rules_30 : decode cX11_rules 30 = .ok (.putfield 153, 3) := by decide +kernel
theorem dX11_rules_33 : decode cX11_rules 33 = .ok (.aload_n 0, 1) := by decide +kernel
theorem dX11_rules_34 : decode cX11_rules 34 = .ok (.invokevirtual 146, 3) := by decide +kernel
theorem dX11_rules_37 : decode cX11_rules 37 = .ok (.aload_n 0, 1) := by decide +kernel
theorem dX11_rules_38 : decode cX11_rules 38 = .ok (.getfield 137, 3) := by decide +kernel
theorem dX11_rules_41 : decode cX11_rules 41 = .ok (.ifCond .ne 18, 3) := by decide +kernel
theorem dX11_rules_44 : decode cX11_rules 44 = .ok (.aload_n 0, 1) := by decide +kernel
theorem dX11_rules_45 : decode cX11_rules 45 = .ok (.getfield 125, 3) := by decide +kernel
theorem dX11_rules_48 : decode cX11_rules 48 = .ok (.iconst 1, 1) := by decide +kernel
theorem dX11_rules_49 : decode cX11_rules 49 = .ok (.if_icmp .eq 10, 3) := by decide +kernel
theorem dX11_rules_52 : decode cX11_rules 52 = .ok (.aload_n 0, 1) := by decide +kernel
theorem dX11_rules_53 : decode cX11_rules 53 = .ok (.invokevirtual 182, 3) := by decide +kernel
theorem dX11_rules_56 : decode cX11_rules 56 = .ok (.goto (-19), 3) := by decide +kernel
theorem dX11_rules_59 : decode cX11_rules 59 = .ok (.aload_n 0, 1) := by decide +kernel
theorem dX11_rules_60 : decode cX11_rules 60 = .ok (.getfield 137, 3) := by decide +kernel
theorem dX11_rules_63 : decode cX11_rules 63 = .ok (.ifCond .le 19, 3) := by decide +kernel
theorem dX11_rules_66 : decode cX11_rules 66 = .ok (.aload_n 0, 1) := by decide +kernel
theorem dX11_rules_67 : decode cX11_rules 67 = .ok (.aload_n 0, 1) := by decide +kernel
theorem dX11_rules_68 : decode cX11_rules 68 = .ok (.getfield 137, 3) := by decide +kernel
theorem dX11_rules_71 : decode cX11_rules 71 = .ok (.putfield 185, 3) := by decide +kernel
theorem dX11_rules_74 : decode cX11_rules 74 = .ok (.ldc 188, 2) := by decide +kernel
theorem dX11_rules_76 : decode cX11_rules 76 = .ok (.aload_n 0, 1) := by decide +kernel
theorem dX11_rules_77 : decode cX11_rules 77 = .ok (.getfield 140, 3) := by decide +kernel
theorem dX11_rules_80 : decode cX11_rules 80 = .ok (.isub, 1) := by decide +kernel
theorem dX11_rules_81 : decode cX11_rules 81 = .ok (.ireturn, 1) := by decide +kernel
theorem dX11_rules_82 : decode cX11_rules 82 = .ok (.aload_n 0, 1) := by decide +kernel
theorem dX11_rules_83 : decode cX11_rules 83 = .ok (.aload_n 0, 1) := by decide +kernel
theorem dX11_rules_84 : decode cX11_rules 84 = .ok (.getfield 153, 3) := by decide +kernel
theorem dX11_rules_87 : decode cX11_rules 87 = .ok (.putfield 189, 3) := by decide +kernel
theorem dX11_rules_90 : decode cX11_rules 90 = .ok (.iconst 0, 1) := by decide +kernel
theorem dX11_rules_91 : decode cX11_rules 91 = .ok (.istore_n 1, 1) := by decide +kernel
theorem dX11_rules_92 : decode cX11_rules 92 = .ok (.iload_n 1, 1) := by decide +kernel
theorem dX11_rules_93 : decode cX11_rules 93 = .ok (.bipush 15, 2) := by decide +kernel
theorem dX11_rules_95 : decode cX11_rules 95 = .ok (.if_icmp .ge 69, 3) := by decide +kernel
theorem dX11_rules_98 : decode cX11_rules 98 = .ok (.aload_n 0, 1) := by decide +kernel
theorem dX11_rules_99 : decode cX11_rules 99 = .ok (.getfield 22, 3) := by decide +kernel
theorem dX11_rules_102 : decode cX11_rules 102 = .ok (.iload_n 1, 1) := by decide +kernel
theorem dX11_rules_103 : decode cX11_rules 103 = .ok (.aload_n 0, 1) := by decide +kernel
theorem dX11_rules_104 : decode cX11_rules 104 = .ok (.getfield 31, 3) := by decide +kernel
theorem dX11_rules_107 : decode cX11_rules 107 = .ok (.iload_n 1, 1) := by decide +kernel
theorem dX11_rules_108 : decode cX11_rules 108 = .ok (.iaload, 1) := by decide +kernel
theorem dX11_rules_109 : decode cX11_rules 109 = .ok (.iastore, 1) := by decide +kernel
theorem dX11_rules_110 : decode cX11_rules 110 = .ok (.aload_n 0, 1) := by decide +kernel
theorem dX11_rules_111 : decode cX11_rules 111 = .ok (.getfield 28, 3) := by decide +kernel
theorem dX11_rules_114 : decode cX11_rules 114 = .ok (.iload_n 1, 1) := by decide +kernel
theorem dX11_rules_115 : decode cX11_rules 115 = .ok (.aload_n 0, 1) := by decide +kernel
theorem dX11_rules_116 : decode cX11_rules 116 = .ok (.getfield 37, 3) := by decide +kernel
theorem dX11_rules_119 : decode cX11_rules 119 = .ok (.iload_n 1, 1) := by decide +kernel
theorem dX11_rules_120 : decode cX11_rules 120 = .ok (.iaload, 1) := by decide +kernel
theorem dX11_rules_121 : decode cX11_rules 121 = .ok (.iastore, 1) := by decide +kernel
theorem dX11_rules_122 : decode cX11_rules 122 = .ok (.iconst 0, 1) := by decide +kernel
theorem dX11_rules_123 : decode cX11_rules 123 = .ok (.istore_n 2, 1) := by decide +kernel
theorem dX11_rules_124 : decode cX11_rules 124 = .ok (.iload_n 2, 1) := by decide +kernel
theorem dX11_rules_125 : decode cX11_rules 125 = .ok (.bipush 12, 2) := by decide +kernel
theorem dX11_rules_127 : decode cX11_rules 127 = .ok (.if_icmp .ge 31, 3) := by decide +kernel
theorem dX11_rules_130 : decode cX11_rules 130 = .ok (.aload_n 0, 1) := by decide +kernel
theorem dX11_rules_131 : decode cX11_rules 131 = .ok (.getfield 25, 3) := by decide +kernel
theorem dX11_rules_134 : decode cX11_rules 134 = .ok (.bipush 12, 2) := by decide +kernel
theorem dX11_rules_136 : decode cX11_rules 136 = .ok (.iload_n 1, 1) := by decide +kernel
theorem dX11_rules_137 : decode cX11_rules 137 = .ok (.imul, 1) := by decide +kernel
theorem dX11_rules_138 : decode cX11_rules 138 = .ok (.iload_n 2, 1) := by decide +kernel
theorem dX11_rules_139 : decode cX11_rules 139 = .ok (.iadd, 1) := by decide +kernel
theorem dX11_rules_140 : decode cX11_rules 140 = .ok (.aload_n 0, 1) := by decide +kernel
theorem dX11_rules_141 : decode cX11_rules 141 = .ok (.getfield 34, 3) := by decide +kernel
theorem dX11_rules_144 : decode cX11_rules 144 = .ok (.bipush 12, 2) := by decide +kernel
theorem dX11_rules_146 : decode cX11_rules 146 = .ok (.iload_n 1, 1) := by decide +kernel
theorem dX11_rules_147 : decode cX11_rules 147 = .ok (.imul, 1) := by decide +kernel
theorem dX11_rules_148 : decode cX11_rules 148 = .ok (.iload_n 2, 1) := by decide +kernel
theorem dX11_rules_149 : decode cX11_rules 149 = .ok (.iadd, 1) := by decide +kernel
theorem dX11_rules_150 : decode cX11_rules 150 = .ok (.iaload, 1) := by decide +kernel
theorem dX11_rules_151 : decode cX11_rules 151 = .ok (.iastore, 1) := by decide +kernel
theorem dX11_rules_152 : decode cX11_rules 152 = .ok (.iinc 2 1, 3) := by decide +kernel
theorem dX11_rules_155 : decode cX11_rules 155 = .ok (.goto (-31), 3) := by decide +kernel
theorem dX11_rules_158 : decode cX11_rules 158 = .ok (.iinc 1 1, 3) := by decide +kernel
theorem dX11_rules_161 : decode cX11_rules 161 = .ok (.goto (-69), 3) := by decide +kernel
theorem dX11_rules_164 : decode cX11_rules 164 = .ok (.aload_n 0, 1) := by decide +kernel
theorem dX11_rules_165 : decode cX11_rules 165 = .ok (.getfield 189, 3) := by decide +kernel
theorem dX11_rules_168 : decode cX11_rules 168 = .ok (.ireturn, 1) := by decide +kernel
theorem dX11_fault_0 : decode cX11_fault 0 = .ok (.aload_n 0, 1) := by decide +kernel
theorem dX11_fault_1 : decode cX11_fault 1 = .ok (.iconst 0, 1) := by decide +kernel
theorem dX11_fault_2 : decode cX11_fault 2 = .ok (.putfield 52, 3) := by decide +kernel
theorem dX11_fault_5 : decode cX11_fault 5 = .ok (.aload_n 0, 1) := by decide +kernel
theorem dX11_fault_6 : decode cX11_fault 6 = .ok (.getfield 185, 3) := by decide +kernel
theorem dX11_fault_9 : decode cX11_fault 9 = .ok (.ireturn, 1) := by decide +kernel
theorem dX11_isTrue_0 : decode cX11_isTrue 0 = .ok (.iconst 1, 1) := by decide +kernel
theorem dX11_isTrue_1 : decode cX11_isTrue 1 = .ok (.istore_n 2, 1) := by decide +kernel
theorem dX11_isTrue_2 : decode cX11_isTrue 2 = .ok (.iconst 0, 1) := by decide +kernel
theorem dX11_isTrue_3 : decode cX11_isTrue 3 = .ok (.istore_n 3, 1) := by decide +kernel
theorem dX11_isTrue_4 : decode cX11_isTrue 4 = .ok (.iload_n 3, 1) := by decide +kernel
theorem dX11_isTrue_5 : decode cX11_isTrue 5 = .ok (.aload_n 0, 1) := by decide +kernel
theorem dX11_isTrue_6 : decode cX11_isTrue 6 = .ok (.getfield 22, 3) := by decide +kernel
theorem dX11_isTrue_9 : decode cX11_isTrue 9 = .ok (.iload_n 1, 1) := by decide +kernel
theorem dX11_isTrue_10 : decode cX11_isTrue 10 = .ok (.iaload, 1) := by decide +kernel
theorem dX11_isTrue_11 : decode cX11_isTrue 11 = .ok (.if_icmp .ge 219, 3) := by decide +kernel
theorem dX11_isTrue_14 : decode cX11_isTrue 14 = .ok (.bipush 12, 2) := by decide +kernel
theorem dX11_isTrue_16 : decode cX11_isTrue 16 = .ok (.iload_n 1, 1) := by decide +kernel
theorem dX11_isTrue_17 : decode cX11_isTrue 17 = .ok (.imul, 1) := by decide +kernel
theorem dX11_isTrue_18 : decode cX11_isTrue 18 = .ok (.iconst 3, 1) := by decide +kernel
theorem dX11_isTrue_19 : decode cX11_isTrue 19 = .ok (.iload_n 3, 1) := by decide +kernel
theorem dX11_isTrue_20 : decode cX11_isTrue 20 = .ok (.imul, 1) := by decide +kernel
theorem dX11_isTrue_21 : decode cX11_isTrue 21 = .ok (.iadd, 1) := by decide +kernel
theorem dX11_isTrue_22 : decode cX11_isTrue 22 = .ok (.istore 4, 2) := by decide +kernel
theorem dX11_isTrue_24 : decode cX11_isTrue 24 = .ok (.aload_n 0, 1) := by decide +kernel
theorem dX11_isTrue_25 : decode cX11_isTrue 25 = .ok (.getfield 25, 3) := by decide +kernel
theorem dX11_isTrue_28 : decode cX11_isTrue 28 = .ok (.iload 4, 2) := by decide +kernel
theorem dX11_isTrue_30 : decode cX11_isTrue 30 = .ok (.iconst 1, 1) := by decide +kernel
theorem dX11_isTrue_31 : decode cX11_isTrue 31 = .ok (.iadd, 1) := by decide +kernel
theorem dX11_isTrue_32 : decode cX11_isTrue 32 = .ok (.iaload, 1) := by decide +kernel
theorem dX11_isTrue_33 : decode cX11_isTrue 33 = .ok (.istore 5, 2) := by decide +kernel
theorem dX11_isTrue_35 : decode cX11_isTrue 35 = .ok (.aload_n 0, 1) := by decide +kernel
theorem dX11_isTrue_36 : decode cX11_isTrue 36 = .ok (.getfield 25, 3) := by decide +kernel
theorem dX11_isTrue_39 : decode cX11_isTrue 39 = .ok (.iload 4, 2) := by decide +kernel
theorem dX11_isTrue_41 : decode cX11_isTrue 41 = .ok (.iconst 2, 1) := by decide +kernel
theorem dX11_isTrue_42 : decode cX11_isTrue 42 = .ok (.iadd, 1) := by decide +kernel
theorem dX11_isTrue_43 : decode cX11_isTrue 43 = .ok (.iaload, 1) := by decide +kernel
theorem dX11_isTrue_44 : decode cX11_isTrue 44 = .ok (.istore 6, 2) := by decide +kernel
theorem dX11_isTrue_46 : decode cX11_isTrue 46 = .ok (.aload_n 0, 1) := by decide +kernel
theorem dX11_isTrue_47 : decode cX11_isTrue 47 = .ok (.getfield 25, 3) := by decide +kernel
theorem dX11_isTrue_50 : decode cX11_isTrue 50 = .ok (.iload 4, 2) := by decide +kernel
theorem dX11_isTrue_52 : decode cX11_isTrue 52 = .ok (.iaload, 1) := by decide +kernel
theorem dX11_isTrue_53 : decode cX11_isTrue 53 = .ok (.iconst 1, 1) := by decide +kernel
theorem dX11_isTrue_54 : decode cX11_isTrue 54 = .ok (.if_icmp .ne 28, 3) := by decide +kernel
theorem dX11_isTrue_57 : decode cX11_isTrue 57 = .ok (.iload_n 2, 1) := by decide +kernel
theorem dX11_isTrue_58 : decode cX11_isTrue 58 = .ok (.ifCond .eq 19, 3) := by decide +kernel
theorem dX11_isTrue_61 : decode cX11_isTrue 61 = .ok (.aload_n 0, 1) := by decide +kernel
theorem dX11_isTrue_62 : decode cX11_isTrue 62 = .ok (.getfield 19, 3) := by decide +kernel
theorem dX11_isTrue_65 : decode cX11_isTrue 65 = .ok (.iload 6, 2) := by decide +kernel
theorem dX11_isTrue_67 : decode cX11_isTrue 67 = .ok (.iaload, 1) := by decide +kernel
theorem dX11_isTrue_68 : decode cX11_isTrue 68 = .ok (.iload 5, 2) := by decide +kernel
theorem dX11_isTrue_70 : decode cX11_isTrue 70 = .ok (.if_icmp .ne 7, 3) := by decide +kernel
theorem dX11_isTrue_73 : decode cX11_isTrue 73 = .ok (.iconst 1, 1) := by decide +kernel
theorem dX11_isTrue_74 : decode cX11_isTrue 74 = .ok (.goto 4, 3) := by decide +kernel
theorem dX11_isTrue_77 : decode cX11_isTrue 77 = .ok (.iconst 0, 1) := by decide +kernel
theorem dX11_isTrue_78 : decode cX11_isTrue 78 = .ok (.istore_n 2, 1) := by decide +kernel
theorem dX11_isTrue_79 : decode cX11_isTrue 79 = .ok (.goto 145, 3) := by decide +kernel
theorem dX11_isTrue_82 : decode cX11_isTrue 82 = .ok (.aload_n 0, 1) := by decide +kernel
theorem dX11_isTrue_83 : decode cX11_isTrue 83 = .ok (.getfield 25, 3) := by decide +kernel
theorem dX11_isTrue_86 : decode cX11_isTrue 86 = .ok (.iload 4, 2) := by decide +kernel
theorem dX11_isTrue_88 : decode cX11_isTrue 88 = .ok (.iaload, 1) := by decide +kernel
theorem dX11_isTrue_89 : decode cX11_isTrue 89 = .ok (.iconst 2, 1) := by decide +kernel
theorem dX11_isTrue_90 : decode cX11_isTrue 90 = .ok (.if_icmp .ne 33, 3) := by decide +kernel
theorem dX11_isTrue_93 : decode cX11_isTrue 93 = .ok (.iload_n 2, 1) := by decide +kernel
theorem dX11_isTrue_94 : decode cX11_isTrue 94 = .ok (.ifCond .eq 24, 3) := by decide +kernel
theorem dX11_isTrue_97 : decode cX11_isTrue 97 = .ok (.aload_n 0, 1) := by decide +kernel
theorem dX11_isTrue_98 : decode cX11_isTrue 98 = .ok (.getfield 19, 3) := by decide +kernel
theorem dX11_isTrue_101 : decode cX11_isTrue 101 = .ok (.iload 5, 2) := by decide +kernel
theorem dX11_isTrue_103 : decode cX11_isTrue 103 = .ok (.iaload, 1) := by decide +kernel
theorem dX11_isTrue_104 : decode cX11_isTrue 104 = .ok (.aload_n 0, 1) := by decide +kernel
theorem dX11_isTrue_105 : decode cX11_isTrue 105 = .ok (.getfield 19, 3) := by decide +kernel
theorem dX11_isTrue_108 : decode cX11_isTrue 108 = .ok (.iload 6, 2) := by decide +kernel
theorem dX11_isTrue_110 : decode cX11_isTrue 110 = .ok (.iaload, 1) := by decide +kernel
theorem dX11_isTrue_111 : decode cX11_isTrue 111 = .ok (.if_icmp .ne 7, 3) := by decide +kernel
theorem dX11_isTrue_114 : decode cX11_isTrue 114 = .ok (.iconst 1, 1) := by decide +kernel
theorem dX11_isTrue_115 : decode cX11_isTrue 115 = .ok (.goto 4, 3) := by decide +kernel
theorem dX11_isTrue_118 : decode cX11_isTrue 118 = .ok (.iconst 0, 1) := by decide +kernel
theorem dX11_isTrue_119 : decode cX11_isTrue 119 = .ok (.istore_n 2, 1) := by decide +kernel
theorem dX11_isTrue_120 : decode cX11_isTrue 120 = .ok (.goto 104, 3) := by decide +kernel
theorem dX11_isTrue_123 : decode cX11_isTrue 123 = .ok (.aload_n 0, 1) := by decide +kernel
theorem dX11_isTrue_124 : decode cX11_isTrue 124 = .ok (.getfield 25, 3) := by decide +kernel
theorem dX11_isTrue_127 : decode cX11_isTrue 127 = .ok (.iload 4, 2) := by decide +kernel
theorem dX11_isTrue_129 : decode cX11_isTrue 129 = .ok (.iaload, 1) := by decide +kernel
theorem dX11_isTrue_130 : decode cX11_isTrue 130 = .ok (.iconst 4, 1) := by decide +kernel
theorem dX11_isTrue_131 : decode cX11_isTrue 131 = .ok (.if_icmp .ne 31, 3) := by decide +kernel
theorem dX11_isTrue_134 : decode cX11_isTrue 134 = .ok (.iload_n 2, 1) := by decide +kernel
theorem dX11_isTrue_135 : decode cX11_isTrue 135 = .ok (.ifCond .eq 22, 3) := by decide +kernel
theorem dX11_isTrue_138 : decode cX11_isTrue 138 = .ok (.aload_n 0, 1) := by decide +kernel
theorem dX11_isTrue_139 : decode cX11_isTrue 139 = .ok (.getfield 19, 3) := by decide +kernel
theorem dX11_isTrue_142 : decode cX11_isTrue 142 = .ok (.iload 5, 2) := by decide +kernel
theorem dX11_isTrue_144 : decode cX11_isTrue 144 = .ok (.iaload, 1) := by decide +kernel
theorem dX11_isTrue_145 : decode cX11_isTrue 145 = .ok (.invokestatic 102, 3) := by decide +kernel
theorem dX11_isTrue_148 : decode cX11_isTrue 148 = .ok (.iconst 2, 1) := by decide +kernel
theorem dX11_isTrue_149 : decode cX11_isTrue 149 = .ok (.irem, 1) := by decide +kernel
theorem dX11_isTrue_150 : decode cX11_isTrue 150 = .ok (.ifCond .ne 7, 3) := by decide +kernel
theorem dX11_isTrue_153 : decode cX11_isTrue 153 = .ok (.iconst 1, 1) := by decide +kernel
theorem dX11_isTrue_154 : decode cX11_isTrue 154 = .ok (.goto 4, 3) := by decide +kernel
theorem dX11_isTrue_157 : decode cX11_isTrue 157 = .ok (.iconst 0, 1) := by decide +kernel
theorem dX11_isTrue_158 : decode cX11_isTrue 158 = .ok (.istore_n 2, 1) := by decide +kernel
theorem dX11_isTrue_159 : decode cX11_isTrue 159 = .ok (.goto 65, 3) := by decide +kernel
theorem dX11_isTrue_162 : decode cX11_isTrue 162 = .ok (.iconst 0, 1) := by decide +kernel
theorem dX11_isTrue_163 : decode cX11_isTrue 163 = .ok (.istore 7, 2) := by decide +kernel
theorem dX11_isTrue_165 : decode cX11_isTrue 165 = .ok (.iconst 1, 1) := by decide +kernel
theorem dX11_isTrue_166 : decode cX11_isTrue 166 = .ok (.istore 8, 2) := by decide +kernel
theorem dX11_isTrue_168 : decode cX11_isTrue 168 = .ok (.iload 8, 2) := by decide +kernel
theorem dX11_isTrue_170 : decode cX11_isTrue 170 = .ok (.bipush 12, 2) := by decide +kernel
theorem dX11_isTrue_172 : decode cX11_isTrue 172 = .ok (.if_icmp .ge 35, 3) := by decide +kernel
theorem dX11_isTrue_175 : decode cX11_isTrue 175 = .ok (.iload 7, 2) := by decide +kernel
theorem dX11_isTrue_177 : decode cX11_isTrue 177 = .ok (.aload_n 0, 1) := by decide +kernel
theorem dX11_isTrue_178 : decode cX11_isTrue 178 = .ok (.getfield 19, 3) := by decide +kernel
theorem dX11_isTrue_181 : decode cX11_isTrue 181 = .ok (.iload 8, 2) := by decide +kernel
theorem dX11_isTrue_183 : decode cX11_isTrue 183 = .ok (.iaload, 1) := by decide +kernel
theorem dX11_isTrue_184 : decode cX11_isTrue 184 = .ok (.aload_n 0, 1) := by decide +kernel
theorem dX11_isTrue_185 : decode cX11_isTrue 185 = .ok (.getfield 19, 3) := by decide +kernel
theorem dX11_isTrue_188 : decode cX11_isTrue 188 = .ok (.iconst 0, 1) := by decide +kernel
theorem dX11_isTrue_189 : decode cX11_isTrue 189 = .ok (.iaload, 1) := by decide +kernel
theorem dX11_isTrue_190 : decode cX11_isTrue 190 = .ok (.if_icmp .ne 7, 3) := by decide +kernel
theorem dX11_isTrue_193 : decode cX11_isTrue 193 = .ok (.iconst 1, 1) := by decide +kernel
theorem dX11_isTrue_194 : decode cX11_isTrue 194 = .ok (.goto 4, 3) := by decide +kernel
theorem dX11_isTrue_197 : decode cX11_isTrue 197 = .ok (.iconst 0, 1) := by decide +kernel
theorem dX11_isTrue_198 : decode cX11_isTrue 198 = .ok (.iadd, 1) := by decide +kernel
theorem dX11_isTrue_199 : decode cX11_isTrue 199 = .ok (.istore 7, 2) := by decide +kernel
theorem dX11_isTrue_201 : decode cX11_isTrue 201 = .ok (.iinc 8 1, 3) := by decide +kernel
theorem dX11_isTrue_204 : decode cX11_isTrue 204 = .ok (.goto (-36), 3) := by decide +kernel
theorem dX11_isTrue_207 : decode cX11_isTrue 207 = .ok (.iload_n 2, 1) := by decide +kernel
theorem dX11_isTrue_208 : decode cX11_isTrue 208 = .ok (.ifCond .eq 14, 3) := by decide +kernel
theorem dX11_isTrue_211 : decode cX11_isTrue 211 = .ok (.iload 7, 2) := by decide +kernel
theorem dX11_isTrue_213 : decode cX11_isTrue 213 = .ok (.iload 5, 2) := by decide +kernel
theorem dX11_isTrue_215 : decode cX11_isTrue 215 = .ok (.if_icmp .lt 7, 3) := by decide +kernel
theorem dX11_isTrue_218 : decode cX11_isTrue 218 = .ok (.iconst 1, 1) := by decide +kernel
theorem dX11_isTrue_219 : decode cX11_isTrue 219 = .ok (.goto 4, 3) := by decide +kernel
theorem dX11_isTrue_222 : decode cX11_isTrue 222 = .ok (.iconst 0, 1) := by decide +kernel
theorem dX11_isTrue_223 : decode cX11_isTrue 223 = .ok (.istore_n 2, 1) := by decide +kernel
theorem dX11_isTrue_224 : decode cX11_isTrue 224 = .ok (.iinc 3 1, 3) := by decide +kernel
theorem dX11_isTrue_227 : decode cX11_isTrue 227 = .ok (.goto (-223), 3) := by decide +kernel
theorem dX11_isTrue_230 : decode cX11_isTrue 230 = .ok (.iload_n 2, 1) := by decide +kernel
theorem dX11_isTrue_231 : decode cX11_isTrue 231 = .ok (.ireturn, 1) := by decide +kernel
theorem dX11_isRule_0 : decode cX11_isRule 0 = .ok (.iload_n 1, 1) := by decide +kernel
theorem dX11_isRule_1 : decode cX11_isRule 1 = .ok (.i2l, 1) := by decide +kernel
theorem dX11_isRule_2 : decode cX11_isRule 2 = .ok (.lconst 0, 1) := by decide +kernel
theorem dX11_isRule_3 : decode cX11_isRule 3 = .ok (.aload_n 0, 1) := by decide +kernel
theorem dX11_isRule_4 : decode cX11_isRule 4 = .ok (.getfield 189, 3) := by decide +kernel
theorem dX11_isRule_7 : decode cX11_isRule 7 = .ok (.iconst 1, 1) := by decide +kernel
theorem dX11_isRule_8 : decode cX11_isRule 8 = .ok (.isub, 1) := by decide +kernel
theorem dX11_isRule_9 : decode cX11_isRule 9 = .ok (.i2l, 1) := by decide +kernel
theorem dX11_isRule_10 : decode cX11_isRule 10 = .ok (.invokestatic 62, 3) := by decide +kernel
theorem dX11_isRule_13 : decode cX11_isRule 13 = .ok (.ireturn, 1) := by decide +kernel
theorem dX11_said_0 : decode cX11_said 0 = .ok (.aload_n 0, 1) := by decide +kernel
theorem dX11_said_1 : decode cX11_said 1 = .ok (.iconst 0, 1) := by decide +kernel
theorem dX11_said_2 : decode cX11_said 2 = .ok (.putfield 52, 3) := by decide +kernel
theorem dX11_said_5 : decode cX11_said 5 = .ok (.iload_n 1, 1) := by decide +kernel
theorem dX11_said_6 : decode cX11_said 6 = .ok (.i2l, 1) := by decide +kernel
theorem dX11_said_7 : decode cX11_said 7 = .ok (.lconst 0, 1) := by decide +kernel
theorem dX11_said_8 : decode cX11_said 8 = .ok (.lconst 1, 1) := by decide +kernel
theorem dX11_said_9 : decode cX11_said 9 = .ok (.invokestatic 62, 3) := by decide +kernel
theorem dX11_said_12 : decode cX11_said 12 = .ok (.ifCond .ne 6, 3) := by decide +kernel
theorem dX11_said_15 : decode cX11_said 15 = .ok (.ldc 72, 2) := by decide +kernel
theorem dX11_said_17 : decode cX11_said 17 = .ok (.ireturn, 1) := by decide +kernel
theorem dX11_said_18 : decode cX11_said 18 = .ok (.aload_n 0, 1) := by decide +kernel
theorem dX11_said_19 : decode cX11_said 19 = .ok (.aload_n 0, 1) := by decide +kernel
theorem dX11_said_20 : decode cX11_said 20 = .ok (.getfield 81, 3) := by decide +kernel
theorem dX11_said_23 : decode cX11_said 23 = .ok (.invokevirtual 86, 3) := by decide +kernel
theorem dX11_said_26 : decode cX11_said 26 = .ok (.iconst 0, 1) := by decide +kernel
theorem dX11_said_27 : decode cX11_said 27 = .ok (.istore_n 2, 1) := by decide +kernel
theorem dX11_said_28 : decode cX11_said 28 = .ok (.iload_n 2, 1) := by decide +kernel
theorem dX11_said_29 : decode cX11_said 29 = .ok (.aload_n 0, 1) := by decide +kernel
theorem dX11_said_30 : decode cX11_said 30 = .ok (.getfield 189, 3) := by decide +kernel
theorem dX11_said_33 : decode cX11_said 33 = .ok (.if_icmp .ge 32, 3) := by decide +kernel
theorem dX11_said_36 : decode cX11_said 36 = .ok (.aload_n 0, 1) := by decide +kernel
theorem dX11_said_37 : decode cX11_said 37 = .ok (.iload_n 2, 1) := by decide +kernel
theorem dX11_said_38 : decode cX11_said 38 = .ok (.invokevirtual 192, 3) := by decide +kernel
theorem dX11_said_41 : decode cX11_said 41 = .ok (.ifCond .eq 18, 3) := by decide +kernel
theorem dX11_said_44 : decode cX11_said 44 = .ok (.iload_n 1, 1) := by decide +kernel
theorem dX11_said_45 : decode cX11_said 45 = .ok (.ifCond .ne 12, 3) := by decide +kernel
theorem dX11_said_48 : decode cX11_said 48 = .ok (.aload_n 0, 1) := by decide +kernel
theorem dX11_said_49 : decode cX11_said 49 = .ok (.getfield 28, 3) := by decide +kernel
theorem dX11_said_52 : decode cX11_said 52 = .ok (.iload_n 2, 1) := by decide +kernel
theorem dX11_said_53 : decode cX11_said 53 = .ok (.iaload, 1) := by decide +kernel
theorem dX11_said_54 : decode cX11_said 54 = .ok (.goto 4, 3) := by decide +kernel
theorem dX11_said_57 : decode cX11_said 57 = .ok (.iload_n 2, 1) := by decide +kernel
theorem dX11_said_58 : decode cX11_said 58 = .ok (.ireturn, 1) := by decide +kernel
theorem dX11_said_59 : decode cX11_said 59 = .ok (.iinc 2 1, 3) := by decide +kernel
theorem dX11_said_62 : decode cX11_said 62 = .ok (.goto (-34), 3) := by decide +kernel
theorem dX11_said_65 : decode cX11_said 65 = .ok (.ldc 100, 2) := by decide +kernel
theorem dX11_said_67 : decode cX11_said 67 = .ok (.ireturn, 1) := by decide +kernel
theorem dX11_holds_0 : decode cX11_holds 0 = .ok (.aload_n 0, 1) := by decide +kernel
theorem dX11_holds_1 : decode cX11_holds 1 = .ok (.iconst 0, 1) := by decide +kernel
theorem dX11_holds_2 : decode cX11_holds 2 = .ok (.putfield 52, 3) := by decide +kernel
theorem dX11_holds_5 : decode cX11_holds 5 = .ok (.aload_n 0, 1) := by decide +kernel
theorem dX11_holds_6 : decode cX11_holds 6 = .ok (.iload_n 1, 1) := by decide +kernel
theorem dX11_holds_7 : decode cX11_holds 7 = .ok (.invokevirtual 195, 3) := by decide +kernel
theorem dX11_holds_10 : decode cX11_holds 10 = .ok (.ifCond .ne 6, 3) := by decide +kernel
theorem dX11_holds_13 : decode cX11_holds 13 = .ok (.ldc 72, 2) := by decide +kernel
theorem dX11_holds_15 : decode cX11_holds 15 = .ok (.ireturn, 1) := by decide +kernel
theorem dX11_holds_16 : decode cX11_holds 16 = .ok (.aload_n 0, 1) := by decide +kernel
theorem dX11_holds_17 : decode cX11_holds 17 = .ok (.aload_n 0, 1) := by decide +kernel
theorem dX11_holds_18 : decode cX11_holds 18 = .ok (.getfield 81, 3) := by decide +kernel
theorem dX11_holds_21 : decode cX11_holds 21 = .ok (.invokevirtual 86, 3) := by decide +kernel
theorem dX11_holds_24 : decode cX11_holds 24 = .ok (.aload_n 0, 1) := by decide +kernel
theorem dX11_holds_25 : decode cX11_holds 25 = .ok (.iload_n 1, 1) := by decide +kernel
theorem dX11_holds_26 : decode cX11_holds 26 = .ok (.invokevirtual 192, 3) := by decide +kernel
theorem dX11_holds_29 : decode cX11_holds 29 = .ok (.ifCond .eq 7, 3) := by decide +kernel
theorem dX11_holds_32 : decode cX11_holds 32 = .ok (.iconst 1, 1) := by decide +kernel
theorem dX11_holds_33 : decode cX11_holds 33 = .ok (.goto 4, 3) := by decide +kernel
theorem dX11_holds_36 : decode cX11_holds 36 = .ok (.iconst 0, 1) := by decide +kernel
theorem dX11_holds_37 : decode cX11_holds 37 = .ok (.ireturn, 1) := by decide +kernel
theorem dX11_record_0 : decode cX11_record 0 = .ok (.aload_n 0, 1) := by decide +kernel
theorem dX11_record_1 : decode cX11_record 1 = .ok (.iconst 0, 1) := by decide +kernel
theorem dX11_record_2 : decode cX11_record 2 = .ok (.putfield 52, 3) := by decide +kernel
theorem dX11_record_5 : decode cX11_record 5 = .ok (.iload_n 1, 1) := by decide +kernel
theorem dX11_record_6 : decode cX11_record 6 = .ok (.i2l, 1) := by decide +kernel
theorem dX11_record_7 : decode cX11_record 7 = .ok (.lconst 0, 1) := by decide +kernel
theorem dX11_record_8 : decode cX11_record 8 = .ok (.ldc2_w 70, 3) := by decide +kernel
theorem dX11_record_11 : decode cX11_record 11 = .ok (.invokestatic 62, 3) := by decide +kernel
theorem dX11_record_14 : decode cX11_record 14 = .ok (.ifCond .ne 6, 3) := by decide +kernel
theorem dX11_record_17 : decode cX11_record 17 = .ok (.ldc 72, 2) := by decide +kernel
theorem dX11_record_19 : decode cX11_record 19 = .ok (.ireturn, 1) := by decide +kernel
theorem dX11_record_20 : decode cX11_record 20 = .ok (.aload_n 0, 1) := by decide +kernel
theorem dX11_record_21 : decode cX11_record 21 = .ok (.getfield 198, 3) := by decide +kernel
theorem dX11_record_24 : decode cX11_record 24 = .ok (.bipush 100, 2) := by decide +kernel
theorem dX11_record_26 : decode cX11_record 26 = .ok (.if_icmp .ne 6, 3) := by decide +kernel
theorem dX11_record_29 : decode cX11_record 29 = .ok (.ldc 110, 2) := by decide +kernel
theorem dX11_record_31 : decode cX11_record 31 = .ok (.ireturn, 1) := by decide +kernel
theorem dX11_record_32 : decode cX11_record 32 = .ok (.aload_n 0, 1) := by decide +kernel
theorem dX11_record_33 : decode cX11_record 33 = .ok (.getfield 43, 3) := by decide +kernel
theorem dX11_record_36 : decode cX11_record 36 = .ok (.aload_n 0, 1) := by decide +kernel
theorem dX11_record_37 : decode cX11_record 37 = .ok (.getfield 198, 3) := by decide +kernel
theorem dX11_record_40 : decode cX11_record 40 = .ok (.aload_n 0, 1) := by decide +kernel
theorem dX11_record_41 : decode cX11_record 41 = .ok (.getfield 81, 3) := by decide +kernel
theorem dX11_record_44 : decode cX11_record 44 = .ok (.iastore, 1) := by decide +kernel
theorem dX11_record_45 : decode cX11_record 45 = .ok (.aload_n 0, 1) := by decide +kernel
theorem dX11_record_46 : decode cX11_record 46 = .ok (.getfield 46, 3) := by decide +kernel
theorem dX11_record_49 : decode cX11_record 49 = .ok (.aload_n 0, 1) := by decide +kernel
theorem dX11_record_50 : decode cX11_record 50 = .ok (.getfield 198, 3) := by decide +kernel
theorem dX11_record_53 : decode cX11_record 53 = .ok (.iload_n 1, 1) := by decide +kernel
theorem dX11_record_54 : decode cX11_record 54 = .ok (.iastore, 1) := by decide +kernel
theorem dX11_record_55 : decode cX11_record 55 = .ok (.aload_n 0, 1) := by decide +kernel
theorem dX11_record_56 : decode cX11_record 56 = .ok (.dup, 1) := by decide +kernel
theorem dX11_record_57 : decode cX11_record 57 = .ok (.getfield 198, 3) := by decide +kernel
theorem dX11_record_60 : decode cX11_record 60 = .ok (.iconst 1, 1) := by decide +kernel
theorem dX11_record_61 : decode cX11_record 61 = .ok (.iadd, 1) := by decide +kernel
theorem dX11_record_62 : decode cX11_record 62 = .ok (.putfield 198, 3) := by decide +kernel
theorem dX11_record_65 : decode cX11_record 65 = .ok (.aload_n 0, 1) := by decide +kernel
theorem dX11_record_66 : decode cX11_record 66 = .ok (.getfield 198, 3) := by decide +kernel
theorem dX11_record_69 : decode cX11_record 69 = .ok (.ireturn, 1) := by decide +kernel
theorem dX11_cameSo_0 : decode cX11_cameSo 0 = .ok (.iconst 0, 1) := by decide +kernel
theorem dX11_cameSo_1 : decode cX11_cameSo 1 = .ok (.istore_n 2, 1) := by decide +kernel
theorem dX11_cameSo_2 : decode cX11_cameSo 2 = .ok (.iconst 0, 1) := by decide +kernel
theorem dX11_cameSo_3 : decode cX11_cameSo 3 = .ok (.istore_n 3, 1) := by decide +kernel
theorem dX11_cameSo_4 : decode cX11_cameSo 4 = .ok (.iload_n 3, 1) := by decide +kernel
theorem dX11_cameSo_5 : decode cX11_cameSo 5 = .ok (.aload_n 0, 1) := by decide +kernel
theorem dX11_cameSo_6 : decode cX11_cameSo 6 = .ok (.getfield 198, 3) := by decide +kernel
theorem dX11_cameSo_9 : decode cX11_cameSo 9 = .ok (.if_icmp .ge 27, 3) := by decide +kernel
theorem dX11_cameSo_12 : decode cX11_cameSo 12 = .ok (.iload_n 2, 1) := by decide +kernel
theorem dX11_cameSo_13 : decode cX11_cameSo 13 = .ok (.aload_n 0, 1) := by decide +kernel
theorem dX11_cameSo_14 : decode cX11_cameSo 14 = .ok (.getfield 46, 3) := by decide +kernel
theorem dX11_cameSo_17 : decode cX11_cameSo 17 = .ok (.iload_n 3, 1) := by decide +kernel
theorem dX11_cameSo_18 : decode cX11_cameSo 18 = .ok (.iaload, 1) := by decide +kernel
theorem dX11_cameSo_19 : decode cX11_cameSo 19 = .ok (.iload_n 1, 1) := by decide +kernel
theorem dX11_cameSo_20 : decode cX11_cameSo 20 = .ok (.if_icmp .ne 7, 3) := by decide +kernel
theorem dX11_cameSo_23 : decode cX11_cameSo 23 = .ok (.iconst 1, 1) := by decide +kernel
theorem dX11_cameSo_24 : decode cX11_cameSo 24 = .ok (.goto 4, 3) := by decide +kernel
theorem dX11_cameSo_27 : decode cX11_cameSo 27 = .ok (.iconst 0, 1) := by decide +kernel
theorem dX11_cameSo_28 : decode cX11_cameSo 28 = .ok (.iadd, 1) := by decide +kernel
theorem dX11_cameSo_29 : decode cX11_cameSo 29 = .ok (.istore_n 2, 1) := by decide +kernel
theorem dX11_cameSo_30 : decode cX11_cameSo 30 = .ok (.iinc 3 1, 3) := by decide +kernel
theorem dX11_cameSo_33 : decode cX11_cameSo 33 = .ok (.goto (-29), 3) := by decide +kernel
theorem dX11_cameSo_36 : decode cX11_cameSo 36 = .ok (.iload_n 2, 1) := by decide +kernel
theorem dX11_cameSo_37 : decode cX11_cameSo 37 = .ok (.ireturn, 1) := by decide +kernel
theorem dX11_holdsIn_0 : decode cX11_holdsIn 0 = .ok (.iconst 0, 1) := by decide +kernel
theorem dX11_holdsIn_1 : decode cX11_holdsIn 1 = .ok (.istore_n 3, 1) := by decide +kernel
theorem dX11_holdsIn_2 : decode cX11_holdsIn 2 = .ok (.iconst 0, 1) := by decide +kernel
theorem dX11_holdsIn_3 : decode cX11_holdsIn 3 = .ok (.istore 4, 2) := by decide +kernel
theorem dX11_holdsIn_5 : decode cX11_holdsIn 5 = .ok (.iload 4, 2) := by decide +kernel
theorem dX11_holdsIn_7 : decode cX11_holdsIn 7 = .ok (.aload_n 0, 1) := by decide +kernel
theorem dX11_holdsIn_8 : decode cX11_holdsIn 8 = .ok (.getfield 198, 3) := by decide +kernel
theorem dX11_holdsIn_11 : decode cX11_holdsIn 11 = .ok (.if_icmp .ge 47, 3) := by decide +kernel
theorem dX11_holdsIn_14 : decode cX11_holdsIn 14 = .ok (.aload_n 0, 1) := by decide +kernel
theorem dX11_holdsIn_15 : decode cX11_holdsIn 15 = .ok (.aload_n 0, 1) := by decide +kernel
theorem dX11_holdsIn_16 : decode cX11_holdsIn 16 = .ok (.getfield 43, 3) := by decide +kernel
theorem dX11_holdsIn_19 : decode cX11_holdsIn 19 = .ok (.iload 4, 2) := by decide +kernel
theorem dX11_holdsIn_21 : decode cX11_holdsIn 21 = .ok (.iaload, 1) := by decide +kernel
theorem dX11_holdsIn_22 : decode cX11_holdsIn 22 = .ok (.invokevirtual 86, 3) := by decide +kernel
theorem dX11_holdsIn_25 : decode cX11_holdsIn 25 = .ok (.iload_n 3, 1) := by decide +kernel
theorem dX11_holdsIn_26 : decode cX11_holdsIn 26 = .ok (.aload_n 0, 1) := by decide +kernel
theorem dX11_holdsIn_27 : decode cX11_holdsIn 27 = .ok (.getfield 46, 3) := by decide +kernel
theorem dX11_holdsIn_30 : decode cX11_holdsIn 30 = .ok (.iload 4, 2) := by decide +kernel
theorem dX11_holdsIn_32 : decode cX11_holdsIn 32 = .ok (.iaload, 1) := by decide +kernel
theorem dX11_holdsIn_33 : decode cX11_holdsIn 33 = .ok (.iload_n 2, 1) := by decide +kernel
theorem dX11_holdsIn_34 : decode cX11_holdsIn 34 = .ok (.if_icmp .ne 15, 3) := by decide +kernel
theorem dX11_holdsIn_37 : decode cX11_holdsIn 37 = .ok (.aload_n 0, 1) := by decide +kernel
theorem dX11_holdsIn_38 : decode cX11_holdsIn 38 = .ok (.iload_n 1, 1) := by decide +kernel
theorem dX11_holdsIn_39 : decode cX11_holdsIn 39 = .ok (.invokevirtual 192, 3) := by decide +kernel
theorem dX11_holdsIn_42 : decode cX11_holdsIn 42 = .ok (.ifCond .eq 7, 3) := by decide +kernel
theorem dX11_holdsIn_45 : decode cX11_holdsIn 45 = .ok (.iconst 1, 1) := by decide +kernel
theorem dX11_holdsIn_46 : decode cX11_holdsIn 46 = .ok (.goto 4, 3) := by decide +kernel
theorem dX11_holdsIn_49 : decode cX11_holdsIn 49 = .ok (.iconst 0, 1) := by decide +kernel
theorem dX11_holdsIn_50 : decode cX11_holdsIn 50 = .ok (.iadd, 1) := by decide +kernel
theorem dX11_holdsIn_51 : decode cX11_holdsIn 51 = .ok (.istore_n 3, 1) := by decide +kernel
theorem dX11_holdsIn_52 : decode cX11_holdsIn 52 = .ok (.iinc 4 1, 3) := by decide +kernel
theorem dX11_holdsIn_55 : decode cX11_holdsIn 55 = .ok (.goto (-50), 3) := by decide +kernel
theorem dX11_holdsIn_58 : decode cX11_holdsIn 58 = .ok (.iload_n 3, 1) := by decide +kernel
theorem dX11_holdsIn_59 : decode cX11_holdsIn 59 = .ok (.ireturn, 1) := by decide +kernel
theorem dX11_worthOf_0 : decode cX11_worthOf 0 = .ok (.aload_n 0, 1) := by decide +kernel
theorem dX11_worthOf_1 : decode cX11_worthOf 1 = .ok (.iload_n 1, 1) := by decide +kernel
theorem dX11_worthOf_2 : decode cX11_worthOf 2 = .ok (.iconst 1, 1) := by decide +kernel
theorem dX11_worthOf_3 : decode cX11_worthOf 3 = .ok (.invokevirtual 201, 3) := by decide +kernel
theorem dX11_worthOf_6 : decode cX11_worthOf 6 = .ok (.istore_n 2, 1) := by decide +kernel
theorem dX11_worthOf_7 : decode cX11_worthOf 7 = .ok (.aload_n 0, 1) := by decide +kernel
theorem dX11_worthOf_8 : decode cX11_worthOf 8 = .ok (.iload_n 1, 1) := by decide +kernel
theorem dX11_worthOf_9 : decode cX11_worthOf 9 = .ok (.iconst 0, 1) := by decide +kernel
theorem dX11_worthOf_10 : decode cX11_worthOf 10 = .ok (.invokevirtual 201, 3) := by decide +kernel
theorem dX11_worthOf_13 : decode cX11_worthOf 13 = .ok (.istore_n 3, 1) := by decide +kernel
theorem dX11_worthOf_14 : decode cX11_worthOf 14 = .ok (.iload_n 2, 1) := by decide +kernel
theorem dX11_worthOf_15 : decode cX11_worthOf 15 = .ok (.aload_n 0, 1) := by decide +kernel
theorem dX11_worthOf_16 : decode cX11_worthOf 16 = .ok (.iconst 0, 1) := by decide +kernel
theorem dX11_worthOf_17 : decode cX11_worthOf 17 = .ok (.invokevirtual 204, 3) := by decide +kernel
theorem dX11_worthOf_20 : decode cX11_worthOf 20 = .ok (.aload_n 0, 1) := by decide +kernel
theorem dX11_worthOf_21 : decode cX11_worthOf 21 = .ok (.iconst 1, 1) := by decide +kernel
theorem dX11_worthOf_22 : decode cX11_worthOf 22 = .ok (.invokevirtual 204, 3) := by decide +kernel
theorem dX11_worthOf_25 : decode cX11_worthOf 25 = .ok (.iadd, 1) := by decide +kernel
theorem dX11_worthOf_26 : decode cX11_worthOf 26 = .ok (.imul, 1) := by decide +kernel
theorem dX11_worthOf_27 : decode cX11_worthOf 27 = .ok (.iload_n 2, 1) := by decide +kernel
theorem dX11_worthOf_28 : decode cX11_worthOf 28 = .ok (.iload_n 3, 1) := by decide +kernel
theorem dX11_worthOf_29 : decode cX11_worthOf 29 = .ok (.iadd, 1) := by decide +kernel
theorem dX11_worthOf_30 : decode cX11_worthOf 30 = .ok (.aload_n 0, 1) := by decide +kernel
theorem dX11_worthOf_31 : decode cX11_worthOf 31 = .ok (.iconst 1, 1) := by decide +kernel
theorem dX11_worthOf_32 : decode cX11_worthOf 32 = .ok (.invokevirtual 204, 3) := by decide +kernel
theorem dX11_worthOf_35 : decode cX11_worthOf 35 = .ok (.imul, 1) := by decide +kernel
theorem dX11_worthOf_36 : decode cX11_worthOf 36 = .ok (.isub, 1) := by decide +kernel
theorem dX11_worthOf_37 : decode cX11_worthOf 37 = .ok (.ireturn, 1) := by decide +kernel
theorem dX11_worth_0 : decode cX11_worth 0 = .ok (.aload_n 0, 1) := by decide +kernel
theorem dX11_worth_1 : decode cX11_worth 1 = .ok (.iconst 0, 1) := by decide +kernel
theorem dX11_worth_2 : decode cX11_worth 2 = .ok (.putfield 52, 3) := by decide +kernel
theorem dX11_worth_5 : decode cX11_worth 5 = .ok (.aload_n 0, 1) := by decide +kernel
theorem dX11_worth_6 : decode cX11_worth 6 = .ok (.iload_n 1, 1) := by decide +kernel
theorem dX11_worth_7 : decode cX11_worth 7 = .ok (.invokevirtual 195, 3) := by decide +kernel
theorem dX11_worth_10 : decode cX11_worth 10 = .ok (.ifCond .eq 15, 3) := by decide +kernel
theorem dX11_worth_13 : decode cX11_worth 13 = .ok (.iload_n 2, 1) := by decide +kernel
theorem dX11_worth_14 : decode cX11_worth 14 = .ok (.i2l, 1) := by decide +kernel
theorem dX11_worth_15 : decode cX11_worth 15 = .ok (.lconst 0, 1) := by decide +kernel
theorem dX11_worth_16 : decode cX11_worth 16 = .ok (.ldc2_w 207, 3) := by decide +kernel
theorem dX11_worth_19 : decode cX11_worth 19 = .ok (.invokestatic 62, 3) := by decide +kernel
theorem dX11_worth_22 : decode cX11_worth 22 = .ok (.ifCond .ne 6, 3) := by decide +kernel
theorem dX11_worth_25 : decode cX11_worth 25 = .ok (.ldc 72, 2) := by decide +kernel
theorem dX11_worth_27 : decode cX11_worth 27 = .ok (.ireturn, 1) := by decide +kernel
theorem dX11_worth_28 : decode cX11_worth 28 = .ok (.iload_n 2, 1) := by decide +kernel
theorem dX11_worth_29 : decode cX11_worth 29 = .ok (.ifCond .ne 26, 3) := by decide +kernel
theorem dX11_worth_32 : decode cX11_worth 32 = .ok (.aload_n 0, 1) := by decide +kernel
theorem dX11_worth_33 : decode cX11_worth 33 = .ok (.iload_n 1, 1) := by decide +kernel
theorem dX11_worth_34 : decode cX11_worth 34 = .ok (.iconst 0, 1) := by decide +kernel
theorem dX11_worth_35 : decode cX11_worth 35 = .ok (.invokevirtual 201, 3) := by decide +kernel
theorem dX11_worth_38 : decode cX11_worth 38 = .ok (.aload_n 0, 1) := by decide +kernel
theorem dX11_worth_39 : decode cX11_worth 39 = .ok (.iload_n 1, 1) := by decide +kernel
theorem dX11_worth_40 : decode cX11_worth 40 = .ok (.iconst 1, 1) := by decide +kernel
theorem dX11_worth_41 : decode cX11_worth 41 = .ok (.invokevirtual 201, 3) := by decide +kernel
theorem dX11_worth_44 : decode cX11_worth 44 = .ok (.iadd, 1) := by decide +kernel
theorem dX11_worth_45 : decode cX11_worth 45 = .ok (.aload_n 0, 1) := by decide +kernel
theorem dX11_worth_46 : decode cX11_worth 46 = .ok (.iload_n 1, 1) := by decide +kernel
theorem dX11_worth_47 : decode cX11_worth 47 = .ok (.iconst 2, 1) := by decide +kernel
theorem dX11_worth_48 : decode cX11_worth 48 = .ok (.invokevirtual 201, 3) := by decide +kernel
theorem dX11_worth_51 : decode cX11_worth 51 = .ok (.iadd, 1) := by decide +kernel
theorem dX11_worth_52 : decode cX11_worth 52 = .ok (.goto 36, 3) := by decide +kernel
theorem dX11_worth_55 : decode cX11_worth 55 = .ok (.iload_n 2, 1) := by decide +kernel
theorem dX11_worth_56 : decode cX11_worth 56 = .ok (.iconst 1, 1) := by decide +kernel
theorem dX11_worth_57 : decode cX11_worth 57 = .ok (.if_icmp .ne 12, 3) := by decide +kernel
theorem dX11_worth_60 : decode cX11_worth 60 = .ok (.aload_n 0, 1) := by decide +kernel
theorem dX11_worth_61 : decode cX11_worth 61 = .ok (.iload_n 1, 1) := by decide +kernel
theorem dX11_worth_62 : decode cX11_worth 62 = .ok (.iconst 1, 1) := by decide +kernel
theorem dX11_worth_63 : decode cX11_worth 63 = .ok (.invokevirtual 201, 3) := by decide +kernel
theorem dX11_worth_66 : decode cX11_worth 66 = .ok (.goto 22, 3) := by decide +kernel
theorem dX11_worth_69 : decode cX11_worth 69 = .ok (.iload_n 2, 1) := by decide +kernel
theorem dX11_worth_70 : decode cX11_worth 70 = .ok (.iconst 2, 1) := by decide +kernel
theorem dX11_worth_71 : decode cX11_worth 71 = .ok (.if_icmp .ne 12, 3) := by decide +kernel
theorem dX11_worth_74 : decode cX11_worth 74 = .ok (.aload_n 0, 1) := by decide +kernel
theorem dX11_worth_75 : decode cX11_worth 75 = .ok (.iload_n 1, 1) := by decide +kernel
theorem dX11_worth_76 : decode cX11_worth 76 = .ok (.iconst 0, 1) := by decide +kernel
theorem dX11_worth_77 : decode cX11_worth 77 = .ok (.invokevirtual 201, 3) := by decide +kernel
theorem dX11_worth_80 : decode cX11_worth 80 = .ok (.goto 8, 3) := by decide +kernel
theorem dX11_worth_83 : decode cX11_worth 83 = .ok (.aload_n 0, 1) := by decide +kernel
theorem dX11_worth_84 : decode cX11_worth 84 = .ok (.iload_n 1, 1) := by decide +kernel
theorem dX11_worth_85 : decode cX11_worth 85 = .ok (.invokevirtual 209, 3) := by decide +kernel
theorem dX11_worth_88 : decode cX11_worth 88 = .ok (.ireturn, 1) := by decide +kernel
theorem dX11_best_0 : decode cX11_best 0 = .ok (.aload_n 0, 1) := by decide +kernel
theorem dX11_best_1 : decode cX11_best 1 = .ok (.iconst 0, 1) := by decide +kernel
theorem dX11_best_2 : decode cX11_best 2 = .ok (.putfield 52, 3) := by decide +kernel
theorem dX11_best_5 : decode cX11_best 5 = .ok (.ldc 100, 2) := by decide +kernel
theorem dX11_best_7 : decode cX11_best 7 = .ok (.istore_n 1, 1) := by decide +kernel
theorem dX11_best_8 : decode cX11_best 8 = .ok (.iconst 0, 1) := by decide +kernel
theorem dX11_best_9 : decode cX11_best 9 = .ok (.istore_n 2, 1) := by decide +kernel
theorem dX11_best_10 : decode cX11_best 10 = .ok (.iconst 0, 1) := by decide +kernel
theorem dX11_best_11 : decode cX11_best 11 = .ok (.istore_n 3, 1) := by decide +kernel
theorem dX11_best_12 : decode cX11_best 12 = .ok (.iload_n 3, 1) := by decide +kernel
theorem dX11_best_13 : decode cX11_best 13 = .ok (.aload_n 0, 1) := by decide +kernel
theorem dX11_best_14 : decode cX11_best 14 = .ok (.getfield 189, 3) := by decide +kernel
theorem dX11_best_17 : decode cX11_best 17 = .ok (.if_icmp .ge 33, 3) := by decide +kernel
theorem dX11_best_20 : decode cX11_best 20 = .ok (.aload_n 0, 1) := by decide +kernel
theorem dX11_best_21 : decode cX11_best 21 = .ok (.iload_n 3, 1) := by decide +kernel
theorem dX11_best_22 : decode cX11_best 22 = .ok (.invokevirtual 209, 3) := by decide +kernel
theorem dX11_best_25 : decode cX11_best 25 = .ok (.istore 4, 2) := by decide +kernel
theorem dX11_best_27 : decode cX11_best 27 = .ok (.iload_n 1, 1) := by decide +kernel
theorem dX11_best_28 : decode cX11_best 28 = .ok (.ldc 100, 2) := by decide +kernel
theorem dX11_best_30 : decode cX11_best 30 = .ok (.if_icmp .eq 9, 3) := by decide +kernel
theorem dX11_best_33 : decode cX11_best 33 = .ok (.iload 4, 2) := by decide +kernel
theorem dX11_best_35 : decode cX11_best 35 = .ok (.iload_n 2, 1) := by decide +kernel
theorem dX11_best_36 : decode cX11_best 36 = .ok (.if_icmp .le 8, 3) := by decide +kernel
theorem dX11_best_39 : decode cX11_best 39 = .ok (.iload_n 3, 1) := by decide +kernel
theorem dX11_best_40 : decode cX11_best 40 = .ok (.istore_n 1, 1) := by decide +kernel
theorem dX11_best_41 : decode cX11_best 41 = .ok (.iload 4, 2) := by decide +kernel
theorem dX11_best_43 : decode cX11_best 43 = .ok (.istore_n 2, 1) := by decide +kernel
theorem dX11_best_44 : decode cX11_best 44 = .ok (.iinc 3 1, 3) := by decide +kernel
theorem dX11_best_47 : decode cX11_best 47 = .ok (.goto (-35), 3) := by decide +kernel
theorem dX11_best_50 : decode cX11_best 50 = .ok (.iload_n 1, 1) := by decide +kernel
theorem dX11_best_51 : decode cX11_best 51 = .ok (.ireturn, 1) := by decide +kernel
theorem dX11_kindOf_0 : decode cX11_kindOf 0 = .ok (.iload_n 0, 1) := by decide +kernel
theorem dX11_kindOf_1 : decode cX11_kindOf 1 = .ok (.iconst 1, 1) := by decide +kernel
theorem dX11_kindOf_2 : decode cX11_kindOf 2 = .ok (.iand, 1) := by decide +kernel
theorem dX11_kindOf_3 : decode cX11_kindOf 3 = .ok (.iload_n 0, 1) := by decide +kernel
theorem dX11_kindOf_4 : decode cX11_kindOf 4 = .ok (.iconst 3, 1) := by decide +kernel
theorem dX11_kindOf_5 : decode cX11_kindOf 5 = .ok (.ishr, 1) := by decide +kernel
theorem dX11_kindOf_6 : decode cX11_kindOf 6 = .ok (.iconst 1, 1) := by decide +kernel
theorem dX11_kindOf_7 : decode cX11_kindOf 7 = .ok (.iand, 1) := by decide +kernel
theorem dX11_kindOf_8 : decode cX11_kindOf 8 = .ok (.if_icmp .ne 20, 3) := by decide +kernel
theorem dX11_kindOf_11 : decode cX11_kindOf 11 = .ok (.iload_n 0, 1) := by decide +kernel
theorem dX11_kindOf_12 : decode cX11_kindOf 12 = .ok (.iconst 1, 1) := by decide +kernel
theorem dX11_kindOf_13 : decode cX11_kindOf 13 = .ok (.ishr, 1) := by decide +kernel
theorem dX11_kindOf_14 : decode cX11_kindOf 14 = .ok (.iconst 1, 1) := by decide +kernel
theorem dX11_kindOf_15 : decode cX11_kindOf 15 = .ok (.iand, 1) := by decide +kernel
theorem dX11_kindOf_16 : decode cX11_kindOf 16 = .ok (.iload_n 0, 1) := by decide +kernel
theorem dX11_kindOf_17 : decode cX11_kindOf 17 = .ok (.iconst 2, 1) := by decide +kernel
theorem dX11_kindOf_18 : decode cX11_kindOf 18 = .ok (.ishr, 1) := by decide +kernel
theorem dX11_kindOf_19 : decode cX11_kindOf 19 = .ok (.iconst 1, 1) := by decide +kernel
theorem dX11_kindOf_20 : decode cX11_kindOf 20 = .ok (.iand, 1) := by decide +kernel
theorem dX11_kindOf_21 : decode cX11_kindOf 21 = .ok (.if_icmp .ne 7, 3) := by decide +kernel
theorem dX11_kindOf_24 : decode cX11_kindOf 24 = .ok (.iconst 1, 1) := by decide +kernel
theorem dX11_kindOf_25 : decode cX11_kindOf 25 = .ok (.goto 4, 3) := by decide +kernel
theorem dX11_kindOf_28 : decode cX11_kindOf 28 = .ok (.iconst 0, 1) := by decide +kernel
theorem dX11_kindOf_29 : decode cX11_kindOf 29 = .ok (.istore_n 1, 1) := by decide +kernel
theorem dX11_kindOf_30 : decode cX11_kindOf 30 = .ok (.iload_n 1, 1) := by decide +kernel
theorem dX11_kindOf_31 : decode cX11_kindOf 31 = .ok (.ifCond .eq 7, 3) := by decide +kernel
theorem dX11_kindOf_34 : decode cX11_kindOf 34 = .ok (.iconst 2, 1) := by decide +kernel
theorem dX11_kindOf_35 : decode cX11_kindOf 35 = .ok (.goto 17, 3) := by decide +kernel
theorem dX11_kindOf_38 : decode cX11_kindOf 38 = .ok (.iload_n 0, 1) := by decide +kernel
theorem dX11_kindOf_39 : decode cX11_kindOf 39 = .ok (.invokestatic 102, 3) := by decide +kernel
theorem dX11_kindOf_42 : decode cX11_kindOf 42 = .ok (.iconst 2, 1) := by decide +kernel
theorem dX11_kindOf_43 : decode cX11_kindOf 43 = .ok (.irem, 1) := by decide +kernel
theorem dX11_kindOf_44 : decode cX11_kindOf 44 = .ok (.ifCond .ne 7, 3) := by decide +kernel
theorem dX11_kindOf_47 : decode cX11_kindOf 47 = .ok (.iconst 1, 1) := by decide +kernel
theorem dX11_kindOf_48 : decode cX11_kindOf 48 = .ok (.goto 4, 3) := by decide +kernel
theorem dX11_kindOf_51 : decode cX11_kindOf 51 = .ok (.iconst 3, 1) := by decide +kernel
theorem dX11_kindOf_52 : decode cX11_kindOf 52 = .ok (.ireturn, 1) := by decide +kernel
theorem dX11_kind_0 : decode cX11_kind 0 = .ok (.aload_n 0, 1) := by decide +kernel
theorem dX11_kind_1 : decode cX11_kind 1 = .ok (.iconst 0, 1) := by decide +kernel
theorem dX11_kind_2 : decode cX11_kind 2 = .ok (.putfield 52, 3) := by decide +kernel
theorem dX11_kind_5 : decode cX11_kind 5 = .ok (.iload_n 1, 1) := by decide +kernel
theorem dX11_kind_6 : decode cX11_kind 6 = .ok (.invokestatic 90, 3) := by decide +kernel
theorem dX11_kind_9 : decode cX11_kind 9 = .ok (.ifCond .eq 10, 3) := by decide +kernel
theorem dX11_kind_12 : decode cX11_kind 12 = .ok (.iload_n 1, 1) := by decide +kernel
theorem dX11_kind_13 : decode cX11_kind 13 = .ok (.invokestatic 212, 3) := by decide +kernel
theorem dX11_kind_16 : decode cX11_kind 16 = .ok (.goto 5, 3) := by decide +kernel
theorem dX11_kind_19 : decode cX11_kind 19 = .ok (.ldc 72, 2) := by decide +kernel
theorem dX11_kind_21 : decode cX11_kind 21 = .ok (.ireturn, 1) := by decide +kernel
theorem dX11_as_0 : decode cX11_as 0 = .ok (.aload_n 0, 1) := by decide +kernel
theorem dX11_as_1 : decode cX11_as 1 = .ok (.iconst 0, 1) := by decide +kernel
theorem dX11_as_2 : decode cX11_as 2 = .ok (.putfield 52, 3) := by decide +kernel
theorem dX11_as_5 : decode cX11_as 5 = .ok (.iload_n 1, 1) := by decide +kernel
theorem dX11_as_6 : decode cX11_as 6 = .ok (.invokestatic 90, 3) := by decide +kernel
theorem dX11_as_9 : decode cX11_as 9 = .ok (.ifCond .eq 15, 3) := by decide +kernel
theorem dX11_as_12 : decode cX11_as 12 = .ok (.iload_n 2, 1) := by decide +kernel
theorem dX11_as_13 : decode cX11_as 13 = .ok (.i2l, 1) := by decide +kernel
theorem dX11_as_14 : decode cX11_as 14 = .ok (.lconst 0, 1) := by decide +kernel
theorem dX11_as_15 : decode cX11_as 15 = .ok (.ldc2_w 207, 3) := by decide +kernel
theorem dX11_as_18 : decode cX11_as 18 = .ok (.invokestatic 62, 3) := by decide +kernel
theorem dX11_as_21 : decode cX11_as 21 = .ok (.ifCond .ne 6, 3) := by decide +kernel
theorem dX11_as_24 : decode cX11_as 24 = .ok (.ldc 72, 2) := by decide +kernel
theorem dX11_as_26 : decode cX11_as 26 = .ok (.ireturn, 1) := by decide +kernel
theorem dX11_as_27 : decode cX11_as 27 = .ok (.aload_n 0, 1) := by decide +kernel
theorem dX11_as_28 : decode cX11_as 28 = .ok (.iconst 0, 1) := by decide +kernel
theorem dX11_as_29 : decode cX11_as 29 = .ok (.putfield 56, 3) := by decide +kernel
theorem dX11_as_32 : decode cX11_as 32 = .ok (.iload_n 1, 1) := by decide +kernel
theorem dX11_as_33 : decode cX11_as 33 = .ok (.invokestatic 212, 3) := by decide +kernel
theorem dX11_as_36 : decode cX11_as 36 = .ok (.istore_n 3, 1) := by decide +kernel
theorem dX11_as_37 : decode cX11_as 37 = .ok (.iload_n 2, 1) := by decide +kernel
theorem dX11_as_38 : decode cX11_as 38 = .ok (.ifCond .eq 18, 3) := by decide +kernel
theorem dX11_as_41 : decode cX11_as 41 = .ok (.iload_n 3, 1) := by decide +kernel
theorem dX11_as_42 : decode cX11_as 42 = .ok (.iload_n 2, 1) := by decide +kernel
theorem dX11_as_43 : decode cX11_as 43 = .ok (.if_icmp .eq 13, 3) := by decide +kernel
theorem dX11_as_46 : decode cX11_as 46 = .ok (.iload_n 2, 1) := by decide +kernel
theorem dX11_as_47 : decode cX11_as 47 = .ok (.iconst 1, 1) := by decide +kernel
theorem dX11_as_48 : decode cX11_as 48 = .ok (.if_icmp .ne 18, 3) := by decide +kernel
theorem dX11_as_51 : decode cX11_as 51 = .ok (.iload_n 3, 1) := by decide +kernel
theorem dX11_as_52 : decode cX11_as 52 = .ok (.iconst 2, 1) := by decide +kernel
theorem dX11_as_53 : decode cX11_as 53 = .ok (.if_icmp .ne 13, 3) := by decide +kernel
theorem dX11_as_56 : decode cX11_as 56 = .ok (.bipush 8, 2) := by decide +kernel
theorem dX11_as_58 : decode cX11_as 58 = .ok (.iload_n 1, 1) := by decide +kernel
theorem dX11_as_59 : decode cX11_as 59 = .ok (.invokestatic 102, 3) := by decide +kernel
theorem dX11_as_62 : decode cX11_as 62 = .ok (.isub, 1) := by decide +kernel
theorem dX11_as_63 : decode cX11_as 63 = .ok (.goto 8, 3) := by decide +kernel
theorem dX11_as_66 : decode cX11_as 66 = .ok (.aload_n 0, 1) := by decide +kernel
theorem dX11_as_67 : decode cX11_as 67 = .ok (.iconst 3, 1) := by decide +kernel
theorem dX11_as_68 : decode cX11_as 68 = .ok (.invokevirtual 73, 3) := by decide +kernel
theorem dX11_as_71 : decode cX11_as 71 = .ok (.ireturn, 1) := by decide +kernel
theorem dX11_began_0 : decode cX11_began 0 = .ok (.aload_n 0, 1) := by decide +kernel
theorem dX11_began_1 : decode cX11_began 1 = .ok (.getfield 215, 3) := by decide +kernel
theorem dX11_began_4 : decode cX11_began 4 = .ok (.bipush 16, 2) := by decide +kernel
theorem dX11_began_6 : decode cX11_began 6 = .ok (.if_icmp .ge 23, 3) := by decide +kernel
theorem dX11_began_9 : decode cX11_began 9 = .ok (.aload_n 0, 1) := by decide +kernel
theorem dX11_began_10 : decode cX11_began 10 = .ok (.getfield 49, 3) := by decide +kernel
theorem dX11_began_13 : decode cX11_began 13 = .ok (.aload_n 0, 1) := by decide +kernel
theorem dX11_began_14 : decode cX11_began 14 = .ok (.getfield 215, 3) := by decide +kernel
theorem dX11_began_17 : decode cX11_began 17 = .ok (.iload_n 1, 1) := by decide +kernel
theorem dX11_began_18 : decode cX11_began 18 = .ok (.iastore, 1) := by decide +kernel
theorem dX11_began_19 : decode cX11_began 19 = .ok (.aload_n 0, 1) := by decide +kernel
theorem dX11_began_20 : decode cX11_began 20 = .ok (.dup, 1) := by decide +kernel
theorem dX11_began_21 : decode cX11_began 21 = .ok (.getfield 215, 3) := by decide +kernel
theorem dX11_began_24 : decode cX11_began 24 = .ok (.iconst 1, 1) := by decide +kernel
theorem dX11_began_25 : decode cX11_began 25 = .ok (.iadd, 1) := by decide +kernel
theorem dX11_began_26 : decode cX11_began 26 = .ok (.putfield 215, 3) := by decide +kernel
theorem dX11_began_29 : decode cX11_began 29 = .ok (.return_, 1) := by decide +kernel
theorem dX11_oddSize_0 : decode cX11_oddSize 0 = .ok (.aload_n 0, 1) := by decide +kernel
theorem dX11_oddSize_1 : decode cX11_oddSize 1 = .ok (.bipush 13, 2) := by decide +kernel
theorem dX11_oddSize_3 : decode cX11_oddSize 3 = .ok (.invokevirtual 218, 3) := by decide +kernel
theorem dX11_oddSize_6 : decode cX11_oddSize 6 = .ok (.aload_n 0, 1) := by decide +kernel
theorem dX11_oddSize_7 : decode cX11_oddSize 7 = .ok (.bipush 10, 2) := by decide +kernel
theorem dX11_oddSize_9 : decode cX11_oddSize 9 = .ok (.invokevirtual 218, 3) := by decide +kernel
theorem dX11_oddSize_12 : decode cX11_oddSize 12 = .ok (.iconst 2, 1) := by decide +kernel
theorem dX11_oddSize_13 : decode cX11_oddSize 13 = .ok (.bipush 8, 2) := by decide +kernel
theorem dX11_oddSize_15 : decode cX11_oddSize 15 = .ok (.iload_n 1, 1) := by decide +kernel
theorem dX11_oddSize_16 : decode cX11_oddSize 16 = .ok (.invokestatic 102, 3) := by decide +kernel
theorem dX11_oddSize_19 : decode cX11_oddSize 19 = .ok (.isub, 1) := by decide +kernel
theorem dX11_oddSize_20 : decode cX11_oddSize 20 = .ok (.imul, 1) := by decide +kernel
theorem dX11_oddSize_21 : decode cX11_oddSize 21 = .ok (.ireturn, 1) := by decide +kernel
theorem dX11_marked_0 : decode cX11_marked 0 = .ok (.iload_n 1, 1) := by decide +kernel
theorem dX11_marked_1 : decode cX11_marked 1 = .ok (.invokestatic 212, 3) := by decide +kernel
theorem dX11_marked_4 : decode cX11_marked 4 = .ok (.istore_n 2, 1) := by decide +kernel
theorem dX11_marked_5 : decode cX11_marked 5 = .ok (.iload_n 2, 1) := by decide +kernel
theorem dX11_marked_6 : decode cX11_marked 6 = .ok (.iconst 2, 1) := by decide +kernel
theorem dX11_marked_7 : decode cX11_marked 7 = .ok (.if_icmp .ne 9, 3) := by decide +kernel
theorem dX11_marked_10 : decode cX11_marked 10 = .ok (.aload_n 0, 1) := by decide +kernel
theorem dX11_marked_11 : decode cX11_marked 11 = .ok (.bipush 21, 2) := by decide +kernel
theorem dX11_marked_13 : decode cX11_marked 13 = .ok (.invokevirtual 218, 3) := by decide +kernel
theorem dX11_marked_16 : decode cX11_marked 16 = .ok (.iload_n 2, 1) := by decide +kernel
theorem dX11_marked_17 : decode cX11_marked 17 = .ok (.iconst 3, 1) := by decide +kernel
theorem dX11_marked_18 : decode cX11_marked 18 = .ok (.if_icmp .ne 9, 3) := by decide +kernel
theorem dX11_marked_21 : decode cX11_marked 21 = .ok (.aload_n 0, 1) := by decide +kernel
theorem dX11_marked_22 : decode cX11_marked 22 = .ok (.bipush 22, 2) := by decide +kernel
theorem dX11_marked_24 : decode cX11_marked 24 = .ok (.invokevirtual 218, 3) := by decide +kernel
theorem dX11_marked_27 : decode cX11_marked 27 = .ok (.aload_n 0, 1) := by decide +kernel
theorem dX11_marked_28 : decode cX11_marked 28 = .ok (.bipush 20, 2) := by decide +kernel
theorem dX11_marked_30 : decode cX11_marked 30 = .ok (.invokevirtual 218, 3) := by decide +kernel
theorem dX11_marked_33 : decode cX11_marked 33 = .ok (.iload_n 1, 1) := by decide +kernel
theorem dX11_marked_34 : decode cX11_marked 34 = .ok (.iload_n 2, 1) := by decide +kernel
theorem dX11_marked_35 : decode cX11_marked 35 = .ok (.iconst 2, 1) := by decide +kernel
theorem dX11_marked_36 : decode cX11_marked 36 = .ok (.if_icmp .ne 8, 3) := by decide +kernel
theorem dX11_marked_39 : decode cX11_marked 39 = .ok (.bipush 100, 2) := by decide +kernel
theorem dX11_marked_41 : decode cX11_marked 41 = .ok (.goto 17, 3) := by decide +kernel
theorem dX11_marked_44 : decode cX11_marked 44 = .ok (.iload_n 2, 1) := by decide +kernel
theorem dX11_marked_45 : decode cX11_marked 45 = .ok (.iconst 3, 1) := by decide +kernel
theorem dX11_marked_46 : decode cX11_marked 46 = .ok (.if_icmp .ne 11, 3) := by decide +kernel
theorem dX11_marked_49 : decode cX11_marked 49 = .ok (.aload_n 0, 1) := by decide +kernel
theorem dX11_marked_50 : decode cX11_marked 50 = .ok (.iload_n 1, 1) := by decide +kernel
theorem dX11_marked_51 : decode cX11_marked 51 = .ok (.invokevirtual 221, 3) := by decide +kernel
theorem dX11_marked_54 : decode cX11_marked 54 = .ok (.goto 4, 3) := by decide +kernel
theorem dX11_marked_57 : decode cX11_marked 57 = .ok (.iconst 0, 1) := by decide +kernel
theorem dX11_marked_58 : decode cX11_marked 58 = .ok (.iadd, 1) := by decide +kernel
theorem dX11_marked_59 : decode cX11_marked 59 = .ok (.ireturn, 1) := by decide +kernel
theorem dX11_sized_0 : decode cX11_sized 0 = .ok (.iload_n 1, 1) := by decide +kernel
theorem dX11_sized_1 : decode cX11_sized 1 = .ok (.invokestatic 212, 3) := by decide +kernel
theorem dX11_sized_4 : decode cX11_sized 4 = .ok (.istore_n 2, 1) := by decide +kernel
theorem dX11_sized_5 : decode cX11_sized 5 = .ok (.iload_n 2, 1) := by decide +kernel
theorem dX11_sized_6 : decode cX11_sized 6 = .ok (.iconst 3, 1) := by decide +kernel
theorem dX11_sized_7 : decode cX11_sized 7 = .ok (.if_icmp .ne 9, 3) := by decide +kernel
theorem dX11_sized_10 : decode cX11_sized 10 = .ok (.aload_n 0, 1) := by decide +kernel
theorem dX11_sized_11 : decode cX11_sized 11 = .ok (.iload_n 1, 1) := by decide +kernel
theorem dX11_sized_12 : decode cX11_sized 12 = .ok (.invokevirtual 221, 3) := by decide +kernel
theorem dX11_sized_15 : decode cX11_sized 15 = .ok (.ireturn, 1) := by decide +kernel
theorem dX11_sized_16 : decode cX11_sized 16 = .ok (.iload_n 2, 1) := by decide +kernel
theorem dX11_sized_17 : decode cX11_sized 17 = .ok (.iconst 2, 1) := by decide +kernel
theorem dX11_sized_18 : decode cX11_sized 18 = .ok (.if_icmp .ne 9, 3) := by decide +kernel
theorem dX11_sized_21 : decode cX11_sized 21 = .ok (.aload_n 0, 1) := by decide +kernel
theorem dX11_sized_22 : decode cX11_sized 22 = .ok (.bipush 12, 2) := by decide +kernel
theorem dX11_sized_24 : decode cX11_sized 24 = .ok (.invokevirtual 218, 3) := by decide +kernel
theorem dX11_sized_27 : decode cX11_sized 27 = .ok (.aload_n 0, 1) := by decide +kernel
theorem dX11_sized_28 : decode cX11_sized 28 = .ok (.bipush 11, 2) := by decide +kernel
theorem dX11_sized_30 : decode cX11_sized 30 = .ok (.invokevirtual 218, 3) := by decide +kernel
theorem dX11_sized_33 : decode cX11_sized 33 = .ok (.aload_n 0, 1) := by decide +kernel
theorem dX11_sized_34 : decode cX11_sized 34 = .ok (.bipush 10, 2) := by decide +kernel
theorem dX11_sized_36 : decode cX11_sized 36 = .ok (.invokevirtual 218, 3) := by decide +kernel
theorem dX11_sized_39 : decode cX11_sized 39 = .ok (.bipush 8, 2) := by decide +kernel
theorem dX11_sized_41 : decode cX11_sized 41 = .ok (.iload_n 1, 1) := by decide +kernel
theorem dX11_sized_42 : decode cX11_sized 42 = .ok (.invokestatic 102, 3) := by decide +kernel
theorem dX11_sized_45 : decode cX11_sized 45 = .ok (.isub, 1) := by decide +kernel
theorem dX11_sized_46 : decode cX11_sized 46 = .ok (.iload_n 1, 1) := by decide +kernel
theorem dX11_sized_47 : decode cX11_sized 47 = .ok (.iadd, 1) := by decide +kernel
theorem dX11_sized_48 : decode cX11_sized 48 = .ok (.istore_n 3, 1) := by decide +kernel
theorem dX11_sized_49 : decode cX11_sized 49 = .ok (.iload_n 2, 1) := by decide +kernel
theorem dX11_sized_50 : decode cX11_sized 50 = .ok (.iconst 2, 1) := by decide +kernel
theorem dX11_sized_51 : decode cX11_sized 51 = .ok (.if_icmp .ne 13, 3) := by decide +kernel
theorem dX11_sized_54 : decode cX11_sized 54 = .ok (.iload_n 3, 1) := by decide +kernel
theorem dX11_sized_55 : decode cX11_sized 55 = .ok (.aload_n 0, 1) := by decide +kernel
theorem dX11_sized_56 : decode cX11_sized 56 = .ok (.iload_n 1, 1) := by decide +kernel
theorem dX11_sized_57 : decode cX11_sized 57 = .ok (.invokevirtual 224, 3) := by decide +kernel
theorem dX11_sized_60 : decode cX11_sized 60 = .ok (.iadd, 1) := by decide +kernel
theorem dX11_sized_61 : decode cX11_sized 61 = .ok (.goto 4, 3) := by decide +kernel
theorem dX11_sized_64 : decode cX11_sized 64 = .ok (.iload_n 3, 1) := by decide +kernel
theorem dX11_sized_65 : decode cX11_sized 65 = .ok (.ireturn, 1) := by decide +kernel
theorem dX11_ask_0 : decode cX11_ask 0 = .ok (.aload_n 0, 1) := by decide +kernel
theorem dX11_ask_1 : decode cX11_ask 1 = .ok (.iconst 0, 1) := by decide +kernel
theorem dX11_ask_2 : decode cX11_ask 2 = .ok (.putfield 52, 3) := by decide +kernel
theorem dX11_ask_5 : decode cX11_ask 5 = .ok (.iload_n 1, 1) := by decide +kernel
theorem dX11_ask_6 : decode cX11_ask 6 = .ok (.invokestatic 90, 3) := by decide +kernel
theorem dX11_ask_9 : decode cX11_ask 9 = .ok (.ifCond .eq 13, 3) := by decide +kernel
theorem dX11_ask_12 : decode cX11_ask 12 = .ok (.iload_n 2, 1) := by decide +kernel
theorem dX11_ask_13 : decode cX11_ask 13 = .ok (.i2l, 1) := by decide +kernel
theorem dX11_ask_14 : decode cX11_ask 14 = .ok (.lconst 0, 1) := by decide +kernel
theorem dX11_ask_15 : decode cX11_ask 15 = .ok (.lconst 1, 1) := by decide +kernel
theorem dX11_ask_16 : decode cX11_ask 16 = .ok (.invokestatic 62, 3) := by decide +kernel
theorem dX11_ask_19 : decode cX11_ask 19 = .ok (.ifCond .ne 6, 3) := by decide +kernel
theorem dX11_ask_22 : decode cX11_ask 22 = .ok (.ldc 72, 2) := by decide +kernel
theorem dX11_ask_24 : decode cX11_ask 24 = .ok (.ireturn, 1) := by decide +kernel
theorem dX11_ask_25 : decode cX11_ask 25 = .ok (.aload_n 0, 1) := by decide +kernel
theorem dX11_ask_26 : decode cX11_ask 26 = .ok (.iconst 0, 1) := by decide +kernel
theorem dX11_ask_27 : decode cX11_ask 27 = .ok (.putfield 215, 3) := by decide +kernel
theorem dX11_ask_30 : decode cX11_ask 30 = .ok (.iload_n 2, 1) := by decide +kernel
theorem dX11_ask_31 : decode cX11_ask 31 = .ok (.ifCond .ne 11, 3) := by decide +kernel
theorem dX11_ask_34 : decode cX11_ask 34 = .ok (.aload_n 0, 1) := by decide +kernel
theorem dX11_ask_35 : decode cX11_ask 35 = .ok (.iload_n 1, 1) := by decide +kernel
theorem dX11_ask_36 : decode cX11_ask 36 = .ok (.invokevirtual 227, 3) := by decide +kernel
theorem dX11_ask_39 : decode cX11_ask 39 = .ok (.goto 8, 3) := by decide +kernel
theorem dX11_ask_42 : decode cX11_ask 42 = .ok (.aload_n 0, 1) := by decide +kernel
theorem dX11_ask_43 : decode cX11_ask 43 = .ok (.iload_n 1, 1) := by decide +kernel
theorem dX11_ask_44 : decode cX11_ask 44 = .ok (.invokevirtual 224, 3) := by decide +kernel
theorem dX11_ask_47 : decode cX11_ask 47 = .ok (.ireturn, 1) := by decide +kernel
theorem dX11_trace_0 : decode cX11_trace 0 = .ok (.aload_n 0, 1) := by decide +kernel
theorem dX11_trace_1 : decode cX11_trace 1 = .ok (.iconst 0, 1) := by decide +kernel
theorem dX11_trace_2 : decode cX11_trace 2 = .ok (.putfield 52, 3) := by decide +kernel
theorem dX11_trace_5 : decode cX11_trace 5 = .ok (.iload_n 1, 1) := by decide +kernel
theorem dX11_trace_6 : decode cX11_trace 6 = .ok (.i2l, 1) := by decide +kernel
theorem dX11_trace_7 : decode cX11_trace 7 = .ok (.lconst 0, 1) := by decide +kernel
theorem dX11_trace_8 : decode cX11_trace 8 = .ok (.aload_n 0, 1) := by decide +kernel
theorem dX11_trace_9 : decode cX11_trace 9 = .ok (.getfield 215, 3) := by decide +kernel
theorem dX11_trace_12 : decode cX11_trace 12 = .ok (.iconst 1, 1) := by decide +kernel
theorem dX11_trace_13 : decode cX11_trace 13 = .ok (.isub, 1) := by decide +kernel
theorem dX11_trace_14 : decode cX11_trace 14 = .ok (.i2l, 1) := by decide +kernel
theorem dX11_trace_15 : decode cX11_trace 15 = .ok (.invokestatic 62, 3) := by decide +kernel
theorem dX11_trace_18 : decode cX11_trace 18 = .ok (.ifCond .eq 12, 3) := by decide +kernel
theorem dX11_trace_21 : decode cX11_trace 21 = .ok (.aload_n 0, 1) := by decide +kernel
theorem dX11_trace_22 : decode cX11_trace 22 = .ok (.getfield 49, 3) := by decide +kernel
theorem dX11_trace_25 : decode cX11_trace 25 = .ok (.iload_n 1, 1) := by decide +kernel
theorem dX11_trace_26 : decode cX11_trace 26 = .ok (.iaload, 1) := by decide +kernel
theorem dX11_trace_27 : decode cX11_trace 27 = .ok (.goto 5, 3) := by decide +kernel
theorem dX11_trace_30 : decode cX11_trace 30 = .ok (.ldc 100, 2) := by decide +kernel
theorem dX11_trace_32 : decode cX11_trace 32 = .ok (.ireturn, 1) := by decide +kernel
theorem dX11_count_0 : decode cX11_count 0 = .ok (.aload_n 0, 1) := by decide +kernel
theorem dX11_count_1 : decode cX11_count 1 = .ok (.iconst 0, 1) := by decide +kernel
theorem dX11_count_2 : decode cX11_count 2 = .ok (.putfield 52, 3) := by decide +kernel
theorem dX11_count_5 : decode cX11_count 5 = .ok (.iconst 0, 1) := by decide +kernel
theorem dX11_count_6 : decode cX11_count 6 = .ok (.istore_n 2, 1) := by decide +kernel
theorem dX11_count_7 : decode cX11_count 7 = .ok (.iload_n 1, 1) := by decide +kernel
theorem dX11_count_8 : decode cX11_count 8 = .ok (.tableswitch 115 0 6 #[44, 77, 82, 87, 99, 105, 110], 44) := by decide +kernel
theorem dX11_count_52 : decode cX11_count 52 = .ok (.iconst 0, 1) := by decide +kernel
theorem dX11_count_53 : decode cX11_count 53 = .ok (.istore_n 3, 1) := by decide +kernel
theorem dX11_count_54 : decode cX11_count 54 = .ok (.iload_n 3, 1) := by decide +kernel
theorem dX11_count_55 : decode cX11_count 55 = .ok (.bipush 8, 2) := by decide +kernel
theorem dX11_count_57 : decode cX11_count 57 = .ok (.if_icmp .ge 26, 3) := by decide +kernel
theorem dX11_count_60 : decode cX11_count 60 = .ok (.iload_n 2, 1) := by decide +kernel
theorem dX11_count_61 : decode cX11_count 61 = .ok (.aload_n 0, 1) := by decide +kernel
theorem dX11_count_62 : decode cX11_count 62 = .ok (.getfield 7, 3) := by decide +kernel
theorem dX11_count_65 : decode cX11_count 65 = .ok (.iload_n 3, 1) := by decide +kernel
theorem dX11_count_66 : decode cX11_count 66 = .ok (.iaload, 1) := by decide +kernel
theorem dX11_count_67 : decode cX11_count 67 = .ok (.ifCond .lt 7, 3) := by decide +kernel
theorem dX11_count_70 : decode cX11_count 70 = .ok (.iconst 1, 1) := by decide +kernel
theorem dX11_count_71 : decode cX11_count 71 = .ok (.goto 4, 3) := by decide +kernel
theorem dX11_count_74 : decode cX11_count 74 = .ok (.iconst 0, 1) := by decide +kernel
theorem dX11_count_75 : decode cX11_count 75 = .ok (.iadd, 1) := by decide +kernel
theorem dX11_count_76 : decode cX11_count 76 = .ok (.istore_n 2, 1) := by decide +kernel
theorem dX11_count_77 : decode cX11_count 77 = .ok (.iinc 3 1, 3) := by decide +kernel
theorem dX11_count_80 : decode cX11_count 80 = .ok (.goto (-26), 3) := by decide +kernel
theorem dX11_count_83 : decode cX11_count 83 = .ok (.iload_n 2, 1) := by decide +kernel
theorem dX11_count_84 : decode cX11_count 84 = .ok (.ireturn, 1) := by decide +kernel
theorem dX11_count_85 : decode cX11_count 85 = .ok (.aload_n 0, 1) := by decide +kernel
theorem dX11_count_86 : decode cX11_count 86 = .ok (.getfield 189, 3) := by decide +kernel
theorem dX11_count_89 : decode cX11_count 89 = .ok (.ireturn, 1) := by decide +kernel
theorem dX11_count_90 : decode cX11_count 90 = .ok (.aload_n 0, 1) := by decide +kernel
theorem dX11_count_91 : decode cX11_count 91 = .ok (.getfield 198, 3) := by decide +kernel
theorem dX11_count_94 : decode cX11_count 94 = .ok (.ireturn, 1) := by decide +kernel
theorem dX11_count_95 : decode cX11_count 95 = .ok (.aload_n 0, 1) := by decide +kernel
theorem dX11_count_96 : decode cX11_count 96 = .ok (.iconst 0, 1) := by decide +kernel
theorem dX11_count_97 : decode cX11_count 97 = .ok (.invokevirtual 204, 3) := by decide +kernel
theorem dX11_count_100 : decode cX11_count 100 = .ok (.aload_n 0, 1) := by decide +kernel
theorem dX11_count_101 : decode cX11_count 101 = .ok (.iconst 1, 1) := by decide +kernel
theorem dX11_count_102 : decode cX11_count 102 = .ok (.invokevirtual 204, 3) := by decide +kernel
theorem dX11_count_105 : decode cX11_count 105 = .ok (.iadd, 1) := by decide +kernel
theorem dX11_count_106 : decode cX11_count 106 = .ok (.ireturn, 1) := by decide +kernel
theorem dX11_count_107 : decode cX11_count 107 = .ok (.aload_n 0, 1) := by decide +kernel
theorem dX11_count_108 : decode cX11_count 108 = .ok (.iconst 1, 1) := by decide +kernel
theorem dX11_count_109 : decode cX11_count 109 = .ok (.invokevirtual 204, 3) := by decide +kernel
theorem dX11_count_112 : decode cX11_count 112 = .ok (.ireturn, 1) := by decide +kernel
theorem dX11_count_113 : decode cX11_count 113 = .ok (.aload_n 0, 1) := by decide +kernel
theorem dX11_count_114 : decode cX11_count 114 = .ok (.getfield 107, 3) := by decide +kernel
theorem dX11_count_117 : decode cX11_count 117 = .ok (.ireturn, 1) := by decide +kernel
theorem dX11_count_118 : decode cX11_count 118 = .ok (.aload_n 0, 1) := by decide +kernel
theorem dX11_count_119 : decode cX11_count 119 = .ok (.getfield 81, 3) := by decide +kernel
theorem dX11_count_122 : decode cX11_count 122 = .ok (.ireturn, 1) := by decide +kernel
theorem dX11_count_123 : decode cX11_count 123 = .ok (.ldc 72, 2) := by decide +kernel
theorem dX11_count_125 : decode cX11_count 125 = .ok (.ireturn, 1) := by decide +kernel
theorem dX11_status_0 : decode cX11_status 0 = .ok (.aload_n 0, 1) := by decide +kernel
theorem dX11_status_1 : decode cX11_status 1 = .ok (.iconst 0, 1) := by decide +kernel
theorem dX11_status_2 : decode cX11_status 2 = .ok (.putfield 52, 3) := by decide +kernel
theorem dX11_status_5 : decode cX11_status 5 = .ok (.aload_n 0, 1) := by decide +kernel
theorem dX11_status_6 : decode cX11_status 6 = .ok (.getfield 56, 3) := by decide +kernel
theorem dX11_status_9 : decode cX11_status 9 = .ok (.ireturn, 1) := by decide +kernel
theorem dJ6_bitCount_0f7a4_0 : decode cJ6_bitCount_0f7a4 0 = .ok (.iload_n 0, 1) := by decide +kernel
theorem dJ6_bitCount_0f7a4_1 : decode cJ6_bitCount_0f7a4 1 = .ok (.iload_n 0, 1) := by decide +kernel
theorem dJ6_bitCount_0f7a4_2 : decode cJ6_bitCount_0f7a4 2 = .ok (.iconst 1, 1) := by decide +kernel
theorem dJ6_bitCount_0f7a4_3 : decode cJ6_bitCount_0f7a4 3 = .ok (.iushr, 1) := by decide +kernel
theorem dJ6_bitCount_0f7a4_4 : decode cJ6_bitCount_0f7a4 4 = .ok (.ldc_w 265, 3) := by decide +kernel
theorem dJ6_bitCount_0f7a4_7 : decode cJ6_bitCount_0f7a4 7 = .ok (.iand, 1) := by decide +kernel
theorem dJ6_bitCount_0f7a4_8 : decode cJ6_bitCount_0f7a4 8 = .ok (.isub, 1) := by decide +kernel
theorem dJ6_bitCount_0f7a4_9 : decode cJ6_bitCount_0f7a4 9 = .ok (.istore_n 0, 1) := by decide +kernel
theorem dJ6_bitCount_0f7a4_10 : decode cJ6_bitCount_0f7a4 10 = .ok (.iload_n 0, 1) := by decide +kernel
theorem dJ6_bitCount_0f7a4_11 : decode cJ6_bitCount_0f7a4 11 = .ok (.ldc_w 266, 3) := by decide +kernel
theorem dJ6_bitCount_0f7a4_14 : decode cJ6_bitCount_0f7a4 14 = .ok (.iand, 1) := by decide +kernel
theorem dJ6_bitCount_0f7a4_15 : decode cJ6_bitCount_0f7a4 15 = .ok (.iload_n 0, 1) := by decide +kernel
theorem dJ6_bitCount_0f7a4_16 : decode cJ6_bitCount_0f7a4 16 = .ok (.iconst 2, 1) := by decide +kernel
theorem dJ6_bitCount_0f7a4_17 : decode cJ6_bitCount_0f7a4 17 = .ok (.iushr, 1) := by decide +kernel
theorem dJ6_bitCount_0f7a4_18 : decode cJ6_bitCount_0f7a4 18 = .ok (.ldc_w 266, 3) := by decide +kernel
theorem dJ6_bitCount_0f7a4_21 : decode cJ6_bitCount_0f7a4 21 = .ok (.iand, 1) := by decide +kernel
theorem dJ6_bitCount_0f7a4_22 : decode cJ6_bitCount_0f7a4 22 = .ok (.iadd, 1) := by decide +kernel
theorem dJ6_bitCount_0f7a4_23 : decode cJ6_bitCount_0f7a4 23 = .ok (.istore_n 0, 1) := by decide +kernel
theorem dJ6_bitCount_0f7a4_24 : decode cJ6_bitCount_0f7a4 24 = .ok (.iload_n 0, 1) := by decide +kernel
theorem dJ6_bitCount_0f7a4_25 : decode cJ6_bitCount_0f7a4 25 = .ok (.iload_n 0, 1) := by decide +kernel
theorem dJ6_bitCount_0f7a4_26 : decode cJ6_bitCount_0f7a4 26 = .ok (.iconst 4, 1) := by decide +kernel
theorem dJ6_bitCount_0f7a4_27 : decode cJ6_bitCount_0f7a4 27 = .ok (.iushr, 1) := by decide +kernel
theorem dJ6_bitCount_0f7a4_28 : decode cJ6_bitCount_0f7a4 28 = .ok (.iadd, 1) := by decide +kernel
theorem dJ6_bitCount_0f7a4_29 : decode cJ6_bitCount_0f7a4 29 = .ok (.ldc_w 267, 3) := by decide +kernel
theorem dJ6_bitCount_0f7a4_32 : decode cJ6_bitCount_0f7a4 32 = .ok (.iand, 1) := by decide +kernel
theorem dJ6_bitCount_0f7a4_33 : decode cJ6_bitCount_0f7a4 33 = .ok (.istore_n 0, 1) := by decide +kernel
theorem dJ6_bitCount_0f7a4_34 : decode cJ6_bitCount_0f7a4 34 = .ok (.iload_n 0, 1) := by decide +kernel
theorem dJ6_bitCount_0f7a4_35 : decode cJ6_bitCount_0f7a4 35 = .ok (.iload_n 0, 1) := by decide +kernel
theorem dJ6_bitCount_0f7a4_36 : decode cJ6_bitCount_0f7a4 36 = .ok (.bipush 8, 2) := by decide +kernel
theorem dJ6_bitCount_0f7a4_38 : decode cJ6_bitCount_0f7a4 38 = .ok (.iushr, 1) := by decide +kernel
theorem dJ6_bitCount_0f7a4_39 : decode cJ6_bitCount_0f7a4 39 = .ok (.iadd, 1) := by decide +kernel
theorem dJ6_bitCount_0f7a4_40 : decode cJ6_bitCount_0f7a4 40 = .ok (.istore_n 0, 1) := by decide +kernel
theorem dJ6_bitCount_0f7a4_41 : decode cJ6_bitCount_0f7a4 41 = .ok (.iload_n 0, 1) := by decide +kernel
theorem dJ6_bitCount_0f7a4_42 : decode cJ6_bitCount_0f7a4 42 = .ok (.iload_n 0, 1) := by decide +kernel
theorem dJ6_bitCount_0f7a4_43 : decode cJ6_bitCount_0f7a4 43 = .ok (.bipush 16, 2) := by decide +kernel
theorem dJ6_bitCount_0f7a4_45 : decode cJ6_bitCount_0f7a4 45 = .ok (.iushr, 1) := by decide +kernel
theorem dJ6_bitCount_0f7a4_46 : decode cJ6_bitCount_0f7a4 46 = .ok (.iadd, 1) := by decide +kernel
theorem dJ6_bitCount_0f7a4_47 : decode cJ6_bitCount_0f7a4 47 = .ok (.istore_n 0, 1) := by decide +kernel
theorem dJ6_bitCount_0f7a4_48 : decode cJ6_bitCount_0f7a4 48 = .ok (.iload_n 0, 1) := by decide +kernel
theorem dJ6_bitCount_0f7a4_49 : decode cJ6_bitCount_0f7a4 49 = .ok (.bipush 63, 2) := by decide +kernel
theorem dJ6_bitCount_0f7a4_51 : decode cJ6_bitCount_0f7a4 51 = .ok (.iand, 1) := by decide +kernel
theorem dJ6_bitCount_0f7a4_52 : decode cJ6_bitCount_0f7a4 52 = .ok (.ireturn, 1) := by decide +kernel
theorem dJ13_bitCount_95d88_0 : decode cJ13_bitCount_95d88 0 = .ok (.lload_n 0, 1) := by decide +kernel
theorem dJ13_bitCount_95d88_1 : decode cJ13_bitCount_95d88 1 = .ok (.lload_n 0, 1) := by decide +kernel
theorem dJ13_bitCount_95d88_2 : decode cJ13_bitCount_95d88 2 = .ok (.iconst 1, 1) := by decide +kernel
theorem dJ13_bitCount_95d88_3 : decode cJ13_bitCount_95d88 3 = .ok (.lushr, 1) := by decide +kernel
theorem dJ13_bitCount_95d88_4 : decode cJ13_bitCount_95d88 4 = .ok (.ldc2_w 314, 3) := by decide +kernel
theorem dJ13_bitCount_95d88_7 : decode cJ13_bitCount_95d88 7 = .ok (.land, 1) := by decide +kernel
theorem dJ13_bitCount_95d88_8 : decode cJ13_bitCount_95d88 8 = .ok (.lsub, 1) := by decide +kernel
theorem dJ13_bitCount_95d88_9 : decode cJ13_bitCount_95d88 9 = .ok (.lstore_n 0, 1) := by decide +kernel
theorem dJ13_bitCount_95d88_10 : decode cJ13_bitCount_95d88 10 = .ok (.lload_n 0, 1) := by decide +kernel
theorem dJ13_bitCount_95d88_11 : decode cJ13_bitCount_95d88 11 = .ok (.ldc2_w 316, 3) := by decide +kernel
theorem dJ13_bitCount_95d88_14 : decode cJ13_bitCount_95d88 14 = .ok (.land, 1) := by decide +kernel
theorem dJ13_bitCount_95d88_15 : decode cJ13_bitCount_95d88 15 = .ok (.lload_n 0, 1) := by decide +kernel
theorem dJ13_bitCount_95d88_16 : decode cJ13_bitCount_95d88 16 = .ok (.iconst 2, 1) := by decide +kernel
theorem dJ13_bitCount_95d88_17 : decode cJ13_bitCount_95d88 17 = .ok (.lushr, 1) := by decide +kernel
theorem dJ13_bitCount_95d88_18 : decode cJ13_bitCount_95d88 18 = .ok (.ldc2_w 316, 3) := by decide +kernel
theorem dJ13_bitCount_95d88_21 : decode cJ13_bitCount_95d88 21 = .ok (.land, 1) := by decide +kernel
theorem dJ13_bitCount_95d88_22 : decode cJ13_bitCount_95d88 22 = .ok (.ladd, 1) := by decide +kernel
theorem dJ13_bitCount_95d88_23 : decode cJ13_bitCount_95d88 23 = .ok (.lstore_n 0, 1) := by decide +kernel
theorem dJ13_bitCount_95d88_24 : decode cJ13_bitCount_95d88 24 = .ok (.lload_n 0, 1) := by decide +kernel
theorem dJ13_bitCount_95d88_25 : decode cJ13_bitCount_95d88 25 = .ok (.lload_n 0, 1) := by decide +kernel
theorem dJ13_bitCount_95d88_26 : decode cJ13_bitCount_95d88 26 = .ok (.iconst 4, 1) := by decide +kernel
theorem dJ13_bitCount_95d88_27 : decode cJ13_bitCount_95d88 27 = .ok (.lushr, 1) := by decide +kernel
theorem dJ13_bitCount_95d88_28 : decode cJ13_bitCount_95d88 28 = .ok (.ladd, 1) := by decide +kernel
theorem dJ13_bitCount_95d88_29 : decode cJ13_bitCount_95d88 29 = .ok (.ldc2_w 318, 3) := by decide +kernel
theorem dJ13_bitCount_95d88_32 : decode cJ13_bitCount_95d88 32 = .ok (.land, 1) := by decide +kernel
theorem dJ13_bitCount_95d88_33 : decode cJ13_bitCount_95d88 33 = .ok (.lstore_n 0, 1) := by decide +kernel
theorem dJ13_bitCount_95d88_34 : decode cJ13_bitCount_95d88 34 = .ok (.lload_n 0, 1) := by decide +kernel
theorem dJ13_bitCount_95d88_35 : decode cJ13_bitCount_95d88 35 = .ok (.lload_n 0, 1) := by decide +kernel
theorem dJ13_bitCount_95d88_36 : decode cJ13_bitCount_95d88 36 = .ok (.bipush 8, 2) := by decide +kernel
theorem dJ13_bitCount_95d88_38 : decode cJ13_bitCount_95d88 38 = .ok (.lushr, 1) := by decide +kernel
theorem dJ13_bitCount_95d88_39 : decode cJ13_bitCount_95d88 39 = .ok (.ladd, 1) := by decide +kernel
theorem dJ13_bitCount_95d88_40 : decode cJ13_bitCount_95d88 40 = .ok (.lstore_n 0, 1) := by decide +kernel
theorem dJ13_bitCount_95d88_41 : decode cJ13_bitCount_95d88 41 = .ok (.lload_n 0, 1) := by decide +kernel
theorem dJ13_bitCount_95d88_42 : decode cJ13_bitCount_95d88 42 = .ok (.lload_n 0, 1) := by decide +kernel
theorem dJ13_bitCount_95d88_43 : decode cJ13_bitCount_95d88 43 = .ok (.bipush 16, 2) := by decide +kernel
theorem dJ13_bitCount_95d88_45 : decode cJ13_bitCount_95d88 45 = .ok (.lushr, 1) := by decide +kernel
theorem dJ13_bitCount_95d88_46 : decode cJ13_bitCount_95d88 46 = .ok (.ladd, 1) := by decide +kernel
theorem dJ13_bitCount_95d88_47 : decode cJ13_bitCount_95d88 47 = .ok (.lstore_n 0, 1) := by decide +kernel
theorem dJ13_bitCount_95d88_48 : decode cJ13_bitCount_95d88 48 = .ok (.lload_n 0, 1) := by decide +kernel
theorem dJ13_bitCount_95d88_49 : decode cJ13_bitCount_95d88 49 = .ok (.lload_n 0, 1) := by decide +kernel
theorem dJ13_bitCount_95d88_50 : decode cJ13_bitCount_95d88 50 = .ok (.bipush 32, 2) := by decide +kernel
theorem dJ13_bitCount_95d88_52 : decode cJ13_bitCount_95d88 52 = .ok (.lushr, 1) := by decide +kernel
theorem dJ13_bitCount_95d88_53 : decode cJ13_bitCount_95d88 53 = .ok (.ladd, 1) := by decide +kernel
theorem dJ13_bitCount_95d88_54 : decode cJ13_bitCount_95d88 54 = .ok (.lstore_n 0, 1) := by decide +kernel
theorem dJ13_bitCount_95d88_55 : decode cJ13_bitCount_95d88 55 = .ok (.lload_n 0, 1) := by decide +kernel
theorem dJ13_bitCount_95d88_56 : decode cJ13_bitCount_95d88 56 = .ok (.l2i, 1) := by decide +kernel
theorem dJ13_bitCount_95d88_57 : decode cJ13_bitCount_95d88 57 = .ok (.bipush 127, 2) := by decide +kernel
theorem dJ13_bitCount_95d88_59 : decode cJ13_bitCount_95d88 59 = .ok (.iand, 1) := by decide +kernel
theorem dJ13_bitCount_95d88_60 : decode cJ13_bitCount_95d88 60 = .ok (.ireturn, 1) := by decide +kernel
end
section
/-- which array classes there are: of int, of long, of sheets -/
abbrev Gm : Type := va_G × ClassId × ClassId × ClassId
abbrev tyG (Γ : Gm) : List (ClassId × FieldType) := [(Γ.2.1, .int), (Γ.2.2.1, .long), (Γ.2.2.2, .object RX7)]
abbrev rmD (d : Nat) : Room := { frames := d, cells := 0, slots := 0, locals := 35 * d }
/-- locals by their numbers -/
def LV (ls : Array Slot) (nL : Nat) (lv : List (Option Value)) : Prop := ls.size = nL ∧ lv_wf ls ∧ ∀ (i : Nat) (v : Value), lv[i]? = some (some v) → ls[i]? = some (.val v)
def lvp : Nat → List (Option Value) → List (Nat × Value)
  | _, [] => []
  | k, none :: t => lvp (k + 1) t
  | k, some v :: t => (k, v) :: lvp (k + 1) t
theorem lvp_in : ∀ (lv : List (Option Value)) (k i : Nat) (v : Value), lv[i]? = some (some v) → (k + i, v) ∈ lvp k lv
  | [], k, i, v, h => by simp at h
  | none :: t, k, 0, v, h => by simp at h
  | none :: t, k, i + 1, v, h => by
    have := lvp_in t (k + 1) i v (by simpa using h)
    rw [show k + (i + 1) = k + 1 + i by omega]
    exact this
  | some w :: t, k, 0, v, h => by
    simp at h
    subst h
    exact List.mem_cons_self
  | some w :: t, k, i + 1, v, h => by
    have := lvp_in t (k + 1) i v (by simpa using h)
    rw [show k + (i + 1) = k + 1 + i by omega]
    exact List.mem_cons_of_mem _ this
theorem lvp_of : ∀ (lv : List (Option Value)) (k : Nat) (q : Nat × Value), q ∈ lvp k lv → ∃ i, q.1 = k + i ∧ lv[i]? = some (some q.2)
  | [], k, q, h => by cases h
  | none :: t, k, q, h => by
    obtain ⟨i, h1, h2⟩ := lvp_of t (k + 1) q h
    exact ⟨i + 1, by omega, by simpa using h2⟩
  | some w :: t, k, q, h => by
    rcases List.mem_cons.mp h with rfl | h
    · exact ⟨0, rfl, rfl⟩
    · obtain ⟨i, h1, h2⟩ := lvp_of t (k + 1) q h
      exact ⟨i + 1, by omega, by simpa using h2⟩
theorem LV.has {ls : Array Slot} {nL : Nat} {lv : List (Option Value)} (h : LV ls nL lv) : lv_has ls nL (lvp 0 lv) := ⟨h.1, h.2.1, fun q hq => by
  obtain ⟨i, h1, h2⟩ := lvp_of lv 0 q hq
  rw [h1, Nat.zero_add]
  exact h.2.2 i _ h2⟩
/-- no long lies just ahead of place i -/
def okst (lv : List (Option Value)) : Nat → Bool
  | 0 => true
  | j + 1 => match lv[j]? with
    | some (some (.long _)) => false
    | some (some (.double _)) => false
    | _ => true
theorem okst_spec {lv : List (Option Value)} {i j : Nat} {v : Value} (h : okst lv i = true) (hj : j + 1 = i) (hv : lv[j]? = some (some v)) : (v.category == 2) = false := by
  subst hj
  simp only [okst, hv] at h
  cases v <;> first | rfl | (simp at h)
theorem LV.st1 {ls : Array Slot} {nL : Nat} {lv : List (Option Value)} {i : Nat} {v : Value} (hok : okst lv i = true) (h : lv_has ls nL ((i, v) :: (lvp 0 lv).filter (fun q => !(q.1 == i) && !(q.1 + 1 == i && q.2.category == 2)))) : LV ls nL (lv.set i (some v)) := by
  refine ⟨h.1, h.2.1, fun j w hj => ?_⟩
  by_cases hij : i = j
  · subst hij
    have hl : i < lv.length := by
      have := (List.getElem?_eq_some_iff.mp hj).1
      simpa using this
    rw [List.getElem?_set_self hl] at hj
    cases hj
    exact h.2.2 (i, v) List.mem_cons_self
  · rw [List.getElem?_set_ne hij] at hj
    have hm := lvp_in lv 0 j w hj
    rw [Nat.zero_add] at hm
    refine h.2.2 (j, w) (List.mem_cons_of_mem _ (List.mem_filter.mpr ⟨hm, ?_⟩))
    have h1 : (j == i) = false := by simpa using fun q => hij q.symm
    by_cases h2 : j + 1 = i
    · simp [h1, okst_spec hok h2 hj]
    · simp [h1, h2]
theorem LV.st2 {ls : Array Slot} {nL : Nat} {lv : List (Option Value)} {i : Nat} {v : Value} (hok : okst lv i = true) (h : lv_has ls nL ((i, v) :: (lvp 0 lv).filter (fun q => !(q.1 == i) && (!(q.1 == i + 1) && !(q.1 + 1 == i && q.2.category == 2))))) : LV ls nL ((lv.set i (some v)).set (i + 1) none) := by
  refine ⟨h.1, h.2.1, fun j w hj => ?_⟩
  by_cases hj1 : i + 1 = j
  · subst hj1
    have hl : i + 1 < (lv.set i (some v)).length := by
      have := (List.getElem?_eq_some_iff.mp hj).1
      simpa using this
    rw [List.getElem?_set_self hl] at hj
    cases hj
  rw [List.getElem?_set_ne hj1] at hj
  by_cases hij : i = j
  · subst hij
    have hl : i < lv.length := by
      have := (List.getElem?_eq_some_iff.mp hj).1
      simpa using this
    rw [List.getElem?_set_self hl] at hj
    cases hj
    exact h.2.2 (i, v) List.mem_cons_self
  · rw [List.getElem?_set_ne hij] at hj
    have hm := lvp_in lv 0 j w hj
    rw [Nat.zero_add] at hm
    refine h.2.2 (j, w) (List.mem_cons_of_mem _ (List.mem_filter.mpr ⟨hm, ?_⟩))
    have h1 : (j == i) = false := by simpa using fun q => hij q.symm
    have h3 : (j == i + 1) = false := by simpa using fun q => hj1 q.symm
    by_cases h2 : j + 1 = i
    · simp [h1, h3, okst_spec hok h2 hj]
    · simp [h1, h2, h3]
/-- what a walk needs all along: the machine, the code, the words, the classes, the room -/
def Cx (p : Program) (R : Room) (s : State) (m : MethodId) (args : Array Value) (meth : Method) (c : Code) (cc : ByteArray) (own : String) (nL : Nat) (Γ : Gm) (A : Nat → Prop) (dd : Nat) : Prop :=
  p.tables.exec = Jvm.exec ∧ c.code = cc ∧ c.maxLocals = nL ∧ s.vm.findClass own = some m.cls ∧ (∀ w ∈ Tg, w.before args s = true) ∧ va_K Γ.1 vwCl (tyG Γ) s ∧ (∀ q, s.heap.size ≤ q → A q) ∧ meth.locks = false ∧ dd ≤ R.frames ∧ 35 * dd ≤ R.locals
section WWs
variable {p : Program} {l : Launch} {e : Env} {R : Room} {s : State} {m : MethodId} {args : Array Value} {below : List Frame} {meth : Method} {c : Code} {cells slots : Nat} {Q : State → Prop} {Γ : Gm} {A : Nat → Prop} {nL dd : Nat} {cc : ByteArray} {own : String} {ws : va_W} {pc : Nat} {lv : List (Option Value)} {st : List Value}
/-- the machine at pc, with a world, locals, a stack, comes to a state with Q -/
def WW (p : Program) (l : Launch) (e : Env) (R : Room) (s : State) (m : MethodId) (args : Array Value) (below : List Frame) (meth : Method) (c : Code) (cells slots : Nat) (Q : State → Prop) (Γ : Gm) (A : Nat → Prop) (nL : Nat) (ws : va_W) (pc : Nat) (lv : List (Option Value)) (st : List Value) : Prop :=
  ∀ (H : Heap) (locs : List Loc) (ls : Array Slot), va_P Γ.1 vwCl ws H → va_D A ws → va_S A s.heap H locs → LV ls nL lv → W p l e R s m args below meth c H locs cells slots Q (F0 m pc ls st)
theorem ww_eq {ws' : va_W} {lv' : List (Option Value)} {st' : List Value} (h1 : ws = ws') (h2 : lv = lv') (h3 : st = st') (k : WW p l e R s m args below meth c cells slots Q Γ A nL ws' pc lv' st') : WW p l e R s m args below meth c cells slots Q Γ A nL ws pc lv st := by
  subst h1; subst h2; subst h3; exact k
/-- fewer locals may be known -/
def lvle : List (Option Value) → List (Option Value) → Prop := fun a b => ∀ (i : Nat) (v : Value), a[i]? = some (some v) → b[i]? = some (some v)
theorem ww_lv {lv' : List (Option Value)} (h : lvle lv' lv) (k : WW p l e R s m args below meth c cells slots Q Γ A nL ws pc lv' st) : WW p l e R s m args below meth c cells slots Q Γ A nL ws pc lv st :=
  fun H locs ls hP hD hS hl => k H locs ls hP hD hS ⟨hl.1, hl.2.1, fun i v hi => hl.2.2 i v (h i v hi)⟩
theorem lvle_nil : lvle [] lv := fun i v h => by simp at h
theorem lvle_none {a b : List (Option Value)} {x : Option Value} (h : lvle a b) : lvle (none :: a) (x :: b) := fun i v hi => by
  cases i with
  | zero => simp at hi
  | succ i => simpa using h i v (by simpa using hi)
theorem lvle_same {a b : List (Option Value)} {x : Option Value} (h : lvle a b) : lvle (x :: a) (x :: b) := fun i v hi => by
  cases i with
  | zero => simpa using hi
  | succ i => simpa using h i v (by simpa using hi)
theorem ww_topi {x : Int32} (k : ∀ y : Int32, y = x → WW p l e R s m args below meth c cells slots Q Γ A nL ws pc lv (.int y :: st)) : WW p l e R s m args below meth c cells slots Q Γ A nL ws pc lv (.int x :: st) := k x rfl
theorem ww_topl {x : Int64} (k : ∀ y : Int64, y = x → WW p l e R s m args below meth c cells slots Q Γ A nL ws pc lv (.long y :: st)) : WW p l e R s m args below meth c cells slots Q Γ A nL ws pc lv (.long x :: st) := k x rfl

theorem ww_iconst (C : Cx p R s m args meth c cc own nL Γ A dd) {n : Int} {v : Int32} (hd : decode cc pc = .ok (.iconst n, 1)) (hv : Int32.ofInt n = v) (pc2 : Nat) (hpc : pc + 1 = pc2) (k : WW p l e R s m args below meth c cells slots Q Γ A nL ws pc2 lv (.int v :: st)) : WW p l e R s m args below meth c cells slots Q Γ A nL ws pc lv st := by
  subst hpc
  exact fun H locs ls hP hD hS hl => lv_iconst C.1 C.2.1 hd hv (k H locs ls hP hD hS hl)
theorem ww_bipush (C : Cx p R s m args meth c cc own nL Γ A dd) {n : Int} {v : Int32} (hd : decode cc pc = .ok (.bipush n, 2)) (hv : (Int8.ofInt n).toInt32 = v) (pc2 : Nat) (hpc : pc + 2 = pc2) (k : WW p l e R s m args below meth c cells slots Q Γ A nL ws pc2 lv (.int v :: st)) : WW p l e R s m args below meth c cells slots Q Γ A nL ws pc lv st := by
  subst hpc
  exact fun H locs ls hP hD hS hl => lv_bipush C.1 C.2.1 hd hv (k H locs ls hP hD hS hl)
theorem ww_sipush (C : Cx p R s m args meth c cc own nL Γ A dd) {n : Int} {v : Int32} (hd : decode cc pc = .ok (.sipush n, 3)) (hv : (Int16.ofInt n).toInt32 = v) (pc2 : Nat) (hpc : pc + 3 = pc2) (k : WW p l e R s m args below meth c cells slots Q Γ A nL ws pc2 lv (.int v :: st)) : WW p l e R s m args below meth c cells slots Q Γ A nL ws pc lv st := by
  subst hpc
  exact fun H locs ls hP hD hS hl => lv_sipush C.1 C.2.1 hd hv (k H locs ls hP hD hS hl)
theorem ww_lconst (C : Cx p R s m args meth c cc own nL Γ A dd) {n : Fin 2} {v : Int64} (hd : decode cc pc = .ok (.lconst n, 1)) (hv : Int64.ofNat (n : Nat) = v) (pc2 : Nat) (hpc : pc + 1 = pc2) (k : WW p l e R s m args below meth c cells slots Q Γ A nL ws pc2 lv (.long v :: st)) : WW p l e R s m args below meth c cells slots Q Γ A nL ws pc lv st := by
  subst hpc
  exact fun H locs ls hP hD hS hl => lv_lconst C.1 C.2.1 hd hv (k H locs ls hP hD hS hl)
theorem ww_ldc (C : Cx p R s m args meth c cc own nL Γ A dd) {index : Nat} {v : Int32} (hw : Cond.constant own index v ∈ Tg) (hd : decode cc pc = .ok (.ldc index, 2)) (pc2 : Nat) (hpc : pc + 2 = pc2) (k : WW p l e R s m args below meth c cells slots Q Γ A nL ws pc2 lv (.int v :: st)) : WW p l e R s m args below meth c cells slots Q Γ A nL ws pc lv st := by
  subst hpc
  exact fun H locs ls hP hD hS hl => lv_ldc C.1 C.2.1 C.2.2.2.1 (C.2.2.2.2.1 _ hw) hd (k H locs ls hP hD hS hl)
theorem ww_ldcw (C : Cx p R s m args meth c cc own nL Γ A dd) {index : Nat} {v : Int32} (hw : Cond.constant own index v ∈ Tg) (hd : decode cc pc = .ok (.ldc_w index, 3)) (pc2 : Nat) (hpc : pc + 3 = pc2) (k : WW p l e R s m args below meth c cells slots Q Γ A nL ws pc2 lv (.int v :: st)) : WW p l e R s m args below meth c cells slots Q Γ A nL ws pc lv st := by
  subst hpc
  exact fun H locs ls hP hD hS hl => lv_ldcw C.1 C.2.1 C.2.2.2.1 (C.2.2.2.2.1 _ hw) hd (k H locs ls hP hD hS hl)
theorem ww_ldc2 (C : Cx p R s m args meth c cc own nL Γ A dd) {index : Nat} {v : Int64} (hw : Cond.constantLong own index v ∈ Tg) (hd : decode cc pc = .ok (.ldc2_w index, 3)) (pc2 : Nat) (hpc : pc + 3 = pc2) (k : WW p l e R s m args below meth c cells slots Q Γ A nL ws pc2 lv (.long v :: st)) : WW p l e R s m args below meth c cells slots Q Γ A nL ws pc lv st := by
  subst hpc
  exact fun H locs ls hP hD hS hl => lv_ldc2 C.1 C.2.1 C.2.2.2.1 (C.2.2.2.2.1 _ hw) hd (k H locs ls hP hD hS hl)
theorem ww_iload_n (C : Cx p R s m args meth c cc own nL Γ A dd) {k0 : Fin 4} {i : Nat} {x : Int32} (hd : decode cc pc = .ok (.iload_n k0, 1)) (hi : (k0 : Nat) = i) (hv : lv[i]? = some (some (.int x))) (pc2 : Nat) (hpc : pc + 1 = pc2) (k : WW p l e R s m args below meth c cells slots Q Γ A nL ws pc2 lv (.int x :: st)) : WW p l e R s m args below meth c cells slots Q Γ A nL ws pc lv st := by
  subst hpc
  exact fun H locs ls hP hD hS hl => lv_iload_n C.1 C.2.1 hd hi (hl.2.2 _ _ hv) (k H locs ls hP hD hS hl)
theorem ww_iload (C : Cx p R s m args meth c cc own nL Γ A dd) {i : Nat} {x : Int32} (hd : decode cc pc = .ok (.iload i, 2)) (hv : lv[i]? = some (some (.int x))) (pc2 : Nat) (hpc : pc + 2 = pc2) (k : WW p l e R s m args below meth c cells slots Q Γ A nL ws pc2 lv (.int x :: st)) : WW p l e R s m args below meth c cells slots Q Γ A nL ws pc lv st := by
  subst hpc
  exact fun H locs ls hP hD hS hl => lv_iload C.1 C.2.1 hd (hl.2.2 _ _ hv) (k H locs ls hP hD hS hl)
theorem ww_lload_n (C : Cx p R s m args meth c cc own nL Γ A dd) {k0 : Fin 4} {i : Nat} {x : Int64} (hd : decode cc pc = .ok (.lload_n k0, 1)) (hi : (k0 : Nat) = i) (hv : lv[i]? = some (some (.long x))) (pc2 : Nat) (hpc : pc + 1 = pc2) (k : WW p l e R s m args below meth c cells slots Q Γ A nL ws pc2 lv (.long x :: st)) : WW p l e R s m args below meth c cells slots Q Γ A nL ws pc lv st := by
  subst hpc
  exact fun H locs ls hP hD hS hl => lv_lload_n C.1 C.2.1 hd hi (hl.2.2 _ _ hv) (k H locs ls hP hD hS hl)
theorem ww_lload (C : Cx p R s m args meth c cc own nL Γ A dd) {i : Nat} {x : Int64} (hd : decode cc pc = .ok (.lload i, 2)) (hv : lv[i]? = some (some (.long x))) (pc2 : Nat) (hpc : pc + 2 = pc2) (k : WW p l e R s m args below meth c cells slots Q Γ A nL ws pc2 lv (.long x :: st)) : WW p l e R s m args below meth c cells slots Q Γ A nL ws pc lv st := by
  subst hpc
  exact fun H locs ls hP hD hS hl => lv_lload C.1 C.2.1 hd (hl.2.2 _ _ hv) (k H locs ls hP hD hS hl)
theorem ww_aload_n (C : Cx p R s m args meth c cc own nL Γ A dd) {k0 : Fin 4} {i : Nat} {x : Nat} (hd : decode cc pc = .ok (.aload_n k0, 1)) (hi : (k0 : Nat) = i) (hv : lv[i]? = some (some (.ref x))) (pc2 : Nat) (hpc : pc + 1 = pc2) (k : WW p l e R s m args below meth c cells slots Q Γ A nL ws pc2 lv (.ref x :: st)) : WW p l e R s m args below meth c cells slots Q Γ A nL ws pc lv st := by
  subst hpc
  exact fun H locs ls hP hD hS hl => lv_aload_n C.1 C.2.1 hd hi (hl.2.2 _ _ hv) (k H locs ls hP hD hS hl)
theorem ww_aload (C : Cx p R s m args meth c cc own nL Γ A dd) {i : Nat} {x : Nat} (hd : decode cc pc = .ok (.aload i, 2)) (hv : lv[i]? = some (some (.ref x))) (pc2 : Nat) (hpc : pc + 2 = pc2) (k : WW p l e R s m args below meth c cells slots Q Γ A nL ws pc2 lv (.ref x :: st)) : WW p l e R s m args below meth c cells slots Q Γ A nL ws pc lv st := by
  subst hpc
  exact fun H locs ls hP hD hS hl => lv_aload C.1 C.2.1 hd (hl.2.2 _ _ hv) (k H locs ls hP hD hS hl)
theorem ww_istore_n (C : Cx p R s m args meth c cc own nL Γ A dd) {k0 : Fin 4} {i : Nat} {x : Int32} (hd : decode cc pc = .ok (.istore_n k0, 1)) (hi : (k0 : Nat) = i) (hn : i < nL) (hok : okst lv i = true) (pc2 : Nat) (hpc : pc + 1 = pc2) (k : WW p l e R s m args below meth c cells slots Q Γ A nL ws pc2 (lv.set i (some (Value.int x))) st) : WW p l e R s m args below meth c cells slots Q Γ A nL ws pc lv (Value.int x :: st) := by
  subst hpc
  exact fun H locs ls hP hD hS hl => lv_istore_n C.1 C.2.1 hd hi hl.has hn rfl (fun ls hl => k H locs ls hP hD hS (LV.st1 hok hl))
theorem ww_istore (C : Cx p R s m args meth c cc own nL Γ A dd) {i : Nat} {x : Int32} (hd : decode cc pc = .ok (.istore i, 2)) (hn : i < nL) (hok : okst lv i = true) (pc2 : Nat) (hpc : pc + 2 = pc2) (k : WW p l e R s m args below meth c cells slots Q Γ A nL ws pc2 (lv.set i (some (Value.int x))) st) : WW p l e R s m args below meth c cells slots Q Γ A nL ws pc lv (Value.int x :: st) := by
  subst hpc
  exact fun H locs ls hP hD hS hl => lv_istore C.1 C.2.1 hd hl.has hn rfl (fun ls hl => k H locs ls hP hD hS (LV.st1 hok hl))
theorem ww_astore_n (C : Cx p R s m args meth c cc own nL Γ A dd) {k0 : Fin 4} {i : Nat} {x : Nat} (hd : decode cc pc = .ok (.astore_n k0, 1)) (hi : (k0 : Nat) = i) (hn : i < nL) (hok : okst lv i = true) (pc2 : Nat) (hpc : pc + 1 = pc2) (k : WW p l e R s m args below meth c cells slots Q Γ A nL ws pc2 (lv.set i (some (Value.ref x))) st) : WW p l e R s m args below meth c cells slots Q Γ A nL ws pc lv (Value.ref x :: st) := by
  subst hpc
  exact fun H locs ls hP hD hS hl => lv_astore_n C.1 C.2.1 hd hi hl.has hn rfl (fun ls hl => k H locs ls hP hD hS (LV.st1 hok hl))
theorem ww_astore (C : Cx p R s m args meth c cc own nL Γ A dd) {i : Nat} {x : Nat} (hd : decode cc pc = .ok (.astore i, 2)) (hn : i < nL) (hok : okst lv i = true) (pc2 : Nat) (hpc : pc + 2 = pc2) (k : WW p l e R s m args below meth c cells slots Q Γ A nL ws pc2 (lv.set i (some (Value.ref x))) st) : WW p l e R s m args below meth c cells slots Q Γ A nL ws pc lv (Value.ref x :: st) := by
  subst hpc
  exact fun H locs ls hP hD hS hl => lv_astore C.1 C.2.1 hd hl.has hn rfl (fun ls hl => k H locs ls hP hD hS (LV.st1 hok hl))
theorem ww_lstore_n (C : Cx p R s m args meth c cc own nL Γ A dd) {k0 : Fin 4} {i : Nat} {x : Int64} (hd : decode cc pc = .ok (.lstore_n k0, 1)) (hi : (k0 : Nat) = i) (hn : i + 1 < nL) (hok : okst lv i = true) (pc2 : Nat) (hpc : pc + 1 = pc2) (k : WW p l e R s m args below meth c cells slots Q Γ A nL ws pc2 ((lv.set i (some (Value.long x))).set (i + 1) none) st) : WW p l e R s m args below meth c cells slots Q Γ A nL ws pc lv (Value.long x :: st) := by
  subst hpc
  exact fun H locs ls hP hD hS hl => lv_lstore_n C.1 C.2.1 hd hi hl.has hn rfl (fun ls hl => k H locs ls hP hD hS (LV.st2 hok hl))
theorem ww_lstore (C : Cx p R s m args meth c cc own nL Γ A dd) {i : Nat} {x : Int64} (hd : decode cc pc = .ok (.lstore i, 2)) (hn : i + 1 < nL) (hok : okst lv i = true) (pc2 : Nat) (hpc : pc + 2 = pc2) (k : WW p l e R s m args below meth c cells slots Q Γ A nL ws pc2 ((lv.set i (some (Value.long x))).set (i + 1) none) st) : WW p l e R s m args below meth c cells slots Q Γ A nL ws pc lv (Value.long x :: st) := by
  subst hpc
  exact fun H locs ls hP hD hS hl => lv_lstore C.1 C.2.1 hd hl.has hn rfl (fun ls hl => k H locs ls hP hD hS (LV.st2 hok hl))
theorem ww_iinc (C : Cx p R s m args meth c cc own nL Γ A dd) {i : Nat} {n : Int} {x y : Int32} (hd : decode cc pc = .ok (.iinc i n, 3)) (hv : lv[i]? = some (some (.int x))) (hy : Int32.ofInt n = y) (hn : i < nL) (hok : okst lv i = true) (pc2 : Nat) (hpc : pc + 3 = pc2) (k : WW p l e R s m args below meth c cells slots Q Γ A nL ws pc2 (lv.set i (some (.int (x + y)))) st) : WW p l e R s m args below meth c cells slots Q Γ A nL ws pc lv st := by
  subst hpc
  intro H locs ls hP hD hS hl
  have hm := lvp_in lv 0 i _ hv
  rw [Nat.zero_add] at hm
  obtain ⟨q, hq⟩ := List.getElem?_of_mem hm
  exact lv_iinc C.1 C.2.1 hd hl.has hq (by rw [hy]) hn rfl (fun ls hl => k H locs ls hP hD hS (LV.st1 hok hl))
theorem ww_iadd (C : Cx p R s m args meth c cc own nL Γ A dd) {x y : Int32} (hd : decode cc pc = .ok (.iadd, 1)) (pc2 : Nat) (hpc : pc + 1 = pc2) (k : WW p l e R s m args below meth c cells slots Q Γ A nL ws pc2 lv (.int (x + y) :: st)) : WW p l e R s m args below meth c cells slots Q Γ A nL ws pc lv (.int y :: .int x :: st) := by
  subst hpc
  exact fun H locs ls hP hD hS hl => lv_iadd C.1 C.2.1 hd (k H locs ls hP hD hS hl)
theorem ww_isub (C : Cx p R s m args meth c cc own nL Γ A dd) {x y : Int32} (hd : decode cc pc = .ok (.isub, 1)) (pc2 : Nat) (hpc : pc + 1 = pc2) (k : WW p l e R s m args below meth c cells slots Q Γ A nL ws pc2 lv (.int (x - y) :: st)) : WW p l e R s m args below meth c cells slots Q Γ A nL ws pc lv (.int y :: .int x :: st) := by
  subst hpc
  exact fun H locs ls hP hD hS hl => lv_isub C.1 C.2.1 hd (k H locs ls hP hD hS hl)
theorem ww_imul (C : Cx p R s m args meth c cc own nL Γ A dd) {x y : Int32} (hd : decode cc pc = .ok (.imul, 1)) (pc2 : Nat) (hpc : pc + 1 = pc2) (k : WW p l e R s m args below meth c cells slots Q Γ A nL ws pc2 lv (.int (x * y) :: st)) : WW p l e R s m args below meth c cells slots Q Γ A nL ws pc lv (.int y :: .int x :: st) := by
  subst hpc
  exact fun H locs ls hP hD hS hl => lv_imul C.1 C.2.1 hd (k H locs ls hP hD hS hl)
theorem ww_iand (C : Cx p R s m args meth c cc own nL Γ A dd) {x y : Int32} (hd : decode cc pc = .ok (.iand, 1)) (pc2 : Nat) (hpc : pc + 1 = pc2) (k : WW p l e R s m args below meth c cells slots Q Γ A nL ws pc2 lv (.int (x &&& y) :: st)) : WW p l e R s m args below meth c cells slots Q Γ A nL ws pc lv (.int y :: .int x :: st) := by
  subst hpc
  exact fun H locs ls hP hD hS hl => lv_iand C.1 C.2.1 hd (k H locs ls hP hD hS hl)
theorem ww_ior (C : Cx p R s m args meth c cc own nL Γ A dd) {x y : Int32} (hd : decode cc pc = .ok (.ior, 1)) (pc2 : Nat) (hpc : pc + 1 = pc2) (k : WW p l e R s m args below meth c cells slots Q Γ A nL ws pc2 lv (.int (x ||| y) :: st)) : WW p l e R s m args below meth c cells slots Q Γ A nL ws pc lv (.int y :: .int x :: st) := by
  subst hpc
  exact fun H locs ls hP hD hS hl => lv_ior C.1 C.2.1 hd (k H locs ls hP hD hS hl)
theorem ww_ixor (C : Cx p R s m args meth c cc own nL Γ A dd) {x y : Int32} (hd : decode cc pc = .ok (.ixor, 1)) (pc2 : Nat) (hpc : pc + 1 = pc2) (k : WW p l e R s m args below meth c cells slots Q Γ A nL ws pc2 lv (.int (x ^^^ y) :: st)) : WW p l e R s m args below meth c cells slots Q Γ A nL ws pc lv (.int y :: .int x :: st) := by
  subst hpc
  exact fun H locs ls hP hD hS hl => lv_ixor C.1 C.2.1 hd (k H locs ls hP hD hS hl)
theorem ww_ishl (C : Cx p R s m args meth c cc own nL Γ A dd) {x y : Int32} (hd : decode cc pc = .ok (.ishl, 1)) (pc2 : Nat) (hpc : pc + 1 = pc2) (k : WW p l e R s m args below meth c cells slots Q Γ A nL ws pc2 lv (.int (x <<< (y &&& 31)) :: st)) : WW p l e R s m args below meth c cells slots Q Γ A nL ws pc lv (.int y :: .int x :: st) := by
  subst hpc
  exact fun H locs ls hP hD hS hl => lv_ishl C.1 C.2.1 hd (k H locs ls hP hD hS hl)
theorem ww_ishr (C : Cx p R s m args meth c cc own nL Γ A dd) {x y : Int32} (hd : decode cc pc = .ok (.ishr, 1)) (pc2 : Nat) (hpc : pc + 1 = pc2) (k : WW p l e R s m args below meth c cells slots Q Γ A nL ws pc2 lv (.int (x >>> (y &&& 31)) :: st)) : WW p l e R s m args below meth c cells slots Q Γ A nL ws pc lv (.int y :: .int x :: st) := by
  subst hpc
  exact fun H locs ls hP hD hS hl => lv_ishr C.1 C.2.1 hd (k H locs ls hP hD hS hl)
theorem ww_ineg (C : Cx p R s m args meth c cc own nL Γ A dd) {x : Int32} (hd : decode cc pc = .ok (.ineg, 1)) (pc2 : Nat) (hpc : pc + 1 = pc2) (k : WW p l e R s m args below meth c cells slots Q Γ A nL ws pc2 lv (.int (-x) :: st)) : WW p l e R s m args below meth c cells slots Q Γ A nL ws pc lv (.int x :: st) := by
  subst hpc
  exact fun H locs ls hP hD hS hl => lv_ineg C.1 C.2.1 hd (k H locs ls hP hD hS hl)
theorem ww_irem (C : Cx p R s m args meth c cc own nL Γ A dd) {x y : Int32} (hd : decode cc pc = .ok (.irem, 1)) (hne : ¬ y = 0) (pc2 : Nat) (hpc : pc + 1 = pc2) (k : WW p l e R s m args below meth c cells slots Q Γ A nL ws pc2 lv (.int (x - x / y * y) :: st)) : WW p l e R s m args below meth c cells slots Q Γ A nL ws pc lv (.int y :: .int x :: st) := by
  subst hpc
  exact fun H locs ls hP hD hS hl => lv_irem C.1 C.2.1 hd hne (k H locs ls hP hD hS hl)
theorem ww_ladd (C : Cx p R s m args meth c cc own nL Γ A dd) {x y : Int64} (hd : decode cc pc = .ok (.ladd, 1)) (pc2 : Nat) (hpc : pc + 1 = pc2) (k : WW p l e R s m args below meth c cells slots Q Γ A nL ws pc2 lv (.long (x + y) :: st)) : WW p l e R s m args below meth c cells slots Q Γ A nL ws pc lv (.long y :: .long x :: st) := by
  subst hpc
  exact fun H locs ls hP hD hS hl => lv_ladd C.1 C.2.1 hd (k H locs ls hP hD hS hl)
theorem ww_lsub (C : Cx p R s m args meth c cc own nL Γ A dd) {x y : Int64} (hd : decode cc pc = .ok (.lsub, 1)) (pc2 : Nat) (hpc : pc + 1 = pc2) (k : WW p l e R s m args below meth c cells slots Q Γ A nL ws pc2 lv (.long (x - y) :: st)) : WW p l e R s m args below meth c cells slots Q Γ A nL ws pc lv (.long y :: .long x :: st) := by
  subst hpc
  exact fun H locs ls hP hD hS hl => lv_lsub C.1 C.2.1 hd (k H locs ls hP hD hS hl)
theorem ww_land (C : Cx p R s m args meth c cc own nL Γ A dd) {x y : Int64} (hd : decode cc pc = .ok (.land, 1)) (pc2 : Nat) (hpc : pc + 1 = pc2) (k : WW p l e R s m args below meth c cells slots Q Γ A nL ws pc2 lv (.long (x &&& y) :: st)) : WW p l e R s m args below meth c cells slots Q Γ A nL ws pc lv (.long y :: .long x :: st) := by
  subst hpc
  exact fun H locs ls hP hD hS hl => lv_land C.1 C.2.1 hd (k H locs ls hP hD hS hl)
theorem ww_lor (C : Cx p R s m args meth c cc own nL Γ A dd) {x y : Int64} (hd : decode cc pc = .ok (.lor, 1)) (pc2 : Nat) (hpc : pc + 1 = pc2) (k : WW p l e R s m args below meth c cells slots Q Γ A nL ws pc2 lv (.long (x ||| y) :: st)) : WW p l e R s m args below meth c cells slots Q Γ A nL ws pc lv (.long y :: .long x :: st) := by
  subst hpc
  exact fun H locs ls hP hD hS hl => lv_lor C.1 C.2.1 hd (k H locs ls hP hD hS hl)
theorem ww_lxor (C : Cx p R s m args meth c cc own nL Γ A dd) {x y : Int64} (hd : decode cc pc = .ok (.lxor, 1)) (pc2 : Nat) (hpc : pc + 1 = pc2) (k : WW p l e R s m args below meth c cells slots Q Γ A nL ws pc2 lv (.long (x ^^^ y) :: st)) : WW p l e R s m args below meth c cells slots Q Γ A nL ws pc lv (.long y :: .long x :: st) := by
  subst hpc
  exact fun H locs ls hP hD hS hl => lv_lxor C.1 C.2.1 hd (k H locs ls hP hD hS hl)
theorem ww_i2l (C : Cx p R s m args meth c cc own nL Γ A dd) {x : Int32} (hd : decode cc pc = .ok (.i2l, 1)) (pc2 : Nat) (hpc : pc + 1 = pc2) (k : WW p l e R s m args below meth c cells slots Q Γ A nL ws pc2 lv (.long x.toInt64 :: st)) : WW p l e R s m args below meth c cells slots Q Γ A nL ws pc lv (.int x :: st) := by
  subst hpc
  exact fun H locs ls hP hD hS hl => lv_i2l C.1 C.2.1 hd rfl (k H locs ls hP hD hS hl)
theorem ww_l2i (C : Cx p R s m args meth c cc own nL Γ A dd) {x : Int64} (hd : decode cc pc = .ok (.l2i, 1)) (pc2 : Nat) (hpc : pc + 1 = pc2) (k : WW p l e R s m args below meth c cells slots Q Γ A nL ws pc2 lv (.int x.toInt32 :: st)) : WW p l e R s m args below meth c cells slots Q Γ A nL ws pc lv (.long x :: st) := by
  subst hpc
  exact fun H locs ls hP hD hS hl => lv_l2i C.1 C.2.1 hd rfl (k H locs ls hP hD hS hl)
theorem ww_i2b (C : Cx p R s m args meth c cc own nL Γ A dd) {x : Int32} (hd : decode cc pc = .ok (.i2b, 1)) (pc2 : Nat) (hpc : pc + 1 = pc2) (k : WW p l e R s m args below meth c cells slots Q Γ A nL ws pc2 lv (.int x.toInt8.toInt32 :: st)) : WW p l e R s m args below meth c cells slots Q Γ A nL ws pc lv (.int x :: st) := by
  subst hpc
  exact fun H locs ls hP hD hS hl => lv_i2b C.1 C.2.1 hd rfl (k H locs ls hP hD hS hl)
theorem ww_i2s (C : Cx p R s m args meth c cc own nL Γ A dd) {x : Int32} (hd : decode cc pc = .ok (.i2s, 1)) (pc2 : Nat) (hpc : pc + 1 = pc2) (k : WW p l e R s m args below meth c cells slots Q Γ A nL ws pc2 lv (.int x.toInt16.toInt32 :: st)) : WW p l e R s m args below meth c cells slots Q Γ A nL ws pc lv (.int x :: st) := by
  subst hpc
  exact fun H locs ls hP hD hS hl => lv_i2s C.1 C.2.1 hd rfl (k H locs ls hP hD hS hl)
abbrev iushrI (x y : Int32) : Int32 := (x.toUInt32 >>> (y.toUInt32 &&& Int32.toUInt32 31)).toInt32
abbrev lushrI (x : Int64) (y : Int32) : Int64 := (x.toUInt64 >>> (y.toInt64.toUInt64 &&& Int64.toUInt64 63)).toInt64
theorem ww_iushr (C : Cx p R s m args meth c cc own nL Γ A dd) {x y : Int32} (hd : decode cc pc = .ok (.iushr, 1)) (pc2 : Nat) (hpc : pc + 1 = pc2) (k : WW p l e R s m args below meth c cells slots Q Γ A nL ws pc2 lv (.int (iushrI x y) :: st)) : WW p l e R s m args below meth c cells slots Q Γ A nL ws pc lv (.int y :: .int x :: st) := by
  subst hpc
  exact fun H locs ls hP hD hS hl => lv_iushr C.1 C.2.1 hd rfl (k H locs ls hP hD hS hl)
theorem ww_lushr (C : Cx p R s m args meth c cc own nL Γ A dd) {x : Int64} {y : Int32} (hd : decode cc pc = .ok (.lushr, 1)) (pc2 : Nat) (hpc : pc + 1 = pc2) (k : WW p l e R s m args below meth c cells slots Q Γ A nL ws pc2 lv (.long (lushrI x y) :: st)) : WW p l e R s m args below meth c cells slots Q Γ A nL ws pc lv (.int y :: .long x :: st) := by
  subst hpc
  exact fun H locs ls hP hD hS hl => lv_lushr C.1 C.2.1 hd rfl (k H locs ls hP hD hS hl)
theorem ww_lshl (C : Cx p R s m args meth c cc own nL Γ A dd) {x : Int64} {y : Int32} (hd : decode cc pc = .ok (.lshl, 1)) (pc2 : Nat) (hpc : pc + 1 = pc2) (k : WW p l e R s m args below meth c cells slots Q Γ A nL ws pc2 lv (.long (x <<< (y.toInt64 &&& 63)) :: st)) : WW p l e R s m args below meth c cells slots Q Γ A nL ws pc lv (.int y :: .long x :: st) := by
  subst hpc
  exact fun H locs ls hP hD hS hl => lv_lshl C.1 C.2.1 hd rfl (k H locs ls hP hD hS hl)
theorem ww_lshr (C : Cx p R s m args meth c cc own nL Γ A dd) {x : Int64} {y : Int32} (hd : decode cc pc = .ok (.lshr, 1)) (pc2 : Nat) (hpc : pc + 1 = pc2) (k : WW p l e R s m args below meth c cells slots Q Γ A nL ws pc2 lv (.long (x >>> (y.toInt64 &&& 63)) :: st)) : WW p l e R s m args below meth c cells slots Q Γ A nL ws pc lv (.int y :: .long x :: st) := by
  subst hpc
  exact fun H locs ls hP hD hS hl => lv_lshr C.1 C.2.1 hd rfl (k H locs ls hP hD hS hl)
theorem ww_lcmp (C : Cx p R s m args meth c cc own nL Γ A dd) {x y : Int64} (hd : decode cc pc = .ok (.lcmp, 1)) (pc2 : Nat) (hpc : pc + 1 = pc2) (k : WW p l e R s m args below meth c cells slots Q Γ A nL ws pc2 lv (.int (lg_cmp x y) :: st)) : WW p l e R s m args below meth c cells slots Q Γ A nL ws pc lv (.long y :: .long x :: st) := by
  subst hpc
  exact fun H locs ls hP hD hS hl => W.lcmp C.1 C.2.1 hd (k H locs ls hP hD hS hl)
theorem ww_dup (C : Cx p R s m args meth c cc own nL Γ A dd) {v : Value} (hd : decode cc pc = .ok (.dup, 1)) (hv : v.category = 1) (pc2 : Nat) (hpc : pc + 1 = pc2) (k : WW p l e R s m args below meth c cells slots Q Γ A nL ws pc2 lv (v :: v :: st)) : WW p l e R s m args below meth c cells slots Q Γ A nL ws pc lv (v :: st) := by
  subst hpc
  exact fun H locs ls hP hD hS hl => lv_dup C.1 C.2.1 hd hv (k H locs ls hP hD hS hl)
theorem ww_dup2 (C : Cx p R s m args meth c cc own nL Γ A dd) {v w : Value} (hd : decode cc pc = .ok (.dup2, 1)) (hv : v.category = 1) (hw : w.category = 1) (pc2 : Nat) (hpc : pc + 1 = pc2) (k : WW p l e R s m args below meth c cells slots Q Γ A nL ws pc2 lv (v :: w :: v :: w :: st)) : WW p l e R s m args below meth c cells slots Q Γ A nL ws pc lv (v :: w :: st) := by
  subst hpc
  exact fun H locs ls hP hD hS hl => lv_dup2_11 C.1 C.2.1 hd hv hw (k H locs ls hP hD hS hl)
theorem ww_if_eq (C : Cx p R s m args meth c cc own nL Γ A dd) {x : Int32} {off : Int} (tgt : Nat) (hd : decode cc pc = .ok (.ifCond .eq off, 3)) (ht : (pc : Int) + off = (tgt : Int)) (pc2 : Nat) (hpc : pc + 3 = pc2) (kt : x = 0 → WW p l e R s m args below meth c cells slots Q Γ A nL ws tgt lv st) (kf : ¬ (x = 0) → WW p l e R s m args below meth c cells slots Q Γ A nL ws pc2 lv st) : WW p l e R s m args below meth c cells slots Q Γ A nL ws pc lv (.int x :: st) := by
  subst hpc
  exact fun H locs ls hP hD hS hl => lv_if_eq C.1 C.2.1 hd ht (fun h => kt h H locs ls hP hD hS hl) (fun h => kf h H locs ls hP hD hS hl)
theorem ww_icmp_eq (C : Cx p R s m args meth c cc own nL Γ A dd) {x y : Int32} {off : Int} (tgt : Nat) (hd : decode cc pc = .ok (.if_icmp .eq off, 3)) (ht : (pc : Int) + off = (tgt : Int)) (pc2 : Nat) (hpc : pc + 3 = pc2) (kt : x = y → WW p l e R s m args below meth c cells slots Q Γ A nL ws tgt lv st) (kf : ¬ (x = y) → WW p l e R s m args below meth c cells slots Q Γ A nL ws pc2 lv st) : WW p l e R s m args below meth c cells slots Q Γ A nL ws pc lv (.int y :: .int x :: st) := by
  subst hpc
  exact fun H locs ls hP hD hS hl => lv_icmp_eq C.1 C.2.1 hd ht (fun h => kt h H locs ls hP hD hS hl) (fun h => kf h H locs ls hP hD hS hl)
theorem ww_if_ne (C : Cx p R s m args meth c cc own nL Γ A dd) {x : Int32} {off : Int} (tgt : Nat) (hd : decode cc pc = .ok (.ifCond .ne off, 3)) (ht : (pc : Int) + off = (tgt : Int)) (pc2 : Nat) (hpc : pc + 3 = pc2) (kt : ¬ x = 0 → WW p l e R s m args below meth c cells slots Q Γ A nL ws tgt lv st) (kf : x = 0 → WW p l e R s m args below meth c cells slots Q Γ A nL ws pc2 lv st) : WW p l e R s m args below meth c cells slots Q Γ A nL ws pc lv (.int x :: st) := by
  subst hpc
  exact fun H locs ls hP hD hS hl => lv_if_ne C.1 C.2.1 hd ht (fun h => kt h H locs ls hP hD hS hl) (fun h => kf h H locs ls hP hD hS hl)
theorem ww_icmp_ne (C : Cx p R s m args meth c cc own nL Γ A dd) {x y : Int32} {off : Int} (tgt : Nat) (hd : decode cc pc = .ok (.if_icmp .ne off, 3)) (ht : (pc : Int) + off = (tgt : Int)) (pc2 : Nat) (hpc : pc + 3 = pc2) (kt : ¬ x = y → WW p l e R s m args below meth c cells slots Q Γ A nL ws tgt lv st) (kf : x = y → WW p l e R s m args below meth c cells slots Q Γ A nL ws pc2 lv st) : WW p l e R s m args below meth c cells slots Q Γ A nL ws pc lv (.int y :: .int x :: st) := by
  subst hpc
  exact fun H locs ls hP hD hS hl => lv_icmp_ne C.1 C.2.1 hd ht (fun h => kt h H locs ls hP hD hS hl) (fun h => kf h H locs ls hP hD hS hl)
theorem ww_if_lt (C : Cx p R s m args meth c cc own nL Γ A dd) {x : Int32} {off : Int} (tgt : Nat) (hd : decode cc pc = .ok (.ifCond .lt off, 3)) (ht : (pc : Int) + off = (tgt : Int)) (pc2 : Nat) (hpc : pc + 3 = pc2) (kt : x < 0 → WW p l e R s m args below meth c cells slots Q Γ A nL ws tgt lv st) (kf : ¬ (x < 0) → WW p l e R s m args below meth c cells slots Q Γ A nL ws pc2 lv st) : WW p l e R s m args below meth c cells slots Q Γ A nL ws pc lv (.int x :: st) := by
  subst hpc
  exact fun H locs ls hP hD hS hl => lv_if_lt C.1 C.2.1 hd ht (fun h => kt h H locs ls hP hD hS hl) (fun h => kf h H locs ls hP hD hS hl)
theorem ww_icmp_lt (C : Cx p R s m args meth c cc own nL Γ A dd) {x y : Int32} {off : Int} (tgt : Nat) (hd : decode cc pc = .ok (.if_icmp .lt off, 3)) (ht : (pc : Int) + off = (tgt : Int)) (pc2 : Nat) (hpc : pc + 3 = pc2) (kt : x < y → WW p l e R s m args below meth c cells slots Q Γ A nL ws tgt lv st) (kf : ¬ (x < y) → WW p l e R s m args below meth c cells slots Q Γ A nL ws pc2 lv st) : WW p l e R s m args below meth c cells slots Q Γ A nL ws pc lv (.int y :: .int x :: st) := by
  subst hpc
  exact fun H locs ls hP hD hS hl => lv_icmp_lt C.1 C.2.1 hd ht (fun h => kt h H locs ls hP hD hS hl) (fun h => kf h H locs ls hP hD hS hl)
theorem ww_if_ge (C : Cx p R s m args meth c cc own nL Γ A dd) {x : Int32} {off : Int} (tgt : Nat) (hd : decode cc pc = .ok (.ifCond .ge off, 3)) (ht : (pc : Int) + off = (tgt : Int)) (pc2 : Nat) (hpc : pc + 3 = pc2) (kt : 0 ≤ x → WW p l e R s m args below meth c cells slots Q Γ A nL ws tgt lv st) (kf : ¬ (0 ≤ x) → WW p l e R s m args below meth c cells slots Q Γ A nL ws pc2 lv st) : WW p l e R s m args below meth c cells slots Q Γ A nL ws pc lv (.int x :: st) := by
  subst hpc
  exact fun H locs ls hP hD hS hl => lv_if_ge C.1 C.2.1 hd ht (fun h => kt h H locs ls hP hD hS hl) (fun h => kf h H locs ls hP hD hS hl)
theorem ww_icmp_ge (C : Cx p R s m args meth c cc own nL Γ A dd) {x y : Int32} {off : Int} (tgt : Nat) (hd : decode cc pc = .ok (.if_icmp .ge off, 3)) (ht : (pc : Int) + off = (tgt : Int)) (pc2 : Nat) (hpc : pc + 3 = pc2) (kt : y ≤ x → WW p l e R s m args below meth c cells slots Q Γ A nL ws tgt lv st) (kf : ¬ (y ≤ x) → WW p l e R s m args below meth c cells slots Q Γ A nL ws pc2 lv st) : WW p l e R s m args below meth c cells slots Q Γ A nL ws pc lv (.int y :: .int x :: st) := by
  subst hpc
  exact fun H locs ls hP hD hS hl => lv_icmp_ge C.1 C.2.1 hd ht (fun h => kt h H locs ls hP hD hS hl) (fun h => kf h H locs ls hP hD hS hl)
theorem ww_if_gt (C : Cx p R s m args meth c cc own nL Γ A dd) {x : Int32} {off : Int} (tgt : Nat) (hd : decode cc pc = .ok (.ifCond .gt off, 3)) (ht : (pc : Int) + off = (tgt : Int)) (pc2 : Nat) (hpc : pc + 3 = pc2) (kt : 0 < x → WW p l e R s m args below meth c cells slots Q Γ A nL ws tgt lv st) (kf : ¬ (0 < x) → WW p l e R s m args below meth c cells slots Q Γ A nL ws pc2 lv st) : WW p l e R s m args below meth c cells slots Q Γ A nL ws pc lv (.int x :: st) := by
  subst hpc
  exact fun H locs ls hP hD hS hl => lv_if_gt C.1 C.2.1 hd ht (fun h => kt h H locs ls hP hD hS hl) (fun h => kf h H locs ls hP hD hS hl)
theorem ww_icmp_gt (C : Cx p R s m args meth c cc own nL Γ A dd) {x y : Int32} {off : Int} (tgt : Nat) (hd : decode cc pc = .ok (.if_icmp .gt off, 3)) (ht : (pc : Int) + off = (tgt : Int)) (pc2 : Nat) (hpc : pc + 3 = pc2) (kt : y < x → WW p l e R s m args below meth c cells slots Q Γ A nL ws tgt lv st) (kf : ¬ (y < x) → WW p l e R s m args below meth c cells slots Q Γ A nL ws pc2 lv st) : WW p l e R s m args below meth c cells slots Q Γ A nL ws pc lv (.int y :: .int x :: st) := by
  subst hpc
  exact fun H locs ls hP hD hS hl => lv_icmp_gt C.1 C.2.1 hd ht (fun h => kt h H locs ls hP hD hS hl) (fun h => kf h H locs ls hP hD hS hl)
theorem ww_if_le (C : Cx p R s m args meth c cc own nL Γ A dd) {x : Int32} {off : Int} (tgt : Nat) (hd : decode cc pc = .ok (.ifCond .le off, 3)) (ht : (pc : Int) + off = (tgt : Int)) (pc2 : Nat) (hpc : pc + 3 = pc2) (kt : x ≤ 0 → WW p l e R s m args below meth c cells slots Q Γ A nL ws tgt lv st) (kf : ¬ (x ≤ 0) → WW p l e R s m args below meth c cells slots Q Γ A nL ws pc2 lv st) : WW p l e R s m args below meth c cells slots Q Γ A nL ws pc lv (.int x :: st) := by
  subst hpc
  exact fun H locs ls hP hD hS hl => lv_if_le C.1 C.2.1 hd ht (fun h => kt h H locs ls hP hD hS hl) (fun h => kf h H locs ls hP hD hS hl)
theorem ww_icmp_le (C : Cx p R s m args meth c cc own nL Γ A dd) {x y : Int32} {off : Int} (tgt : Nat) (hd : decode cc pc = .ok (.if_icmp .le off, 3)) (ht : (pc : Int) + off = (tgt : Int)) (pc2 : Nat) (hpc : pc + 3 = pc2) (kt : x ≤ y → WW p l e R s m args below meth c cells slots Q Γ A nL ws tgt lv st) (kf : ¬ (x ≤ y) → WW p l e R s m args below meth c cells slots Q Γ A nL ws pc2 lv st) : WW p l e R s m args below meth c cells slots Q Γ A nL ws pc lv (.int y :: .int x :: st) := by
  subst hpc
  exact fun H locs ls hP hD hS hl => lv_icmp_le C.1 C.2.1 hd ht (fun h => kt h H locs ls hP hD hS hl) (fun h => kf h H locs ls hP hD hS hl)
theorem ww_goto (C : Cx p R s m args meth c cc own nL Γ A dd) {off : Int} (tgt : Nat) (hd : decode cc pc = .ok (.goto off, 3)) (ht : (pc : Int) + off = (tgt : Int)) (k : WW p l e R s m args below meth c cells slots Q Γ A nL ws tgt lv st) : WW p l e R s m args below meth c cells slots Q Γ A nL ws pc lv st :=
  fun H locs ls hP hD hS hl => lv_goto C.1 C.2.1 hd ht (k H locs ls hP hD hS hl)
/-- an entry of a class's pool that names field k of the class ci of vwCl -/
def FE (own : String) (index ci k : Nat) (C : String) (T : u_T) (N : Nat) (ty : Nat → FieldType) : Prop :=
  Cond.fieldLink own index (T k).1 (T k).2.1 (T k).2.2.1 ∈ Tg ∧ vwCl[ci]? = some (C, T, N) ∧ k < N ∧ (∀ w ∈ u_ws C T N, w ∈ Tg) ∧ (∀ k, k < N → parseFieldDescriptor (T k).2.2.1 = some (ty k)) ∧ (∀ a, a < N → ∀ b, b < N → a ≠ b → (T a).2.1 ≠ (T b).2.1)
theorem ww_get (C : Cx p R s m args meth c cc own nL Γ A dd) {index ci kf : Nat} {C0 : String} {T : u_T} {N : Nat} {ty : Nat → FieldType} {a : Nat} {fs : List Value} {v : Value} (F : FE own index ci kf C0 T N ty) (hd : decode cc pc = .ok (.getfield index, 3)) (q0 : Nat) (he : ws[q0]? = some (a, .inr (ci, fs))) (hv : fs[kf]? = some v) (pc2 : Nat) (hpc : pc + 3 = pc2) (k : WW p l e R s m args below meth c cells slots Q Γ A nL ws pc2 lv (v :: st)) : WW p l e R s m args below meth c cells slots Q Γ A nL ws pc lv (.ref a :: st) := by
  subst hpc
  intro H locs ls hP hD hS hl
  exact va_get C.1 C.2.1 C.2.2.2.2.1 F.2.2.2.1 C.2.2.2.1 C.2.2.2.2.2.1 hP q0 he F.2.1 kf F.2.2.1 (C.2.2.2.2.1 _ F.1) (fun _ h9 => h9) hv hd (k H locs ls hP hD hS hl)
theorem ww_put (C : Cx p R s m args meth c cc own nL Γ A dd) {index ci kf : Nat} {C0 : String} {T : u_T} {N : Nat} {ty : Nat → FieldType} {a : Nat} {fs : List Value} {v : Value} (F : FE own index ci kf C0 T N ty) (hfin : (T kf).2.2.2 = false) (hd : decode cc pc = .ok (.putfield index, 3)) (q0 : Nat) (he : ws[q0]? = some (a, .inr (ci, fs))) (hn : narrow (ty kf) v = v) (hfit : fits (ty kf) v = true) (hl0 : kf < fs.length) (pc2 : Nat) (hpc : pc + 3 = pc2) (k : WW p l e R s m args below meth c cells slots Q Γ A nL (ws.set q0 (a, .inr (ci, fs.set kf v))) pc2 lv st) : WW p l e R s m args below meth c cells slots Q Γ A nL ws pc lv (v :: .ref a :: st) := by
  subst hpc
  intro H locs ls hP hD hS hl
  exact va_put C.1 C.2.1 C.2.2.2.2.1 F.2.2.2.1 ty F.2.2.2.2.1 F.2.2.2.2.2 C.2.2.2.1 C.2.2.2.2.2.1 hP hD hS q0 he F.2.1 kf F.2.2.1 (C.2.2.2.2.1 _ F.1) (fun _ h9 => h9) hfin (F.2.2.2.2.1 kf F.2.2.1) hn hfit hl0 hd (fun H locs hP hD hS => k H locs ls hP hD hS hl)
theorem ww_putF (C : Cx p R s m args meth c cc own nL Γ A dd) {index ci kf : Nat} {C0 : String} {T : u_T} {N : Nat} {ty : Nat → FieldType} {a : Nat} {fs : List Value} {v : Value} (F : FE own index ci kf C0 T N ty) (hfin : (T kf).2.2.2 = true) (hin : meth.name = "<init>") (hdecl : (T kf).1 = own) (hd : decode cc pc = .ok (.putfield index, 3)) (q0 : Nat) (he : ws[q0]? = some (a, .inr (ci, fs))) (hn : narrow (ty kf) v = v) (hfit : fits (ty kf) v = true) (hl0 : kf < fs.length) (pc2 : Nat) (hpc : pc + 3 = pc2) (k : WW p l e R s m args below meth c cells slots Q Γ A nL (ws.set q0 (a, .inr (ci, fs.set kf v))) pc2 lv st) : WW p l e R s m args below meth c cells slots Q Γ A nL ws pc lv (v :: .ref a :: st) := by
  subst hpc
  intro H locs ls hP hD hS hl
  exact va_putF C.1 C.2.1 C.2.2.2.2.1 F.2.2.2.1 ty F.2.2.2.2.1 F.2.2.2.2.2 C.2.2.2.1 C.2.2.2.2.2.1 hP hD hS q0 he F.2.1 kf F.2.2.1 (C.2.2.2.2.1 _ F.1) (fun _ h9 => h9) hfin hin hdecl (F.2.2.2.2.1 kf F.2.2.1) hn hfit hl0 hd (fun H locs hP hD hS => k H locs ls hP hD hS hl)
theorem ww_iald (C : Cx p R s m args meth c cc own nL Γ A dd) {a n : Nat} {f : Nat → Int32} {i : Int32} (hd : decode cc pc = .ok (.iaload, 1)) (q0 : Nat) (he : ws[q0]? = some (a, .inl (Γ.2.1, n, .inl f))) (hin : vp_in i n) (pc2 : Nat) (hpc : pc + 1 = pc2) (k : WW p l e R s m args below meth c cells slots Q Γ A nL ws pc2 lv (.int (f i.toNatClampNeg) :: st)) : WW p l e R s m args below meth c cells slots Q Γ A nL ws pc lv (.int i :: .ref a :: st) := by
  subst hpc
  intro H locs ls hP hD hS hl
  exact va_iald C.1 C.2.1 C.2.2.2.2.2.1 hP q0 0 he rfl hin hd (k H locs ls hP hD hS hl)
theorem ww_lald (C : Cx p R s m args meth c cc own nL Γ A dd) {a n : Nat} {f : Nat → Int64} {i : Int32} (hd : decode cc pc = .ok (.laload, 1)) (q0 : Nat) (he : ws[q0]? = some (a, .inl (Γ.2.2.1, n, .inr (.inl f)))) (hin : vp_in i n) (pc2 : Nat) (hpc : pc + 1 = pc2) (k : WW p l e R s m args below meth c cells slots Q Γ A nL ws pc2 lv (.long (f i.toNatClampNeg) :: st)) : WW p l e R s m args below meth c cells slots Q Γ A nL ws pc lv (.int i :: .ref a :: st) := by
  subst hpc
  intro H locs ls hP hD hS hl
  exact va_lald C.1 C.2.1 C.2.2.2.2.2.1 hP q0 1 he rfl hin hd (k H locs ls hP hD hS hl)
theorem ww_aald (C : Cx p R s m args meth c cc own nL Γ A dd) {a n b : Nat} {f : Nat → Option Nat} {i : Int32} (hd : decode cc pc = .ok (.aaload, 1)) (q0 : Nat) (he : ws[q0]? = some (a, .inl (Γ.2.2.2, n, .inr (.inr (.inr (.inr f)))))) (hin : vp_in i n) (hf : f i.toNatClampNeg = some b) (pc2 : Nat) (hpc : pc + 1 = pc2) (k : WW p l e R s m args below meth c cells slots Q Γ A nL ws pc2 lv (.ref b :: st)) : WW p l e R s m args below meth c cells slots Q Γ A nL ws pc lv (.int i :: .ref a :: st) := by
  subst hpc
  intro H locs ls hP hD hS hl
  exact va_aldq (C := RX7) C.1 C.2.1 C.2.2.2.2.2.1 hP q0 2 he rfl hin hd (by rw [hf]; exact k H locs ls hP hD hS hl)
theorem ww_iast (C : Cx p R s m args meth c cc own nL Γ A dd) {a n : Nat} {f : Nat → Int32} {i x : Int32} (hd : decode cc pc = .ok (.iastore, 1)) (q0 : Nat) (he : ws[q0]? = some (a, .inl (Γ.2.1, n, .inl f))) (hin : vp_in i n) (pc2 : Nat) (hpc : pc + 1 = pc2) (k : WW p l e R s m args below meth c cells slots Q Γ A nL (ws.set q0 (a, .inl (Γ.2.1, n, .inl (upd f i.toNatClampNeg x)))) pc2 lv st) : WW p l e R s m args below meth c cells slots Q Γ A nL ws pc lv (.int x :: .int i :: .ref a :: st) := by
  subst hpc
  intro H locs ls hP hD hS hl
  exact va_iast C.1 C.2.1 C.2.2.2.2.2.1 hP hD hS q0 0 he rfl hin hd (fun H locs hP hD hS => k H locs ls hP hD hS hl)
theorem ww_last (C : Cx p R s m args meth c cc own nL Γ A dd) {a n : Nat} {f : Nat → Int64} {i : Int32} {x : Int64} (hd : decode cc pc = .ok (.lastore, 1)) (q0 : Nat) (he : ws[q0]? = some (a, .inl (Γ.2.2.1, n, .inr (.inl f)))) (hin : vp_in i n) (pc2 : Nat) (hpc : pc + 1 = pc2) (k : WW p l e R s m args below meth c cells slots Q Γ A nL (ws.set q0 (a, .inl (Γ.2.2.1, n, .inr (.inl (vp_updL f i.toNatClampNeg x))))) pc2 lv st) : WW p l e R s m args below meth c cells slots Q Γ A nL ws pc lv (.long x :: .int i :: .ref a :: st) := by
  subst hpc
  intro H locs ls hP hD hS hl
  exact va_last C.1 C.2.1 C.2.2.2.2.2.1 hP hD hS q0 1 he rfl hin hd (fun H locs hP hD hS => k H locs ls hP hD hS hl)
theorem ww_copyi (C : Cx p R s m args meth c cc own nL Γ A dd) {index : Nat} (q0 q1 : Nat) {a0 a n0 n1 : Nat} {f g : Nat → Int32} {sp dp n : Int32} (hlk : Cond.methodLink own index arraycopyName ∈ Tg) (hd : decode cc pc = .ok (.invokestatic index, 3)) (ha0 : ws[q0]? = some (a0, .inl (Γ.2.1, n0, .inl f))) (ha1 : ws[q1]? = some (a, .inl (Γ.2.1, n1, .inl g))) (h1 : ¬ sp < 0) (h2 : ¬ dp < 0) (h3 : ¬ n < 0) (h4 : sp.toNatClampNeg + n.toNatClampNeg ≤ n0) (h5 : dp.toNatClampNeg + n.toNatClampNeg ≤ n1) (hst : st = []) (hdd : 1 ≤ dd) (pc2 : Nat) (hpc : pc + 3 = pc2) (k : WW p l e R s m args below meth c cells slots Q Γ A nL (ws.set q1 (a, .inl (Γ.2.1, n1, .inl (va_cpy f g sp.toNatClampNeg dp.toNatClampNeg n.toNatClampNeg)))) pc2 lv st) : WW p l e R s m args below meth c cells slots Q Γ A nL ws pc lv (.int n :: .int dp :: .ref a :: .int sp :: .ref a0 :: st) := by
  subst hpc
  intro H locs ls hP hD hS hl
  subst hst
  refine va_copyi C.1 C.2.1 (C.2.2.1.trans hl.1.symm) C.2.2.2.1 (C.2.2.2.2.1 _ hlk) (C.2.2.2.2.1 _ na_arraycopy) (C.2.2.2.2.1 _ st_arraycopyName) (C.2.2.2.2.1 _ in_J10) C.2.2.2.2.2.1 hP hD hS q0 q1 0 0 ha0 ha1 rfl rfl rfl h1 h2 h3 h4 h5 (fun i _ => rfl) ?_ ?_ hd (fun H locs hP hD hS => k H locs ls hP hD hS hl)
  · exact Nat.le_trans hdd C.2.2.2.2.2.2.2.2.1
  · refine Nat.le_trans ?_ (Nat.le_trans (Nat.mul_le_mul_left 35 hdd) C.2.2.2.2.2.2.2.2.2)
    decide
end WWs
/-- a method's contract: from the world wc it returns rv, and the world is wc' then, at the same cells -/
def QCt (wc : va_W) (sz : Nat) (Γ : Gm) (rv : Option Value) (wc' : va_W) : Array Value → State → Outcome → State → Prop := fun _ st oc t => oc = .returned rv ∧ va_P Γ.1 vwCl wc' t.heap ∧ va_D (va_A wc sz) wc' ∧ va_F (va_A wc sz) st t
def PCt (Γ : Gm) (sz : Nat) (av : List Value) (wc : va_W) : Array Value → State → Prop := va_Pc av (fun U => U.heap.size = sz ∧ va_P Γ.1 vwCl wc U.heap ∧ va_K Γ.1 vwCl (tyG Γ) U ∧ va_D (fun _ => True) wc)
def Ct (l : Launch) (Γ : Gm) (y : MethodName) (cc : ByteArray) (maxL : Nat) (ret : Option FieldType) (d : Nat) (av : List Value) (wc : va_W) (rv : Option Value) (wc' : va_W) : Prop :=
  ∀ sz : Nat, Met l y (.code y cc maxL ret :: Tg) (rmD d) (PCt Γ sz av wc) (QCt wc sz Γ rv wc') 0 0 (va_A wc sz)
theorem PCt.blind {Γ : Gm} {sz : Nat} {av : List Value} {wc : va_W} : FrameBlind (PCt Γ sz av wc) := fun a U g mk q => ⟨q.1, q.2.1, q.2.2.1, va_K.moved (u := U) (U := U.calling g mk a) (Vm.Alike.refl U.vm) q.2.2.2.1, q.2.2.2.2⟩
theorem LV.entry {av : List Value} {nL : Nat} {lv : List (Option Value)} (h : (lg_sl av).length ≤ nL) (hq : ∀ (i : Nat) (v : Value), lv[i]? = some (some v) → (i, v) ∈ lv_args 0 av) : LV ((lg_sl av ++ List.replicate (nL - (lg_sl av).length) Slot.unset).toArray) nL lv := by
  obtain ⟨h1, h2, h3⟩ := lv_entry av h
  exact ⟨h1, h2, fun i v hi => h3 (i, v) (hq i v hi)⟩
/-- the locals that the arguments make -/
def lvA : List Value → List (Option Value)
  | [] => []
  | .long x :: t => some (.long x) :: none :: lvA t
  | .double x :: t => some (.double x) :: none :: lvA t
  | v :: t => some v :: lvA t
theorem lvA_args : ∀ (av : List Value) (j i : Nat) (v : Value), (lvA av)[i]? = some (some v) → (j + i, v) ∈ lv_args j av
  | [], j, i, v, h => by simp [lvA] at h
  | w :: t, j, i, v, h => by
    by_cases hc : w.category = 2
    · have e : lvA (w :: t) = some w :: none :: lvA t := by cases w <;> first | rfl | (simp [Value.category] at hc)
      rw [e] at h
      match i, h with
      | 0, h =>
        simp at h
        subst h
        exact List.mem_cons_self
      | 1, h => simp at h
      | i + 2, h =>
        have := lvA_args t (j + 2) i v (by simpa using h)
        rw [show j + (i + 2) = j + 2 + i by omega]
        simp only [lv_args, hc, if_true]
        exact List.mem_cons_of_mem _ this
    · have e : lvA (w :: t) = some w :: lvA t := by cases w <;> first | rfl | (simp [Value.category] at hc)
      rw [e] at h
      match i, h with
      | 0, h =>
        simp at h
        subst h
        exact List.mem_cons_self
      | i + 1, h =>
        have := lvA_args t (j + 1) i v (by simpa using h)
        rw [show j + (i + 1) = j + 1 + i by omega]
        simp only [lv_args, hc, if_false]
        exact List.mem_cons_of_mem _ this
theorem lvA_pad {av : List Value} {n i : Nat} {v : Value} (h : (lvA av ++ List.replicate n none)[i]? = some (some v)) : (lvA av)[i]? = some (some v) := by
  by_cases hl : i < (lvA av).length
  · rw [List.getElem?_append_left hl] at h
    exact h
  · rw [List.getElem?_append_right (by omega)] at h
    have := (List.mem_replicate.mp (List.mem_of_getElem? h)).2
    cases this
/-- a contract out of a walk -/
theorem Ct.of {l : Launch} {Γ : Gm} {y : MethodName} {cc : ByteArray} {maxL : Nat} {ret : Option FieldType} {d n : Nat} {av : List Value} {wc : va_W} {rv : Option Value} {wc' : va_W} (hm : MI y cc maxL ret n) (lv : List (Option Value)) (k : Nat) (hlv : lvA av ++ List.replicate k none = lv) (hle : (lg_sl av).length ≤ maxL)
    (body : ∀ (p : Program) (e : Env) (s : State) (m : MethodId) (args : Array Value) (below : List Frame) (meth : Method) (c : Code), Cx p (rmD d) s m args meth c cc y.cls maxL Γ (va_A wc s.heap.size) d → meth.sig.returnType = ret → WW p l e (rmD d) s m args below meth c 0 0 (MQ below (QCt wc s.heap.size Γ rv wc') args s 0 0 (va_A wc s.heap.size)) Γ (va_A wc s.heap.size) maxL wc 0 lv []) : Ct l Γ y cc maxL ret d av wc rv wc' := by
  intro sz
  refine Met.ofW (cc := cc) (maxL := maxL) (ret := ret) hm.2.2.2.2.2 rfl ?_
  intro p e s m args below meth c s₁ B hml hv
  obtain ⟨rfl, hsz, hP, hK, hD0⟩ := hv
  subst hsz
  have hts : ∀ w ∈ Tg, w.before av.toArray s = true := fun w hw => atoms_spec (ws := .code y cc maxL ret :: Tg) B.pre w (List.mem_cons_of_mem _ hw)
  have hown : s.vm.findClass y.cls = some m.cls := findClass_of_methodNamed B.named
  rw [lg_entry_eq]
  refine body p e s m av.toArray below meth c ⟨B.exec, B.bytes, hml, hown, hts, hK, fun q h => Or.inr h, B.notSynchronized, Nat.le_refl _, Nat.le_refl _⟩ B.returns s.heap [] _ hP hD0.self va_S.rf (LV.entry hle (fun i v hi => ?_))
  subst hlv
  have := lvA_args av 0 i v (lvA_pad hi)
  rw [Nat.zero_add] at this
  exact this
section WWr
variable {p : Program} {l : Launch} {e : Env} {R : Room} {s : State} {m : MethodId} {args : Array Value} {below : List Frame} {meth : Method} {c : Code} {cells slots : Nat} {Q : State → Prop} {Γ : Gm} {A : Nat → Prop} {nL dd : Nat} {cc : ByteArray} {own : String} {ws : va_W} {pc : Nat} {lv : List (Option Value)} {st : List Value} {wc wc' : va_W} {rv : Option Value}
theorem ww_iret (C : Cx p R s m args meth c cc own nL Γ (va_A wc s.heap.size) dd) (hr : meth.sig.returnType = some .int) {v : Int32} (hd : decode cc pc = .ok (.ireturn, 1)) (h1 : rv = some (.int v)) (h2 : wc' = ws) : WW p l e R s m args below meth c 0 0 (MQ below (QCt wc s.heap.size Γ rv wc') args s 0 0 (va_A wc s.heap.size)) Γ (va_A wc s.heap.size) nL ws pc lv [.int v] := by
  subst h1; subst h2
  intro H locs ls hP hD hS hl
  exact W.iret C.1 C.2.1 hr (fun t ht hW => ⟨rfl, by rw [ht]; exact hP, hD, hS.F ht⟩) hS.2.2 hd C.2.2.2.2.2.2.2.1
theorem ww_lret (C : Cx p R s m args meth c cc own nL Γ (va_A wc s.heap.size) dd) (hr : meth.sig.returnType = some .long) {v : Int64} (hd : decode cc pc = .ok (.lreturn, 1)) (h1 : rv = some (.long v)) (h2 : wc' = ws) : WW p l e R s m args below meth c 0 0 (MQ below (QCt wc s.heap.size Γ rv wc') args s 0 0 (va_A wc s.heap.size)) Γ (va_A wc s.heap.size) nL ws pc lv [.long v] := by
  subst h1; subst h2
  intro H locs ls hP hD hS hl
  exact W.lret C.1 C.2.1 hr (fun t ht hW => ⟨rfl, by rw [ht]; exact hP, hD, hS.F ht⟩) hS.2.2 hd C.2.2.2.2.2.2.2.1
theorem ww_zret (C : Cx p R s m args meth c cc own nL Γ (va_A wc s.heap.size) dd) (hr : meth.sig.returnType = some .boolean) {v : Int32} (hz : narrow .boolean (.int v) = .int v) (hd : decode cc pc = .ok (.ireturn, 1)) (h1 : rv = some (.int v)) (h2 : wc' = ws) : WW p l e R s m args below meth c 0 0 (MQ below (QCt wc s.heap.size Γ rv wc') args s 0 0 (va_A wc s.heap.size)) Γ (va_A wc s.heap.size) nL ws pc lv [.int v] := by
  subst h1; subst h2
  intro H locs ls hP hD hS hl
  exact W.zret C.1 C.2.1 hr hz (fun t ht hW => ⟨rfl, by rw [ht]; exact hP, hD, hS.F ht⟩) hS.2.2 hd C.2.2.2.2.2.2.2.1
theorem ww_vret (C : Cx p R s m args meth c cc own nL Γ (va_A wc s.heap.size) dd) (hr : meth.sig.returnType = none)  (hd : decode cc pc = .ok (.return_, 1)) (h1 : rv = none) (h2 : wc' = ws) : WW p l e R s m args below meth c 0 0 (MQ below (QCt wc s.heap.size Γ rv wc') args s 0 0 (va_A wc s.heap.size)) Γ (va_A wc s.heap.size) nL ws pc lv [] := by
  subst h1; subst h2
  intro H locs ls hP hD hS hl
  exact W.vret C.1 C.2.1 hr (fun t ht hW => ⟨rfl, by rw [ht]; exact hP, hD, hS.F ht⟩) hS.2.2 hd C.2.2.2.2.2.2.2.1
/-- the cells at the places is become cs -/
def pB : va_W → List Nat → va_W → va_W
  | ws, [], _ => ws
  | ws, _, [] => ws
  | ws, i :: is, c :: cs => pB (ws.set i c) is cs
theorem pB_len : ∀ (is : List Nat) (ws cs : va_W), (pB ws is cs).length = ws.length
  | [], ws, cs => by simp [pB]
  | i :: is, ws, [] => by simp [pB]
  | i :: is, ws, c :: cs => by rw [pB, pB_len is]; simp
/-- a cell of the world behind a call is one that was there, at a place that isn't the callee's, or the callee's -/
theorem pB_get : ∀ (is : List Nat) (ws cs : va_W) (k : Nat) (q : Nat × va_E), va_nd is = true → is.length = cs.length → (pB ws is cs)[k]? = some q → (k ∉ is ∧ ws[k]? = some q) ∨ ∃ j : Nat, is[j]? = some k ∧ cs[j]? = some q
  | [], ws, cs, k, q, hn, hl, h => by
    simp [pB] at h
    exact Or.inl ⟨by simp, h⟩
  | i :: is, ws, [], k, q, hn, hl, h => by simp at hl
  | i :: is, ws, c :: cs, k, q, hn, hl, h => by
    simp only [va_nd, Bool.and_eq_true, decide_eq_true_eq] at hn
    rw [pB] at h
    rcases pB_get is (ws.set i c) cs k q hn.2 (by simpa using hl) h with ⟨h1, h2⟩ | ⟨j, h1, h2⟩
    · by_cases hk : i = k
      · subst hk
        have hlt : i < ws.length := by
          have := (List.getElem?_eq_some_iff.mp h2).1
          simpa using this
        rw [List.getElem?_set_self hlt] at h2
        exact Or.inr ⟨0, rfl, h2⟩
      · rw [List.getElem?_set_ne hk] at h2
        refine Or.inl ⟨fun hm => ?_, h2⟩
        rcases List.mem_cons.mp hm with e | e
        · exact hk e.symm
        · exact h1 e
    · exact Or.inr ⟨j + 1, by simpa using h1, by simpa using h2⟩
theorem pB_same {ws wc : va_W} : ∀ (is : List Nat), is.map (fun i => ws[i]?) = wc.map some → pB ws is wc = ws := by
  intro is
  induction is generalizing wc with
  | nil => intro _; simp [pB]
  | cons i is ih =>
    intro h
    cases wc with
    | nil => simp at h
    | cons c cs =>
      simp only [List.map_cons, List.cons.injEq] at h
      have e : ws.set i c = ws := by
        apply List.ext_getElem?
        intro j
        by_cases hij : i = j
        · subst hij
          have hlt := (List.getElem?_eq_some_iff.mp h.1).1
          rw [List.getElem?_set_self hlt, h.1]
        · rw [List.getElem?_set_ne hij]
      rw [pB, e]
      exact ih h.2
theorem va_at_of {ws wc : va_W} {is : List Nat} (hC : is.map (fun i => ws[i]?) = wc.map some) {j : Nat} {q : Nat × va_E} (hq : wc[j]? = some q) : ∃ i, is[j]? = some i ∧ ws[i]? = some q := by
  have h1 : (is.map (fun i => ws[i]?))[j]? = some (some q) := by rw [hC, List.getElem?_map, hq]; rfl
  rw [List.getElem?_map] at h1
  cases hi : is[j]? with
  | none => rw [hi] at h1; cases h1
  | some i => rw [hi] at h1; exact ⟨i, rfl, Option.some.inj h1⟩
theorem va_at_of2 {ws wc : va_W} {is : List Nat} (hC : is.map (fun i => ws[i]?) = wc.map some) {j i : Nat} (hi : is[j]? = some i) : ∃ q, wc[j]? = some q ∧ ws[i]? = some q := by
  have h1 : (wc.map some)[j]? = some (ws[i]?) := by rw [← hC, List.getElem?_map, hi]; rfl
  rw [List.getElem?_map] at h1
  cases hq : wc[j]? with
  | none => rw [hq] at h1; cases h1
  | some q => rw [hq] at h1; exact ⟨q, rfl, (Option.some.inj h1).symm⟩
theorem pB_P {A : Nat → Prop} {D : va_G} {cl : List vw_C} {ws wc wc' : va_W} {H H1 : Heap} {is : List Nat} (hP : va_P D cl ws H) (hD : va_D A ws) (hC : is.map (fun i => ws[i]?) = wc.map some) (hn : va_nd is = true) (ha : wc'.map (fun q => q.1) = wc.map (fun q => q.1))
    (hk : ∀ q : Nat, q < H.size → ¬ va_A wc H.size q → H1[q]? = H[q]?) (hP1 : va_P D cl wc' H1) : va_P D cl (pB ws is wc') H1 ∧ va_D A (pB ws is wc') := by
  have hlen : is.length = wc'.length := by
    have h1 := congrArg List.length hC
    have h2 := congrArg List.length ha
    simp at h1 h2
    omega
  have adr : ∀ (k : Nat) (q : Nat × va_E), (pB ws is wc')[k]? = some q → ∃ q0, ws[k]? = some q0 ∧ q0.1 = q.1 := by
    intro k q hq
    rcases pB_get is ws wc' k q hn hlen hq with ⟨-, h2⟩ | ⟨j, h1, h2⟩
    · exact ⟨q, h2, rfl⟩
    · obtain ⟨q0, h3, h4⟩ := va_at_of2 hC h1
      refine ⟨q0, h4, ?_⟩
      have h5 : (wc'.map (fun q => q.1))[j]? = some q.1 := by rw [List.getElem?_map, h2]; rfl
      rw [ha, List.getElem?_map, h3] at h5
      exact Option.some.inj h5
  refine ⟨fun k q hq => ?_, fun i j x y hi hj hxy => ?_, fun k q hq => ?_⟩
  · rcases pB_get is ws wc' k q hn hlen hq with ⟨h1, h2⟩ | ⟨j, h1, h2⟩
    · refine (hP k q h2).kept (hk q.1 (hP k q h2).lt ?_)
      rintro (⟨j, e, hj⟩ | hj)
      · obtain ⟨i, h3, h4⟩ := va_at_of hC hj
        have := hD.1 k i q (q.1, e) h2 h4 rfl
        subst this
        exact h1 (List.mem_of_getElem? h3)
      · exact absurd (hP k q h2).lt (by omega)
    · exact hP1 j q h2
  · obtain ⟨x0, h1, h2⟩ := adr i x hi
    obtain ⟨y0, h3, h4⟩ := adr j y hj
    exact hD.1 i j x0 y0 h1 h3 (h2.trans (hxy.trans h4.symm))
  · obtain ⟨q0, h1, h2⟩ := adr k q hq
    rw [← h2]
    exact hD.2 k q0 h1
/-- behind a call's run -/
theorem ww_run {pc2 : Nat} {st0 rest : List Value} {H : Heap} {locs : List Loc} {ls : Array Slot} {is : List Nat} {a : Array Value} (hr : va_Run p l e R s m args below meth c H locs cells slots 0 0 (F0 m pc ls st0) rest (QCt wc H.size Γ rv wc' a) (va_A wc H.size)) (hA : ∀ q, s.heap.size ≤ q → A q) (hP : va_P Γ.1 vwCl ws H) (hD : va_D A ws) (hS : va_S A s.heap H locs) (hl : LV ls nL lv) (hC : is.map (fun i => ws[i]?) = wc.map some) (hn : va_nd is = true) (ha : wc'.map (fun q => q.1) = wc.map (fun q => q.1)) (hpc : pc + 3 = pc2)
    (k : WW p l e R s m args below meth c cells slots Q Γ A nL (pB ws is wc') pc2 lv (rv.toList ++ rest)) : W p l e R s m args below meth c H locs cells slots Q (F0 m pc ls st0) := by
  subst hpc
  have hF := va_free (wc := wc) hD hS hA is hC
  intro T hT X
  obtain ⟨v, st₀, t, T', L, h0, X', hL, e1, e2, ⟨hv, hP1, hD1, hz, hk⟩, st⟩ := hr T hT X
  cases hv
  rw [h0] at hz hk
  rw [← e1] at hP1
  obtain ⟨hP2, hD2⟩ := pB_P (H1 := T'.heap) hP hD hC hn ha (fun q h1 h2 => by rw [e1]; exact hk q h1 h2) hP1
  obtain ⟨t2, a1, b1⟩ := k T'.heap (locs ++ L) ls hP2 hD2
    ⟨Nat.le_trans hS.1 (by rw [e1]; exact hz), fun q h1 h2 => by rw [e1, hk q (Nat.lt_of_lt_of_le h1 hS.1) (fun z => h2 (hF q z))]; exact hS.2.1 q h1 h2, fun q hq => by
      rcases List.mem_append.mp hq with h | h
      · exact hS.2.2 q h
      · exact hF _ (hL q h)⟩ hl T' rfl X'
  exact ⟨t2, st t2 a1, b1⟩
theorem code_good {y : MethodName} {cy : ByteArray} {mL : Nat} {ret : Option FieldType} (h : Cond.code y cy mL ret ∈ Tg) : GoodIn Tg (.code y cy mL ret :: Tg) := fun w hw => by
  rcases List.mem_cons.mp hw with rfl | hw
  · exact tg_good _ h
  · exact tg_good _ hw
theorem catsum_le {rest : List Value} (h : rest.length ≤ 4) : (rest.map fun v => v.category).sum ≤ 8 := by
  have hc : ∀ v : Value, v.category ≤ 2 := fun v => by rcases lv_cat v with h | h <;> omega
  match rest, h with
  | [], _ => simp
  | [a], _ => have := hc a; simp; omega
  | [a, b], _ => have := hc a; have := hc b; simp; omega
  | [a, b, d], _ => have := hc a; have := hc b; have := hc d; simp; omega
  | [a, b, d, f], _ => have := hc a; have := hc b; have := hc d; have := hc f; simp; omega
  | _ :: _ :: _ :: _ :: _ :: _, h => simp at h
theorem pct_pre {sz : Nat} {H : Heap} {av : List Value} {is : List Nat} (C : Cx p R s m args meth c cc own nL Γ A dd) (hP : va_P Γ.1 vwCl ws H) (hD : va_D A ws) (hsz : H.size = sz) (hC : is.map (fun i => ws[i]?) = wc.map some) (hn : va_nd is = true) : ∀ U : State, U.heap = H → s.WarmedH U.vm → PCt Γ sz av wc av.toArray U := fun U hU hW => by
  refine ⟨rfl, by rw [hU]; exact hsz, ?_, va_K.moved hW.alike C.2.2.2.2.2.1, (hD.sub is hn hC).weaken (fun _ _ _ _ => trivial)⟩
  rw [hU]
  intro k q hq
  obtain ⟨i, -, h2⟩ := va_at_of hC hq
  exact hP i q h2

theorem ww_loop {σ : Type} (μ : σ → Nat) (Inv : σ → Prop) (W_ : σ → va_W) (L_ : σ → List (Option Value)) (x0 : σ) (h0 : Inv x0) (hw : ws = W_ x0) (hl : lv = L_ x0) (step : ∀ x : σ, Inv x → (∀ y : σ, Inv y → μ y < μ x → WW p l e R s m args below meth c cells slots Q Γ A nL (W_ y) pc (L_ y) st) → WW p l e R s m args below meth c cells slots Q Γ A nL (W_ x) pc (L_ x) st) : WW p l e R s m args below meth c cells slots Q Γ A nL ws pc lv st := by
  subst hw; subst hl
  have key : ∀ (n : Nat) (x : σ), μ x < n → Inv x → WW p l e R s m args below meth c cells slots Q Γ A nL (W_ x) pc (L_ x) st := by
    intro n
    induction n with
    | zero => intro x h; exact absurd h (Nat.not_lt_zero _)
    | succ n ih => intro x h hx; exact step x hx (fun y hy hlt => ih y (by omega) hy)
  exact key (μ x0 + 1) x0 (Nat.lt_succ_self _) h0
theorem ww_callV0 (C : Cx p R s m args meth c cc own nL Γ A dd) {y : MethodName} {cy : ByteArray} {mL : Nat} {ret : Option FieldType} {d index : Nat} {b : Nat}  {r : Value} {rest : List Value} (hct : Ct l Γ y cy mL ret d [.ref b] wc (some r) wc') (hm : MI y cy mL ret 0) (him : Cond.instanceMethod y ∈ Tg) (hse : Cond.selects y.cls y y ∈ Tg) (hlk : Cond.methodLink own index y ∈ Tg) (hd : decode cc pc = .ok (.invokevirtual index, 3)) (q0 : Nat) {ci : Nat} {fs : List Value} {qc : vw_C} (he : ws[q0]? = some (b, .inr (ci, fs))) (hc : vwCl[ci]? = some qc) (hcn : qc.1 = y.cls) (hdd : d + 1 ≤ dd) (hmL : mL ≤ 16) (hrest : rest.length ≤ 4) (hcs : cells ≤ R.cells ∧ slots ≤ R.slots) (is : List Nat) (hC : is.map (fun i => ws[i]?) = wc.map some) (hn : va_nd is = true) (ha : wc'.map (fun q => q.1) = wc.map (fun q => q.1)) (pc2 : Nat) (hpc : pc + 3 = pc2) (k : WW p l e R s m args below meth c cells slots Q Γ A nL (pB ws is wc') pc2 lv (r :: rest)) : WW p l e R s m args below meth c cells slots Q Γ A nL ws pc lv (.ref b :: rest) := fun H locs ls hP hD hS hl => by
  have hroom : d + 1 ≤ R.frames ∧ 8 + (mL + 11) + 35 * d ≤ R.locals := ⟨Nat.le_trans hdd C.2.2.2.2.2.2.2.2.1, by have := C.2.2.2.2.2.2.2.2.2; show 8 + (mL + 11) + 35 * d ≤ R.locals; omega⟩
  have hcb : CallB R s args own index y cy mL ret (.code y cy mL ret :: Tg) (rmD d) 0 0 0 := ⟨rfl, rfl, ((hroom)).1, ((hroom)).2, pay_in C.2.2.2.2.1 (code_good hm.1), List.mem_cons_self, C.2.2.2.2.1 _ hm.1, C.2.2.2.2.1 _ hm.2.1, ⟨hm.2.2.1, hm.2.2.2.1⟩, fun sig h => by have h2 := hm.2.2.2.2.1; rw [h] at h2; exact (Option.some.inj h2).symm, C.2.2.2.2.1 _ hlk⟩
  have hrun := va_runV (e := e) (below := below) (meth := meth) (As := []) (rest := rest) (g := F0 m pc ls (.ref b :: rest)) (locs := locs) (cells := cells) (slots := slots) ⟨C.1, C.2.1, C.2.2.1, C.2.2.2.1, C.2.2.2.2.1⟩ (hct H.size) ⟨hcb, C.2.2.2.2.1 _ him, C.2.2.2.2.1 _ hse⟩ ⟨PCt.blind, by have h9 := va_recv C.2.2.2.2.2.1 hP hc he; rw [hcn] at h9; exact h9, pct_pre C hP hD rfl hC hn⟩ rfl rfl hl.1 rfl (lv_room (catsum_le hrest)) hd ⟨hcs.1, hcs.2⟩
  exact ww_run hrun C.2.2.2.2.2.2.1 hP hD hS hl hC hn ha hpc k
theorem ww_callV0p (C : Cx p R s m args meth c cc own nL Γ A dd) {y : MethodName} {cy : ByteArray} {mL : Nat} {ret : Option FieldType} {d index : Nat} {b : Nat}  {r : Value} {rest : List Value} (hct : Ct l Γ y cy mL ret d [.ref b] wc (some r) wc) (hm : MI y cy mL ret 0) (him : Cond.instanceMethod y ∈ Tg) (hse : Cond.selects y.cls y y ∈ Tg) (hlk : Cond.methodLink own index y ∈ Tg) (hd : decode cc pc = .ok (.invokevirtual index, 3)) (q0 : Nat) {ci : Nat} {fs : List Value} {qc : vw_C} (he : ws[q0]? = some (b, .inr (ci, fs))) (hc : vwCl[ci]? = some qc) (hcn : qc.1 = y.cls) (hdd : d + 1 ≤ dd) (hmL : mL ≤ 16) (hrest : rest.length ≤ 4) (hcs : cells ≤ R.cells ∧ slots ≤ R.slots) (is : List Nat) (hC : is.map (fun i => ws[i]?) = wc.map some) (hn : va_nd is = true) (pc2 : Nat) (hpc : pc + 3 = pc2) (k : WW p l e R s m args below meth c cells slots Q Γ A nL ws pc2 lv (r :: rest)) : WW p l e R s m args below meth c cells slots Q Γ A nL ws pc lv (.ref b :: rest) := fun H locs ls hP hD hS hl => by
  have hroom : d + 1 ≤ R.frames ∧ 8 + (mL + 11) + 35 * d ≤ R.locals := ⟨Nat.le_trans hdd C.2.2.2.2.2.2.2.2.1, by have := C.2.2.2.2.2.2.2.2.2; show 8 + (mL + 11) + 35 * d ≤ R.locals; omega⟩
  have hcb : CallB R s args own index y cy mL ret (.code y cy mL ret :: Tg) (rmD d) 0 0 0 := ⟨rfl, rfl, ((hroom)).1, ((hroom)).2, pay_in C.2.2.2.2.1 (code_good hm.1), List.mem_cons_self, C.2.2.2.2.1 _ hm.1, C.2.2.2.2.1 _ hm.2.1, ⟨hm.2.2.1, hm.2.2.2.1⟩, fun sig h => by have h2 := hm.2.2.2.2.1; rw [h] at h2; exact (Option.some.inj h2).symm, C.2.2.2.2.1 _ hlk⟩
  have hrun := va_runV (e := e) (below := below) (meth := meth) (As := []) (rest := rest) (g := F0 m pc ls (.ref b :: rest)) (locs := locs) (cells := cells) (slots := slots) ⟨C.1, C.2.1, C.2.2.1, C.2.2.2.1, C.2.2.2.2.1⟩ (hct H.size) ⟨hcb, C.2.2.2.2.1 _ him, C.2.2.2.2.1 _ hse⟩ ⟨PCt.blind, by have h9 := va_recv C.2.2.2.2.2.1 hP hc he; rw [hcn] at h9; exact h9, pct_pre C hP hD rfl hC hn⟩ rfl rfl hl.1 rfl (lv_room (catsum_le hrest)) hd ⟨hcs.1, hcs.2⟩
  exact ww_run hrun C.2.2.2.2.2.2.1 hP hD hS hl hC hn rfl hpc (by rw [pB_same is hC]; exact k)
theorem ww_callV0v (C : Cx p R s m args meth c cc own nL Γ A dd) {y : MethodName} {cy : ByteArray} {mL : Nat} {ret : Option FieldType} {d index : Nat} {b : Nat}  {r : Value} {rest : List Value} (hct : Ct l Γ y cy mL ret d [.ref b] wc none wc') (hm : MI y cy mL ret 0) (him : Cond.instanceMethod y ∈ Tg) (hse : Cond.selects y.cls y y ∈ Tg) (hlk : Cond.methodLink own index y ∈ Tg) (hd : decode cc pc = .ok (.invokevirtual index, 3)) (q0 : Nat) {ci : Nat} {fs : List Value} {qc : vw_C} (he : ws[q0]? = some (b, .inr (ci, fs))) (hc : vwCl[ci]? = some qc) (hcn : qc.1 = y.cls) (hdd : d + 1 ≤ dd) (hmL : mL ≤ 16) (hrest : rest.length ≤ 4) (hcs : cells ≤ R.cells ∧ slots ≤ R.slots) (is : List Nat) (hC : is.map (fun i => ws[i]?) = wc.map some) (hn : va_nd is = true) (ha : wc'.map (fun q => q.1) = wc.map (fun q => q.1)) (pc2 : Nat) (hpc : pc + 3 = pc2) (k : WW p l e R s m args below meth c cells slots Q Γ A nL (pB ws is wc') pc2 lv rest) : WW p l e R s m args below meth c cells slots Q Γ A nL ws pc lv (.ref b :: rest) := fun H locs ls hP hD hS hl => by
  have hroom : d + 1 ≤ R.frames ∧ 8 + (mL + 11) + 35 * d ≤ R.locals := ⟨Nat.le_trans hdd C.2.2.2.2.2.2.2.2.1, by have := C.2.2.2.2.2.2.2.2.2; show 8 + (mL + 11) + 35 * d ≤ R.locals; omega⟩
  have hcb : CallB R s args own index y cy mL ret (.code y cy mL ret :: Tg) (rmD d) 0 0 0 := ⟨rfl, rfl, ((hroom)).1, ((hroom)).2, pay_in C.2.2.2.2.1 (code_good hm.1), List.mem_cons_self, C.2.2.2.2.1 _ hm.1, C.2.2.2.2.1 _ hm.2.1, ⟨hm.2.2.1, hm.2.2.2.1⟩, fun sig h => by have h2 := hm.2.2.2.2.1; rw [h] at h2; exact (Option.some.inj h2).symm, C.2.2.2.2.1 _ hlk⟩
  have hrun := va_runV (e := e) (below := below) (meth := meth) (As := []) (rest := rest) (g := F0 m pc ls (.ref b :: rest)) (locs := locs) (cells := cells) (slots := slots) ⟨C.1, C.2.1, C.2.2.1, C.2.2.2.1, C.2.2.2.2.1⟩ (hct H.size) ⟨hcb, C.2.2.2.2.1 _ him, C.2.2.2.2.1 _ hse⟩ ⟨PCt.blind, by have h9 := va_recv C.2.2.2.2.2.1 hP hc he; rw [hcn] at h9; exact h9, pct_pre C hP hD rfl hC hn⟩ rfl rfl hl.1 rfl (lv_room (catsum_le hrest)) hd ⟨hcs.1, hcs.2⟩
  exact ww_run hrun C.2.2.2.2.2.2.1 hP hD hS hl hC hn ha hpc k
theorem ww_callV0vp (C : Cx p R s m args meth c cc own nL Γ A dd) {y : MethodName} {cy : ByteArray} {mL : Nat} {ret : Option FieldType} {d index : Nat} {b : Nat}  {r : Value} {rest : List Value} (hct : Ct l Γ y cy mL ret d [.ref b] wc none wc) (hm : MI y cy mL ret 0) (him : Cond.instanceMethod y ∈ Tg) (hse : Cond.selects y.cls y y ∈ Tg) (hlk : Cond.methodLink own index y ∈ Tg) (hd : decode cc pc = .ok (.invokevirtual index, 3)) (q0 : Nat) {ci : Nat} {fs : List Value} {qc : vw_C} (he : ws[q0]? = some (b, .inr (ci, fs))) (hc : vwCl[ci]? = some qc) (hcn : qc.1 = y.cls) (hdd : d + 1 ≤ dd) (hmL : mL ≤ 16) (hrest : rest.length ≤ 4) (hcs : cells ≤ R.cells ∧ slots ≤ R.slots) (is : List Nat) (hC : is.map (fun i => ws[i]?) = wc.map some) (hn : va_nd is = true) (pc2 : Nat) (hpc : pc + 3 = pc2) (k : WW p l e R s m args below meth c cells slots Q Γ A nL ws pc2 lv rest) : WW p l e R s m args below meth c cells slots Q Γ A nL ws pc lv (.ref b :: rest) := fun H locs ls hP hD hS hl => by
  have hroom : d + 1 ≤ R.frames ∧ 8 + (mL + 11) + 35 * d ≤ R.locals := ⟨Nat.le_trans hdd C.2.2.2.2.2.2.2.2.1, by have := C.2.2.2.2.2.2.2.2.2; show 8 + (mL + 11) + 35 * d ≤ R.locals; omega⟩
  have hcb : CallB R s args own index y cy mL ret (.code y cy mL ret :: Tg) (rmD d) 0 0 0 := ⟨rfl, rfl, ((hroom)).1, ((hroom)).2, pay_in C.2.2.2.2.1 (code_good hm.1), List.mem_cons_self, C.2.2.2.2.1 _ hm.1, C.2.2.2.2.1 _ hm.2.1, ⟨hm.2.2.1, hm.2.2.2.1⟩, fun sig h => by have h2 := hm.2.2.2.2.1; rw [h] at h2; exact (Option.some.inj h2).symm, C.2.2.2.2.1 _ hlk⟩
  have hrun := va_runV (e := e) (below := below) (meth := meth) (As := []) (rest := rest) (g := F0 m pc ls (.ref b :: rest)) (locs := locs) (cells := cells) (slots := slots) ⟨C.1, C.2.1, C.2.2.1, C.2.2.2.1, C.2.2.2.2.1⟩ (hct H.size) ⟨hcb, C.2.2.2.2.1 _ him, C.2.2.2.2.1 _ hse⟩ ⟨PCt.blind, by have h9 := va_recv C.2.2.2.2.2.1 hP hc he; rw [hcn] at h9; exact h9, pct_pre C hP hD rfl hC hn⟩ rfl rfl hl.1 rfl (lv_room (catsum_le hrest)) hd ⟨hcs.1, hcs.2⟩
  exact ww_run hrun C.2.2.2.2.2.2.1 hP hD hS hl hC hn rfl hpc (by rw [pB_same is hC]; exact k)
theorem ww_callV1 (C : Cx p R s m args meth c cc own nL Γ A dd) {y : MethodName} {cy : ByteArray} {mL : Nat} {ret : Option FieldType} {d index : Nat} {b : Nat} {v1 : Value} {r : Value} {rest : List Value} (hct : Ct l Γ y cy mL ret d [.ref b, v1] wc (some r) wc') (hm : MI y cy mL ret 1) (him : Cond.instanceMethod y ∈ Tg) (hse : Cond.selects y.cls y y ∈ Tg) (hlk : Cond.methodLink own index y ∈ Tg) (hd : decode cc pc = .ok (.invokevirtual index, 3)) (q0 : Nat) {ci : Nat} {fs : List Value} {qc : vw_C} (he : ws[q0]? = some (b, .inr (ci, fs))) (hc : vwCl[ci]? = some qc) (hcn : qc.1 = y.cls) (hdd : d + 1 ≤ dd) (hmL : mL ≤ 16) (hrest : rest.length ≤ 4) (hcs : cells ≤ R.cells ∧ slots ≤ R.slots) (is : List Nat) (hC : is.map (fun i => ws[i]?) = wc.map some) (hn : va_nd is = true) (ha : wc'.map (fun q => q.1) = wc.map (fun q => q.1)) (pc2 : Nat) (hpc : pc + 3 = pc2) (k : WW p l e R s m args below meth c cells slots Q Γ A nL (pB ws is wc') pc2 lv (r :: rest)) : WW p l e R s m args below meth c cells slots Q Γ A nL ws pc lv (v1 :: .ref b :: rest) := fun H locs ls hP hD hS hl => by
  have hroom : d + 1 ≤ R.frames ∧ 8 + (mL + 11) + 35 * d ≤ R.locals := ⟨Nat.le_trans hdd C.2.2.2.2.2.2.2.2.1, by have := C.2.2.2.2.2.2.2.2.2; show 8 + (mL + 11) + 35 * d ≤ R.locals; omega⟩
  have hcb : CallB R s args own index y cy mL ret (.code y cy mL ret :: Tg) (rmD d) 0 0 1 := ⟨rfl, rfl, ((hroom)).1, ((hroom)).2, pay_in C.2.2.2.2.1 (code_good hm.1), List.mem_cons_self, C.2.2.2.2.1 _ hm.1, C.2.2.2.2.1 _ hm.2.1, ⟨hm.2.2.1, hm.2.2.2.1⟩, fun sig h => by have h2 := hm.2.2.2.2.1; rw [h] at h2; exact (Option.some.inj h2).symm, C.2.2.2.2.1 _ hlk⟩
  have hrun := va_runV (e := e) (below := below) (meth := meth) (As := [v1]) (rest := rest) (g := F0 m pc ls (v1 :: .ref b :: rest)) (locs := locs) (cells := cells) (slots := slots) ⟨C.1, C.2.1, C.2.2.1, C.2.2.2.1, C.2.2.2.2.1⟩ (hct H.size) ⟨hcb, C.2.2.2.2.1 _ him, C.2.2.2.2.1 _ hse⟩ ⟨PCt.blind, by have h9 := va_recv C.2.2.2.2.2.1 hP hc he; rw [hcn] at h9; exact h9, pct_pre C hP hD rfl hC hn⟩ rfl rfl hl.1 rfl (lv_room (catsum_le hrest)) hd ⟨hcs.1, hcs.2⟩
  exact ww_run hrun C.2.2.2.2.2.2.1 hP hD hS hl hC hn ha hpc k
theorem ww_callV1p (C : Cx p R s m args meth c cc own nL Γ A dd) {y : MethodName} {cy : ByteArray} {mL : Nat} {ret : Option FieldType} {d index : Nat} {b : Nat} {v1 : Value} {r : Value} {rest : List Value} (hct : Ct l Γ y cy mL ret d [.ref b, v1] wc (some r) wc) (hm : MI y cy mL ret 1) (him : Cond.instanceMethod y ∈ Tg) (hse : Cond.selects y.cls y y ∈ Tg) (hlk : Cond.methodLink own index y ∈ Tg) (hd : decode cc pc = .ok (.invokevirtual index, 3)) (q0 : Nat) {ci : Nat} {fs : List Value} {qc : vw_C} (he : ws[q0]? = some (b, .inr (ci, fs))) (hc : vwCl[ci]? = some qc) (hcn : qc.1 = y.cls) (hdd : d + 1 ≤ dd) (hmL : mL ≤ 16) (hrest : rest.length ≤ 4) (hcs : cells ≤ R.cells ∧ slots ≤ R.slots) (is : List Nat) (hC : is.map (fun i => ws[i]?) = wc.map some) (hn : va_nd is = true) (pc2 : Nat) (hpc : pc + 3 = pc2) (k : WW p l e R s m args below meth c cells slots Q Γ A nL ws pc2 lv (r :: rest)) : WW p l e R s m args below meth c cells slots Q Γ A nL ws pc lv (v1 :: .ref b :: rest) := fun H locs ls hP hD hS hl => by
  have hroom : d + 1 ≤ R.frames ∧ 8 + (mL + 11) + 35 * d ≤ R.locals := ⟨Nat.le_trans hdd C.2.2.2.2.2.2.2.2.1, by have := C.2.2.2.2.2.2.2.2.2; show 8 + (mL + 11) + 35 * d ≤ R.locals; omega⟩
  have hcb : CallB R s args own index y cy mL ret (.code y cy mL ret :: Tg) (rmD d) 0 0 1 := ⟨rfl, rfl, ((hroom)).1, ((hroom)).2, pay_in C.2.2.2.2.1 (code_good hm.1), List.mem_cons_self, C.2.2.2.2.1 _ hm.1, C.2.2.2.2.1 _ hm.2.1, ⟨hm.2.2.1, hm.2.2.2.1⟩, fun sig h => by have h2 := hm.2.2.2.2.1; rw [h] at h2; exact (Option.some.inj h2).symm, C.2.2.2.2.1 _ hlk⟩
  have hrun := va_runV (e := e) (below := below) (meth := meth) (As := [v1]) (rest := rest) (g := F0 m pc ls (v1 :: .ref b :: rest)) (locs := locs) (cells := cells) (slots := slots) ⟨C.1, C.2.1, C.2.2.1, C.2.2.2.1, C.2.2.2.2.1⟩ (hct H.size) ⟨hcb, C.2.2.2.2.1 _ him, C.2.2.2.2.1 _ hse⟩ ⟨PCt.blind, by have h9 := va_recv C.2.2.2.2.2.1 hP hc he; rw [hcn] at h9; exact h9, pct_pre C hP hD rfl hC hn⟩ rfl rfl hl.1 rfl (lv_room (catsum_le hrest)) hd ⟨hcs.1, hcs.2⟩
  exact ww_run hrun C.2.2.2.2.2.2.1 hP hD hS hl hC hn rfl hpc (by rw [pB_same is hC]; exact k)
theorem ww_callV1v (C : Cx p R s m args meth c cc own nL Γ A dd) {y : MethodName} {cy : ByteArray} {mL : Nat} {ret : Option FieldType} {d index : Nat} {b : Nat} {v1 : Value} {r : Value} {rest : List Value} (hct : Ct l Γ y cy mL ret d [.ref b, v1] wc none wc') (hm : MI y cy mL ret 1) (him : Cond.instanceMethod y ∈ Tg) (hse : Cond.selects y.cls y y ∈ Tg) (hlk : Cond.methodLink own index y ∈ Tg) (hd : decode cc pc = .ok (.invokevirtual index, 3)) (q0 : Nat) {ci : Nat} {fs : List Value} {qc : vw_C} (he : ws[q0]? = some (b, .inr (ci, fs))) (hc : vwCl[ci]? = some qc) (hcn : qc.1 = y.cls) (hdd : d + 1 ≤ dd) (hmL : mL ≤ 16) (hrest : rest.length ≤ 4) (hcs : cells ≤ R.cells ∧ slots ≤ R.slots) (is : List Nat) (hC : is.map (fun i => ws[i]?) = wc.map some) (hn : va_nd is = true) (ha : wc'.map (fun q => q.1) = wc.map (fun q => q.1)) (pc2 : Nat) (hpc : pc + 3 = pc2) (k : WW p l e R s m args below meth c cells slots Q Γ A nL (pB ws is wc') pc2 lv rest) : WW p l e R s m args below meth c cells slots Q Γ A nL ws pc lv (v1 :: .ref b :: rest) := fun H locs ls hP hD hS hl => by
  have hroom : d + 1 ≤ R.frames ∧ 8 + (mL + 11) + 35 * d ≤ R.locals := ⟨Nat.le_trans hdd C.2.2.2.2.2.2.2.2.1, by have := C.2.2.2.2.2.2.2.2.2; show 8 + (mL + 11) + 35 * d ≤ R.locals; omega⟩
  have hcb : CallB R s args own index y cy mL ret (.code y cy mL ret :: Tg) (rmD d) 0 0 1 := ⟨rfl, rfl, ((hroom)).1, ((hroom)).2, pay_in C.2.2.2.2.1 (code_good hm.1), List.mem_cons_self, C.2.2.2.2.1 _ hm.1, C.2.2.2.2.1 _ hm.2.1, ⟨hm.2.2.1, hm.2.2.2.1⟩, fun sig h => by have h2 := hm.2.2.2.2.1; rw [h] at h2; exact (Option.some.inj h2).symm, C.2.2.2.2.1 _ hlk⟩
  have hrun := va_runV (e := e) (below := below) (meth := meth) (As := [v1]) (rest := rest) (g := F0 m pc ls (v1 :: .ref b :: rest)) (locs := locs) (cells := cells) (slots := slots) ⟨C.1, C.2.1, C.2.2.1, C.2.2.2.1, C.2.2.2.2.1⟩ (hct H.size) ⟨hcb, C.2.2.2.2.1 _ him, C.2.2.2.2.1 _ hse⟩ ⟨PCt.blind, by have h9 := va_recv C.2.2.2.2.2.1 hP hc he; rw [hcn] at h9; exact h9, pct_pre C hP hD rfl hC hn⟩ rfl rfl hl.1 rfl (lv_room (catsum_le hrest)) hd ⟨hcs.1, hcs.2⟩
  exact ww_run hrun C.2.2.2.2.2.2.1 hP hD hS hl hC hn ha hpc k
theorem ww_callV1vp (C : Cx p R s m args meth c cc own nL Γ A dd) {y : MethodName} {cy : ByteArray} {mL : Nat} {ret : Option FieldType} {d index : Nat} {b : Nat} {v1 : Value} {r : Value} {rest : List Value} (hct : Ct l Γ y cy mL ret d [.ref b, v1] wc none wc) (hm : MI y cy mL ret 1) (him : Cond.instanceMethod y ∈ Tg) (hse : Cond.selects y.cls y y ∈ Tg) (hlk : Cond.methodLink own index y ∈ Tg) (hd : decode cc pc = .ok (.invokevirtual index, 3)) (q0 : Nat) {ci : Nat} {fs : List Value} {qc : vw_C} (he : ws[q0]? = some (b, .inr (ci, fs))) (hc : vwCl[ci]? = some qc) (hcn : qc.1 = y.cls) (hdd : d + 1 ≤ dd) (hmL : mL ≤ 16) (hrest : rest.length ≤ 4) (hcs : cells ≤ R.cells ∧ slots ≤ R.slots) (is : List Nat) (hC : is.map (fun i => ws[i]?) = wc.map some) (hn : va_nd is = true) (pc2 : Nat) (hpc : pc + 3 = pc2) (k : WW p l e R s m args below meth c cells slots Q Γ A nL ws pc2 lv rest) : WW p l e R s m args below meth c cells slots Q Γ A nL ws pc lv (v1 :: .ref b :: rest) := fun H locs ls hP hD hS hl => by
  have hroom : d + 1 ≤ R.frames ∧ 8 + (mL + 11) + 35 * d ≤ R.locals := ⟨Nat.le_trans hdd C.2.2.2.2.2.2.2.2.1, by have := C.2.2.2.2.2.2.2.2.2; show 8 + (mL + 11) + 35 * d ≤ R.locals; omega⟩
  have hcb : CallB R s args own index y cy mL ret (.code y cy mL ret :: Tg) (rmD d) 0 0 1 := ⟨rfl, rfl, ((hroom)).1, ((hroom)).2, pay_in C.2.2.2.2.1 (code_good hm.1), List.mem_cons_self, C.2.2.2.2.1 _ hm.1, C.2.2.2.2.1 _ hm.2.1, ⟨hm.2.2.1, hm.2.2.2.1⟩, fun sig h => by have h2 := hm.2.2.2.2.1; rw [h] at h2; exact (Option.some.inj h2).symm, C.2.2.2.2.1 _ hlk⟩
  have hrun := va_runV (e := e) (below := below) (meth := meth) (As := [v1]) (rest := rest) (g := F0 m pc ls (v1 :: .ref b :: rest)) (locs := locs) (cells := cells) (slots := slots) ⟨C.1, C.2.1, C.2.2.1, C.2.2.2.1, C.2.2.2.2.1⟩ (hct H.size) ⟨hcb, C.2.2.2.2.1 _ him, C.2.2.2.2.1 _ hse⟩ ⟨PCt.blind, by have h9 := va_recv C.2.2.2.2.2.1 hP hc he; rw [hcn] at h9; exact h9, pct_pre C hP hD rfl hC hn⟩ rfl rfl hl.1 rfl (lv_room (catsum_le hrest)) hd ⟨hcs.1, hcs.2⟩
  exact ww_run hrun C.2.2.2.2.2.2.1 hP hD hS hl hC hn rfl hpc (by rw [pB_same is hC]; exact k)
theorem ww_callV2 (C : Cx p R s m args meth c cc own nL Γ A dd) {y : MethodName} {cy : ByteArray} {mL : Nat} {ret : Option FieldType} {d index : Nat} {b : Nat} {v1 v2 : Value} {r : Value} {rest : List Value} (hct : Ct l Γ y cy mL ret d [.ref b, v1, v2] wc (some r) wc') (hm : MI y cy mL ret 2) (him : Cond.instanceMethod y ∈ Tg) (hse : Cond.selects y.cls y y ∈ Tg) (hlk : Cond.methodLink own index y ∈ Tg) (hd : decode cc pc = .ok (.invokevirtual index, 3)) (q0 : Nat) {ci : Nat} {fs : List Value} {qc : vw_C} (he : ws[q0]? = some (b, .inr (ci, fs))) (hc : vwCl[ci]? = some qc) (hcn : qc.1 = y.cls) (hdd : d + 1 ≤ dd) (hmL : mL ≤ 16) (hrest : rest.length ≤ 4) (hcs : cells ≤ R.cells ∧ slots ≤ R.slots) (is : List Nat) (hC : is.map (fun i => ws[i]?) = wc.map some) (hn : va_nd is = true) (ha : wc'.map (fun q => q.1) = wc.map (fun q => q.1)) (pc2 : Nat) (hpc : pc + 3 = pc2) (k : WW p l e R s m args below meth c cells slots Q Γ A nL (pB ws is wc') pc2 lv (r :: rest)) : WW p l e R s m args below meth c cells slots Q Γ A nL ws pc lv (v2 :: v1 :: .ref b :: rest) := fun H locs ls hP hD hS hl => by
  have hroom : d + 1 ≤ R.frames ∧ 8 + (mL + 11) + 35 * d ≤ R.locals := ⟨Nat.le_trans hdd C.2.2.2.2.2.2.2.2.1, by have := C.2.2.2.2.2.2.2.2.2; show 8 + (mL + 11) + 35 * d ≤ R.locals; omega⟩
  have hcb : CallB R s args own index y cy mL ret (.code y cy mL ret :: Tg) (rmD d) 0 0 2 := ⟨rfl, rfl, ((hroom)).1, ((hroom)).2, pay_in C.2.2.2.2.1 (code_good hm.1), List.mem_cons_self, C.2.2.2.2.1 _ hm.1, C.2.2.2.2.1 _ hm.2.1, ⟨hm.2.2.1, hm.2.2.2.1⟩, fun sig h => by have h2 := hm.2.2.2.2.1; rw [h] at h2; exact (Option.some.inj h2).symm, C.2.2.2.2.1 _ hlk⟩
  have hrun := va_runV (e := e) (below := below) (meth := meth) (As := [v1, v2]) (rest := rest) (g := F0 m pc ls (v2 :: v1 :: .ref b :: rest)) (locs := locs) (cells := cells) (slots := slots) ⟨C.1, C.2.1, C.2.2.1, C.2.2.2.1, C.2.2.2.2.1⟩ (hct H.size) ⟨hcb, C.2.2.2.2.1 _ him, C.2.2.2.2.1 _ hse⟩ ⟨PCt.blind, by have h9 := va_recv C.2.2.2.2.2.1 hP hc he; rw [hcn] at h9; exact h9, pct_pre C hP hD rfl hC hn⟩ rfl rfl hl.1 rfl (lv_room (catsum_le hrest)) hd ⟨hcs.1, hcs.2⟩
  exact ww_run hrun C.2.2.2.2.2.2.1 hP hD hS hl hC hn ha hpc k
theorem ww_callV2p (C : Cx p R s m args meth c cc own nL Γ A dd) {y : MethodName} {cy : ByteArray} {mL : Nat} {ret : Option FieldType} {d index : Nat} {b : Nat} {v1 v2 : Value} {r : Value} {rest : List Value} (hct : Ct l Γ y cy mL ret d [.ref b, v1, v2] wc (some r) wc) (hm : MI y cy mL ret 2) (him : Cond.instanceMethod y ∈ Tg) (hse : Cond.selects y.cls y y ∈ Tg) (hlk : Cond.methodLink own index y ∈ Tg) (hd : decode cc pc = .ok (.invokevirtual index, 3)) (q0 : Nat) {ci : Nat} {fs : List Value} {qc : vw_C} (he : ws[q0]? = some (b, .inr (ci, fs))) (hc : vwCl[ci]? = some qc) (hcn : qc.1 = y.cls) (hdd : d + 1 ≤ dd) (hmL : mL ≤ 16) (hrest : rest.length ≤ 4) (hcs : cells ≤ R.cells ∧ slots ≤ R.slots) (is : List Nat) (hC : is.map (fun i => ws[i]?) = wc.map some) (hn : va_nd is = true) (pc2 : Nat) (hpc : pc + 3 = pc2) (k : WW p l e R s m args below meth c cells slots Q Γ A nL ws pc2 lv (r :: rest)) : WW p l e R s m args below meth c cells slots Q Γ A nL ws pc lv (v2 :: v1 :: .ref b :: rest) := fun H locs ls hP hD hS hl => by
  have hroom : d + 1 ≤ R.frames ∧ 8 + (mL + 11) + 35 * d ≤ R.locals := ⟨Nat.le_trans hdd C.2.2.2.2.2.2.2.2.1, by have := C.2.2.2.2.2.2.2.2.2; show 8 + (mL + 11) + 35 * d ≤ R.locals; omega⟩
  have hcb : CallB R s args own index y cy mL ret (.code y cy mL ret :: Tg) (rmD d) 0 0 2 := ⟨rfl, rfl, ((hroom)).1, ((hroom)).2, pay_in C.2.2.2.2.1 (code_good hm.1), List.mem_cons_self, C.2.2.2.2.1 _ hm.1, C.2.2.2.2.1 _ hm.2.1, ⟨hm.2.2.1, hm.2.2.2.1⟩, fun sig h => by have h2 := hm.2.2.2.2.1; rw [h] at h2; exact (Option.some.inj h2).symm, C.2.2.2.2.1 _ hlk⟩
  have hrun := va_runV (e := e) (below := below) (meth := meth) (As := [v1, v2]) (rest := rest) (g := F0 m pc ls (v2 :: v1 :: .ref b :: rest)) (locs := locs) (cells := cells) (slots := slots) ⟨C.1, C.2.1, C.2.2.1, C.2.2.2.1, C.2.2.2.2.1⟩ (hct H.size) ⟨hcb, C.2.2.2.2.1 _ him, C.2.2.2.2.1 _ hse⟩ ⟨PCt.blind, by have h9 := va_recv C.2.2.2.2.2.1 hP hc he; rw [hcn] at h9; exact h9, pct_pre C hP hD rfl hC hn⟩ rfl rfl hl.1 rfl (lv_room (catsum_le hrest)) hd ⟨hcs.1, hcs.2⟩
  exact ww_run hrun C.2.2.2.2.2.2.1 hP hD hS hl hC hn rfl hpc (by rw [pB_same is hC]; exact k)
theorem ww_callV2v (C : Cx p R s m args meth c cc own nL Γ A dd) {y : MethodName} {cy : ByteArray} {mL : Nat} {ret : Option FieldType} {d index : Nat} {b : Nat} {v1 v2 : Value} {r : Value} {rest : List Value} (hct : Ct l Γ y cy mL ret d [.ref b, v1, v2] wc none wc') (hm : MI y cy mL ret 2) (him : Cond.instanceMethod y ∈ Tg) (hse : Cond.selects y.cls y y ∈ Tg) (hlk : Cond.methodLink own index y ∈ Tg) (hd : decode cc pc = .ok (.invokevirtual index, 3)) (q0 : Nat) {ci : Nat} {fs : List Value} {qc : vw_C} (he : ws[q0]? = some (b, .inr (ci, fs))) (hc : vwCl[ci]? = some qc) (hcn : qc.1 = y.cls) (hdd : d + 1 ≤ dd) (hmL : mL ≤ 16) (hrest : rest.length ≤ 4) (hcs : cells ≤ R.cells ∧ slots ≤ R.slots) (is : List Nat) (hC : is.map (fun i => ws[i]?) = wc.map some) (hn : va_nd is = true) (ha : wc'.map (fun q => q.1) = wc.map (fun q => q.1)) (pc2 : Nat) (hpc : pc + 3 = pc2) (k : WW p l e R s m args below meth c cells slots Q Γ A nL (pB ws is wc') pc2 lv rest) : WW p l e R s m args below meth c cells slots Q Γ A nL ws pc lv (v2 :: v1 :: .ref b :: rest) := fun H locs ls hP hD hS hl => by
  have hroom : d + 1 ≤ R.frames ∧ 8 + (mL + 11) + 35 * d ≤ R.locals := ⟨Nat.le_trans hdd C.2.2.2.2.2.2.2.2.1, by have := C.2.2.2.2.2.2.2.2.2; show 8 + (mL + 11) + 35 * d ≤ R.locals; omega⟩
  have hcb : CallB R s args own index y cy mL ret (.code y cy mL ret :: Tg) (rmD d) 0 0 2 := ⟨rfl, rfl, ((hroom)).1, ((hroom)).2, pay_in C.2.2.2.2.1 (code_good hm.1), List.mem_cons_self, C.2.2.2.2.1 _ hm.1, C.2.2.2.2.1 _ hm.2.1, ⟨hm.2.2.1, hm.2.2.2.1⟩, fun sig h => by have h2 := hm.2.2.2.2.1; rw [h] at h2; exact (Option.some.inj h2).symm, C.2.2.2.2.1 _ hlk⟩
  have hrun := va_runV (e := e) (below := below) (meth := meth) (As := [v1, v2]) (rest := rest) (g := F0 m pc ls (v2 :: v1 :: .ref b :: rest)) (locs := locs) (cells := cells) (slots := slots) ⟨C.1, C.2.1, C.2.2.1, C.2.2.2.1, C.2.2.2.2.1⟩ (hct H.size) ⟨hcb, C.2.2.2.2.1 _ him, C.2.2.2.2.1 _ hse⟩ ⟨PCt.blind, by have h9 := va_recv C.2.2.2.2.2.1 hP hc he; rw [hcn] at h9; exact h9, pct_pre C hP hD rfl hC hn⟩ rfl rfl hl.1 rfl (lv_room (catsum_le hrest)) hd ⟨hcs.1, hcs.2⟩
  exact ww_run hrun C.2.2.2.2.2.2.1 hP hD hS hl hC hn ha hpc k
theorem ww_callV2vp (C : Cx p R s m args meth c cc own nL Γ A dd) {y : MethodName} {cy : ByteArray} {mL : Nat} {ret : Option FieldType} {d index : Nat} {b : Nat} {v1 v2 : Value} {r : Value} {rest : List Value} (hct : Ct l Γ y cy mL ret d [.ref b, v1, v2] wc none wc) (hm : MI y cy mL ret 2) (him : Cond.instanceMethod y ∈ Tg) (hse : Cond.selects y.cls y y ∈ Tg) (hlk : Cond.methodLink own index y ∈ Tg) (hd : decode cc pc = .ok (.invokevirtual index, 3)) (q0 : Nat) {ci : Nat} {fs : List Value} {qc : vw_C} (he : ws[q0]? = some (b, .inr (ci, fs))) (hc : vwCl[ci]? = some qc) (hcn : qc.1 = y.cls) (hdd : d + 1 ≤ dd) (hmL : mL ≤ 16) (hrest : rest.length ≤ 4) (hcs : cells ≤ R.cells ∧ slots ≤ R.slots) (is : List Nat) (hC : is.map (fun i => ws[i]?) = wc.map some) (hn : va_nd is = true) (pc2 : Nat) (hpc : pc + 3 = pc2) (k : WW p l e R s m args below meth c cells slots Q Γ A nL ws pc2 lv rest) : WW p l e R s m args below meth c cells slots Q Γ A nL ws pc lv (v2 :: v1 :: .ref b :: rest) := fun H locs ls hP hD hS hl => by
  have hroom : d + 1 ≤ R.frames ∧ 8 + (mL + 11) + 35 * d ≤ R.locals := ⟨Nat.le_trans hdd C.2.2.2.2.2.2.2.2.1, by have := C.2.2.2.2.2.2.2.2.2; show 8 + (mL + 11) + 35 * d ≤ R.locals; omega⟩
  have hcb : CallB R s args own index y cy mL ret (.code y cy mL ret :: Tg) (rmD d) 0 0 2 := ⟨rfl, rfl, ((hroom)).1, ((hroom)).2, pay_in C.2.2.2.2.1 (code_good hm.1), List.mem_cons_self, C.2.2.2.2.1 _ hm.1, C.2.2.2.2.1 _ hm.2.1, ⟨hm.2.2.1, hm.2.2.2.1⟩, fun sig h => by have h2 := hm.2.2.2.2.1; rw [h] at h2; exact (Option.some.inj h2).symm, C.2.2.2.2.1 _ hlk⟩
  have hrun := va_runV (e := e) (below := below) (meth := meth) (As := [v1, v2]) (rest := rest) (g := F0 m pc ls (v2 :: v1 :: .ref b :: rest)) (locs := locs) (cells := cells) (slots := slots) ⟨C.1, C.2.1, C.2.2.1, C.2.2.2.1, C.2.2.2.2.1⟩ (hct H.size) ⟨hcb, C.2.2.2.2.1 _ him, C.2.2.2.2.1 _ hse⟩ ⟨PCt.blind, by have h9 := va_recv C.2.2.2.2.2.1 hP hc he; rw [hcn] at h9; exact h9, pct_pre C hP hD rfl hC hn⟩ rfl rfl hl.1 rfl (lv_room (catsum_le hrest)) hd ⟨hcs.1, hcs.2⟩
  exact ww_run hrun C.2.2.2.2.2.2.1 hP hD hS hl hC hn rfl hpc (by rw [pB_same is hC]; exact k)
theorem ww_callV3 (C : Cx p R s m args meth c cc own nL Γ A dd) {y : MethodName} {cy : ByteArray} {mL : Nat} {ret : Option FieldType} {d index : Nat} {b : Nat} {v1 v2 v3 : Value} {r : Value} {rest : List Value} (hct : Ct l Γ y cy mL ret d [.ref b, v1, v2, v3] wc (some r) wc') (hm : MI y cy mL ret 3) (him : Cond.instanceMethod y ∈ Tg) (hse : Cond.selects y.cls y y ∈ Tg) (hlk : Cond.methodLink own index y ∈ Tg) (hd : decode cc pc = .ok (.invokevirtual index, 3)) (q0 : Nat) {ci : Nat} {fs : List Value} {qc : vw_C} (he : ws[q0]? = some (b, .inr (ci, fs))) (hc : vwCl[ci]? = some qc) (hcn : qc.1 = y.cls) (hdd : d + 1 ≤ dd) (hmL : mL ≤ 16) (hrest : rest.length ≤ 4) (hcs : cells ≤ R.cells ∧ slots ≤ R.slots) (is : List Nat) (hC : is.map (fun i => ws[i]?) = wc.map some) (hn : va_nd is = true) (ha : wc'.map (fun q => q.1) = wc.map (fun q => q.1)) (pc2 : Nat) (hpc : pc + 3 = pc2) (k : WW p l e R s m args below meth c cells slots Q Γ A nL (pB ws is wc') pc2 lv (r :: rest)) : WW p l e R s m args below meth c cells slots Q Γ A nL ws pc lv (v3 :: v2 :: v1 :: .ref b :: rest) := fun H locs ls hP hD hS hl => by
  have hroom : d + 1 ≤ R.frames ∧ 8 + (mL + 11) + 35 * d ≤ R.locals := ⟨Nat.le_trans hdd C.2.2.2.2.2.2.2.2.1, by have := C.2.2.2.2.2.2.2.2.2; show 8 + (mL + 11) + 35 * d ≤ R.locals; omega⟩
  have hcb : CallB R s args own index y cy mL ret (.code y cy mL ret :: Tg) (rmD d) 0 0 3 := ⟨rfl, rfl, ((hroom)).1, ((hroom)).2, pay_in C.2.2.2.2.1 (code_good hm.1), List.mem_cons_self, C.2.2.2.2.1 _ hm.1, C.2.2.2.2.1 _ hm.2.1, ⟨hm.2.2.1, hm.2.2.2.1⟩, fun sig h => by have h2 := hm.2.2.2.2.1; rw [h] at h2; exact (Option.some.inj h2).symm, C.2.2.2.2.1 _ hlk⟩
  have hrun := va_runV (e := e) (below := below) (meth := meth) (As := [v1, v2, v3]) (rest := rest) (g := F0 m pc ls (v3 :: v2 :: v1 :: .ref b :: rest)) (locs := locs) (cells := cells) (slots := slots) ⟨C.1, C.2.1, C.2.2.1, C.2.2.2.1, C.2.2.2.2.1⟩ (hct H.size) ⟨hcb, C.2.2.2.2.1 _ him, C.2.2.2.2.1 _ hse⟩ ⟨PCt.blind, by have h9 := va_recv C.2.2.2.2.2.1 hP hc he; rw [hcn] at h9; exact h9, pct_pre C hP hD rfl hC hn⟩ rfl rfl hl.1 rfl (lv_room (catsum_le hrest)) hd ⟨hcs.1, hcs.2⟩
  exact ww_run hrun C.2.2.2.2.2.2.1 hP hD hS hl hC hn ha hpc k
theorem ww_callV3p (C : Cx p R s m args meth c cc own nL Γ A dd) {y : MethodName} {cy : ByteArray} {mL : Nat} {ret : Option FieldType} {d index : Nat} {b : Nat} {v1 v2 v3 : Value} {r : Value} {rest : List Value} (hct : Ct l Γ y cy mL ret d [.ref b, v1, v2, v3] wc (some r) wc) (hm : MI y cy mL ret 3) (him : Cond.instanceMethod y ∈ Tg) (hse : Cond.selects y.cls y y ∈ Tg) (hlk : Cond.methodLink own index y ∈ Tg) (hd : decode cc pc = .ok (.invokevirtual index, 3)) (q0 : Nat) {ci : Nat} {fs : List Value} {qc : vw_C} (he : ws[q0]? = some (b, .inr (ci, fs))) (hc : vwCl[ci]? = some qc) (hcn : qc.1 = y.cls) (hdd : d + 1 ≤ dd) (hmL : mL ≤ 16) (hrest : rest.length ≤ 4) (hcs : cells ≤ R.cells ∧ slots ≤ R.slots) (is : List Nat) (hC : is.map (fun i => ws[i]?) = wc.map some) (hn : va_nd is = true) (pc2 : Nat) (hpc : pc + 3 = pc2) (k : WW p l e R s m args below meth c cells slots Q Γ A nL ws pc2 lv (r :: rest)) : WW p l e R s m args below meth c cells slots Q Γ A nL ws pc lv (v3 :: v2 :: v1 :: .ref b :: rest) := fun H locs ls hP hD hS hl => by
  have hroom : d + 1 ≤ R.frames ∧ 8 + (mL + 11) + 35 * d ≤ R.locals := ⟨Nat.le_trans hdd C.2.2.2.2.2.2.2.2.1, by have := C.2.2.2.2.2.2.2.2.2; show 8 + (mL + 11) + 35 * d ≤ R.locals; omega⟩
  have hcb : CallB R s args own index y cy mL ret (.code y cy mL ret :: Tg) (rmD d) 0 0 3 := ⟨rfl, rfl, ((hroom)).1, ((hroom)).2, pay_in C.2.2.2.2.1 (code_good hm.1), List.mem_cons_self, C.2.2.2.2.1 _ hm.1, C.2.2.2.2.1 _ hm.2.1, ⟨hm.2.2.1, hm.2.2.2.1⟩, fun sig h => by have h2 := hm.2.2.2.2.1; rw [h] at h2; exact (Option.some.inj h2).symm, C.2.2.2.2.1 _ hlk⟩
  have hrun := va_runV (e := e) (below := below) (meth := meth) (As := [v1, v2, v3]) (rest := rest) (g := F0 m pc ls (v3 :: v2 :: v1 :: .ref b :: rest)) (locs := locs) (cells := cells) (slots := slots) ⟨C.1, C.2.1, C.2.2.1, C.2.2.2.1, C.2.2.2.2.1⟩ (hct H.size) ⟨hcb, C.2.2.2.2.1 _ him, C.2.2.2.2.1 _ hse⟩ ⟨PCt.blind, by have h9 := va_recv C.2.2.2.2.2.1 hP hc he; rw [hcn] at h9; exact h9, pct_pre C hP hD rfl hC hn⟩ rfl rfl hl.1 rfl (lv_room (catsum_le hrest)) hd ⟨hcs.1, hcs.2⟩
  exact ww_run hrun C.2.2.2.2.2.2.1 hP hD hS hl hC hn rfl hpc (by rw [pB_same is hC]; exact k)
theorem ww_callV3v (C : Cx p R s m args meth c cc own nL Γ A dd) {y : MethodName} {cy : ByteArray} {mL : Nat} {ret : Option FieldType} {d index : Nat} {b : Nat} {v1 v2 v3 : Value} {r : Value} {rest : List Value} (hct : Ct l Γ y cy mL ret d [.ref b, v1, v2, v3] wc none wc') (hm : MI y cy mL ret 3) (him : Cond.instanceMethod y ∈ Tg) (hse : Cond.selects y.cls y y ∈ Tg) (hlk : Cond.methodLink own index y ∈ Tg) (hd : decode cc pc = .ok (.invokevirtual index, 3)) (q0 : Nat) {ci : Nat} {fs : List Value} {qc : vw_C} (he : ws[q0]? = some (b, .inr (ci, fs))) (hc : vwCl[ci]? = some qc) (hcn : qc.1 = y.cls) (hdd : d + 1 ≤ dd) (hmL : mL ≤ 16) (hrest : rest.length ≤ 4) (hcs : cells ≤ R.cells ∧ slots ≤ R.slots) (is : List Nat) (hC : is.map (fun i => ws[i]?) = wc.map some) (hn : va_nd is = true) (ha : wc'.map (fun q => q.1) = wc.map (fun q => q.1)) (pc2 : Nat) (hpc : pc + 3 = pc2) (k : WW p l e R s m args below meth c cells slots Q Γ A nL (pB ws is wc') pc2 lv rest) : WW p l e R s m args below meth c cells slots Q Γ A nL ws pc lv (v3 :: v2 :: v1 :: .ref b :: rest) := fun H locs ls hP hD hS hl => by
  have hroom : d + 1 ≤ R.frames ∧ 8 + (mL + 11) + 35 * d ≤ R.locals := ⟨Nat.le_trans hdd C.2.2.2.2.2.2.2.2.1, by have := C.2.2.2.2.2.2.2.2.2; show 8 + (mL + 11) + 35 * d ≤ R.locals; omega⟩
  have hcb : CallB R s args own index y cy mL ret (.code y cy mL ret :: Tg) (rmD d) 0 0 3 := ⟨rfl, rfl, ((hroom)).1, ((hroom)).2, pay_in C.2.2.2.2.1 (code_good hm.1), List.mem_cons_self, C.2.2.2.2.1 _ hm.1, C.2.2.2.2.1 _ hm.2.1, ⟨hm.2.2.1, hm.2.2.2.1⟩, fun sig h => by have h2 := hm.2.2.2.2.1; rw [h] at h2; exact (Option.some.inj h2).symm, C.2.2.2.2.1 _ hlk⟩
  have hrun := va_runV (e := e) (below := below) (meth := meth) (As := [v1, v2, v3]) (rest := rest) (g := F0 m pc ls (v3 :: v2 :: v1 :: .ref b :: rest)) (locs := locs) (cells := cells) (slots := slots) ⟨C.1, C.2.1, C.2.2.1, C.2.2.2.1, C.2.2.2.2.1⟩ (hct H.size) ⟨hcb, C.2.2.2.2.1 _ him, C.2.2.2.2.1 _ hse⟩ ⟨PCt.blind, by have h9 := va_recv C.2.2.2.2.2.1 hP hc he; rw [hcn] at h9; exact h9, pct_pre C hP hD rfl hC hn⟩ rfl rfl hl.1 rfl (lv_room (catsum_le hrest)) hd ⟨hcs.1, hcs.2⟩
  exact ww_run hrun C.2.2.2.2.2.2.1 hP hD hS hl hC hn ha hpc k
theorem ww_callV3vp (C : Cx p R s m args meth c cc own nL Γ A dd) {y : MethodName} {cy : ByteArray} {mL : Nat} {ret : Option FieldType} {d index : Nat} {b : Nat} {v1 v2 v3 : Value} {r : Value} {rest : List Value} (hct : Ct l Γ y cy mL ret d [.ref b, v1, v2, v3] wc none wc) (hm : MI y cy mL ret 3) (him : Cond.instanceMethod y ∈ Tg) (hse : Cond.selects y.cls y y ∈ Tg) (hlk : Cond.methodLink own index y ∈ Tg) (hd : decode cc pc = .ok (.invokevirtual index, 3)) (q0 : Nat) {ci : Nat} {fs : List Value} {qc : vw_C} (he : ws[q0]? = some (b, .inr (ci, fs))) (hc : vwCl[ci]? = some qc) (hcn : qc.1 = y.cls) (hdd : d + 1 ≤ dd) (hmL : mL ≤ 16) (hrest : rest.length ≤ 4) (hcs : cells ≤ R.cells ∧ slots ≤ R.slots) (is : List Nat) (hC : is.map (fun i => ws[i]?) = wc.map some) (hn : va_nd is = true) (pc2 : Nat) (hpc : pc + 3 = pc2) (k : WW p l e R s m args below meth c cells slots Q Γ A nL ws pc2 lv rest) : WW p l e R s m args below meth c cells slots Q Γ A nL ws pc lv (v3 :: v2 :: v1 :: .ref b :: rest) := fun H locs ls hP hD hS hl => by
  have hroom : d + 1 ≤ R.frames ∧ 8 + (mL + 11) + 35 * d ≤ R.locals := ⟨Nat.le_trans hdd C.2.2.2.2.2.2.2.2.1, by have := C.2.2.2.2.2.2.2.2.2; show 8 + (mL + 11) + 35 * d ≤ R.locals; omega⟩
  have hcb : CallB R s args own index y cy mL ret (.code y cy mL ret :: Tg) (rmD d) 0 0 3 := ⟨rfl, rfl, ((hroom)).1, ((hroom)).2, pay_in C.2.2.2.2.1 (code_good hm.1), List.mem_cons_self, C.2.2.2.2.1 _ hm.1, C.2.2.2.2.1 _ hm.2.1, ⟨hm.2.2.1, hm.2.2.2.1⟩, fun sig h => by have h2 := hm.2.2.2.2.1; rw [h] at h2; exact (Option.some.inj h2).symm, C.2.2.2.2.1 _ hlk⟩
  have hrun := va_runV (e := e) (below := below) (meth := meth) (As := [v1, v2, v3]) (rest := rest) (g := F0 m pc ls (v3 :: v2 :: v1 :: .ref b :: rest)) (locs := locs) (cells := cells) (slots := slots) ⟨C.1, C.2.1, C.2.2.1, C.2.2.2.1, C.2.2.2.2.1⟩ (hct H.size) ⟨hcb, C.2.2.2.2.1 _ him, C.2.2.2.2.1 _ hse⟩ ⟨PCt.blind, by have h9 := va_recv C.2.2.2.2.2.1 hP hc he; rw [hcn] at h9; exact h9, pct_pre C hP hD rfl hC hn⟩ rfl rfl hl.1 rfl (lv_room (catsum_le hrest)) hd ⟨hcs.1, hcs.2⟩
  exact ww_run hrun C.2.2.2.2.2.2.1 hP hD hS hl hC hn rfl hpc (by rw [pB_same is hC]; exact k)
theorem ww_callV4 (C : Cx p R s m args meth c cc own nL Γ A dd) {y : MethodName} {cy : ByteArray} {mL : Nat} {ret : Option FieldType} {d index : Nat} {b : Nat} {v1 v2 v3 v4 : Value} {r : Value} {rest : List Value} (hct : Ct l Γ y cy mL ret d [.ref b, v1, v2, v3, v4] wc (some r) wc') (hm : MI y cy mL ret 4) (him : Cond.instanceMethod y ∈ Tg) (hse : Cond.selects y.cls y y ∈ Tg) (hlk : Cond.methodLink own index y ∈ Tg) (hd : decode cc pc = .ok (.invokevirtual index, 3)) (q0 : Nat) {ci : Nat} {fs : List Value} {qc : vw_C} (he : ws[q0]? = some (b, .inr (ci, fs))) (hc : vwCl[ci]? = some qc) (hcn : qc.1 = y.cls) (hdd : d + 1 ≤ dd) (hmL : mL ≤ 16) (hrest : rest.length ≤ 4) (hcs : cells ≤ R.cells ∧ slots ≤ R.slots) (is : List Nat) (hC : is.map (fun i => ws[i]?) = wc.map some) (hn : va_nd is = true) (ha : wc'.map (fun q => q.1) = wc.map (fun q => q.1)) (pc2 : Nat) (hpc : pc + 3 = pc2) (k : WW p l e R s m args below meth c cells slots Q Γ A nL (pB ws is wc') pc2 lv (r :: rest)) : WW p l e R s m args below meth c cells slots Q Γ A nL ws pc lv (v4 :: v3 :: v2 :: v1 :: .ref b :: rest) := fun H locs ls hP hD hS hl => by
  have hroom : d + 1 ≤ R.frames ∧ 8 + (mL + 11) + 35 * d ≤ R.locals := ⟨Nat.le_trans hdd C.2.2.2.2.2.2.2.2.1, by have := C.2.2.2.2.2.2.2.2.2; show 8 + (mL + 11) + 35 * d ≤ R.locals; omega⟩
  have hcb : CallB R s args own index y cy mL ret (.code y cy mL ret :: Tg) (rmD d) 0 0 4 := ⟨rfl, rfl, ((hroom)).1, ((hroom)).2, pay_in C.2.2.2.2.1 (code_good hm.1), List.mem_cons_self, C.2.2.2.2.1 _ hm.1, C.2.2.2.2.1 _ hm.2.1, ⟨hm.2.2.1, hm.2.2.2.1⟩, fun sig h => by have h2 := hm.2.2.2.2.1; rw [h] at h2; exact (Option.some.inj h2).symm, C.2.2.2.2.1 _ hlk⟩
  have hrun := va_runV (e := e) (below := below) (meth := meth) (As := [v1, v2, v3, v4]) (rest := rest) (g := F0 m pc ls (v4 :: v3 :: v2 :: v1 :: .ref b :: rest)) (locs := locs) (cells := cells) (slots := slots) ⟨C.1, C.2.1, C.2.2.1, C.2.2.2.1, C.2.2.2.2.1⟩ (hct H.size) ⟨hcb, C.2.2.2.2.1 _ him, C.2.2.2.2.1 _ hse⟩ ⟨PCt.blind, by have h9 := va_recv C.2.2.2.2.2.1 hP hc he; rw [hcn] at h9; exact h9, pct_pre C hP hD rfl hC hn⟩ rfl rfl hl.1 rfl (lv_room (catsum_le hrest)) hd ⟨hcs.1, hcs.2⟩
  exact ww_run hrun C.2.2.2.2.2.2.1 hP hD hS hl hC hn ha hpc k
theorem ww_callV4p (C : Cx p R s m args meth c cc own nL Γ A dd) {y : MethodName} {cy : ByteArray} {mL : Nat} {ret : Option FieldType} {d index : Nat} {b : Nat} {v1 v2 v3 v4 : Value} {r : Value} {rest : List Value} (hct : Ct l Γ y cy mL ret d [.ref b, v1, v2, v3, v4] wc (some r) wc) (hm : MI y cy mL ret 4) (him : Cond.instanceMethod y ∈ Tg) (hse : Cond.selects y.cls y y ∈ Tg) (hlk : Cond.methodLink own index y ∈ Tg) (hd : decode cc pc = .ok (.invokevirtual index, 3)) (q0 : Nat) {ci : Nat} {fs : List Value} {qc : vw_C} (he : ws[q0]? = some (b, .inr (ci, fs))) (hc : vwCl[ci]? = some qc) (hcn : qc.1 = y.cls) (hdd : d + 1 ≤ dd) (hmL : mL ≤ 16) (hrest : rest.length ≤ 4) (hcs : cells ≤ R.cells ∧ slots ≤ R.slots) (is : List Nat) (hC : is.map (fun i => ws[i]?) = wc.map some) (hn : va_nd is = true) (pc2 : Nat) (hpc : pc + 3 = pc2) (k : WW p l e R s m args below meth c cells slots Q Γ A nL ws pc2 lv (r :: rest)) : WW p l e R s m args below meth c cells slots Q Γ A nL ws pc lv (v4 :: v3 :: v2 :: v1 :: .ref b :: rest) := fun H locs ls hP hD hS hl => by
  have hroom : d + 1 ≤ R.frames ∧ 8 + (mL + 11) + 35 * d ≤ R.locals := ⟨Nat.le_trans hdd C.2.2.2.2.2.2.2.2.1, by have := C.2.2.2.2.2.2.2.2.2; show 8 + (mL + 11) + 35 * d ≤ R.locals; omega⟩
  have hcb : CallB R s args own index y cy mL ret (.code y cy mL ret :: Tg) (rmD d) 0 0 4 := ⟨rfl, rfl, ((hroom)).1, ((hroom)).2, pay_in C.2.2.2.2.1 (code_good hm.1), List.mem_cons_self, C.2.2.2.2.1 _ hm.1, C.2.2.2.2.1 _ hm.2.1, ⟨hm.2.2.1, hm.2.2.2.1⟩, fun sig h => by have h2 := hm.2.2.2.2.1; rw [h] at h2; exact (Option.some.inj h2).symm, C.2.2.2.2.1 _ hlk⟩
  have hrun := va_runV (e := e) (below := below) (meth := meth) (As := [v1, v2, v3, v4]) (rest := rest) (g := F0 m pc ls (v4 :: v3 :: v2 :: v1 :: .ref b :: rest)) (locs := locs) (cells := cells) (slots := slots) ⟨C.1, C.2.1, C.2.2.1, C.2.2.2.1, C.2.2.2.2.1⟩ (hct H.size) ⟨hcb, C.2.2.2.2.1 _ him, C.2.2.2.2.1 _ hse⟩ ⟨PCt.blind, by have h9 := va_recv C.2.2.2.2.2.1 hP hc he; rw [hcn] at h9; exact h9, pct_pre C hP hD rfl hC hn⟩ rfl rfl hl.1 rfl (lv_room (catsum_le hrest)) hd ⟨hcs.1, hcs.2⟩
  exact ww_run hrun C.2.2.2.2.2.2.1 hP hD hS hl hC hn rfl hpc (by rw [pB_same is hC]; exact k)
theorem ww_callV4v (C : Cx p R s m args meth c cc own nL Γ A dd) {y : MethodName} {cy : ByteArray} {mL : Nat} {ret : Option FieldType} {d index : Nat} {b : Nat} {v1 v2 v3 v4 : Value} {r : Value} {rest : List Value} (hct : Ct l Γ y cy mL ret d [.ref b, v1, v2, v3, v4] wc none wc') (hm : MI y cy mL ret 4) (him : Cond.instanceMethod y ∈ Tg) (hse : Cond.selects y.cls y y ∈ Tg) (hlk : Cond.methodLink own index y ∈ Tg) (hd : decode cc pc = .ok (.invokevirtual index, 3)) (q0 : Nat) {ci : Nat} {fs : List Value} {qc : vw_C} (he : ws[q0]? = some (b, .inr (ci, fs))) (hc : vwCl[ci]? = some qc) (hcn : qc.1 = y.cls) (hdd : d + 1 ≤ dd) (hmL : mL ≤ 16) (hrest : rest.length ≤ 4) (hcs : cells ≤ R.cells ∧ slots ≤ R.slots) (is : List Nat) (hC : is.map (fun i => ws[i]?) = wc.map some) (hn : va_nd is = true) (ha : wc'.map (fun q => q.1) = wc.map (fun q => q.1)) (pc2 : Nat) (hpc : pc + 3 = pc2) (k : WW p l e R s m args below meth c cells slots Q Γ A nL (pB ws is wc') pc2 lv rest) : WW p l e R s m args below meth c cells slots Q Γ A nL ws pc lv (v4 :: v3 :: v2 :: v1 :: .ref b :: rest) := fun H locs ls hP hD hS hl => by
  have hroom : d + 1 ≤ R.frames ∧ 8 + (mL + 11) + 35 * d ≤ R.locals := ⟨Nat.le_trans hdd C.2.2.2.2.2.2.2.2.1, by have := C.2.2.2.2.2.2.2.2.2; show 8 + (mL + 11) + 35 * d ≤ R.locals; omega⟩
  have hcb : CallB R s args own index y cy mL ret (.code y cy mL ret :: Tg) (rmD d) 0 0 4 := ⟨rfl, rfl, ((hroom)).1, ((hroom)).2, pay_in C.2.2.2.2.1 (code_good hm.1), List.mem_cons_self, C.2.2.2.2.1 _ hm.1, C.2.2.2.2.1 _ hm.2.1, ⟨hm.2.2.1, hm.2.2.2.1⟩, fun sig h => by have h2 := hm.2.2.2.2.1; rw [h] at h2; exact (Option.some.inj h2).symm, C.2.2.2.2.1 _ hlk⟩
  have hrun := va_runV (e := e) (below := below) (meth := meth) (As := [v1, v2, v3, v4]) (rest := rest) (g := F0 m pc ls (v4 :: v3 :: v2 :: v1 :: .ref b :: rest)) (locs := locs) (cells := cells) (slots := slots) ⟨C.1, C.2.1, C.2.2.1, C.2.2.2.1, C.2.2.2.2.1⟩ (hct H.size) ⟨hcb, C.2.2.2.2.1 _ him, C.2.2.2.2.1 _ hse⟩ ⟨PCt.blind, by have h9 := va_recv C.2.2.2.2.2.1 hP hc he; rw [hcn] at h9; exact h9, pct_pre C hP hD rfl hC hn⟩ rfl rfl hl.1 rfl (lv_room (catsum_le hrest)) hd ⟨hcs.1, hcs.2⟩
  exact ww_run hrun C.2.2.2.2.2.2.1 hP hD hS hl hC hn ha hpc k
theorem ww_callV4vp (C : Cx p R s m args meth c cc own nL Γ A dd) {y : MethodName} {cy : ByteArray} {mL : Nat} {ret : Option FieldType} {d index : Nat} {b : Nat} {v1 v2 v3 v4 : Value} {r : Value} {rest : List Value} (hct : Ct l Γ y cy mL ret d [.ref b, v1, v2, v3, v4] wc none wc) (hm : MI y cy mL ret 4) (him : Cond.instanceMethod y ∈ Tg) (hse : Cond.selects y.cls y y ∈ Tg) (hlk : Cond.methodLink own index y ∈ Tg) (hd : decode cc pc = .ok (.invokevirtual index, 3)) (q0 : Nat) {ci : Nat} {fs : List Value} {qc : vw_C} (he : ws[q0]? = some (b, .inr (ci, fs))) (hc : vwCl[ci]? = some qc) (hcn : qc.1 = y.cls) (hdd : d + 1 ≤ dd) (hmL : mL ≤ 16) (hrest : rest.length ≤ 4) (hcs : cells ≤ R.cells ∧ slots ≤ R.slots) (is : List Nat) (hC : is.map (fun i => ws[i]?) = wc.map some) (hn : va_nd is = true) (pc2 : Nat) (hpc : pc + 3 = pc2) (k : WW p l e R s m args below meth c cells slots Q Γ A nL ws pc2 lv rest) : WW p l e R s m args below meth c cells slots Q Γ A nL ws pc lv (v4 :: v3 :: v2 :: v1 :: .ref b :: rest) := fun H locs ls hP hD hS hl => by
  have hroom : d + 1 ≤ R.frames ∧ 8 + (mL + 11) + 35 * d ≤ R.locals := ⟨Nat.le_trans hdd C.2.2.2.2.2.2.2.2.1, by have := C.2.2.2.2.2.2.2.2.2; show 8 + (mL + 11) + 35 * d ≤ R.locals; omega⟩
  have hcb : CallB R s args own index y cy mL ret (.code y cy mL ret :: Tg) (rmD d) 0 0 4 := ⟨rfl, rfl, ((hroom)).1, ((hroom)).2, pay_in C.2.2.2.2.1 (code_good hm.1), List.mem_cons_self, C.2.2.2.2.1 _ hm.1, C.2.2.2.2.1 _ hm.2.1, ⟨hm.2.2.1, hm.2.2.2.1⟩, fun sig h => by have h2 := hm.2.2.2.2.1; rw [h] at h2; exact (Option.some.inj h2).symm, C.2.2.2.2.1 _ hlk⟩
  have hrun := va_runV (e := e) (below := below) (meth := meth) (As := [v1, v2, v3, v4]) (rest := rest) (g := F0 m pc ls (v4 :: v3 :: v2 :: v1 :: .ref b :: rest)) (locs := locs) (cells := cells) (slots := slots) ⟨C.1, C.2.1, C.2.2.1, C.2.2.2.1, C.2.2.2.2.1⟩ (hct H.size) ⟨hcb, C.2.2.2.2.1 _ him, C.2.2.2.2.1 _ hse⟩ ⟨PCt.blind, by have h9 := va_recv C.2.2.2.2.2.1 hP hc he; rw [hcn] at h9; exact h9, pct_pre C hP hD rfl hC hn⟩ rfl rfl hl.1 rfl (lv_room (catsum_le hrest)) hd ⟨hcs.1, hcs.2⟩
  exact ww_run hrun C.2.2.2.2.2.2.1 hP hD hS hl hC hn rfl hpc (by rw [pB_same is hC]; exact k)
theorem ww_callV5 (C : Cx p R s m args meth c cc own nL Γ A dd) {y : MethodName} {cy : ByteArray} {mL : Nat} {ret : Option FieldType} {d index : Nat} {b : Nat} {v1 v2 v3 v4 v5 : Value} {r : Value} {rest : List Value} (hct : Ct l Γ y cy mL ret d [.ref b, v1, v2, v3, v4, v5] wc (some r) wc') (hm : MI y cy mL ret 5) (him : Cond.instanceMethod y ∈ Tg) (hse : Cond.selects y.cls y y ∈ Tg) (hlk : Cond.methodLink own index y ∈ Tg) (hd : decode cc pc = .ok (.invokevirtual index, 3)) (q0 : Nat) {ci : Nat} {fs : List Value} {qc : vw_C} (he : ws[q0]? = some (b, .inr (ci, fs))) (hc : vwCl[ci]? = some qc) (hcn : qc.1 = y.cls) (hdd : d + 1 ≤ dd) (hmL : mL ≤ 16) (hrest : rest.length ≤ 4) (hcs : cells ≤ R.cells ∧ slots ≤ R.slots) (is : List Nat) (hC : is.map (fun i => ws[i]?) = wc.map some) (hn : va_nd is = true) (ha : wc'.map (fun q => q.1) = wc.map (fun q => q.1)) (pc2 : Nat) (hpc : pc + 3 = pc2) (k : WW p l e R s m args below meth c cells slots Q Γ A nL (pB ws is wc') pc2 lv (r :: rest)) : WW p l e R s m args below meth c cells slots Q Γ A nL ws pc lv (v5 :: v4 :: v3 :: v2 :: v1 :: .ref b :: rest) := fun H locs ls hP hD hS hl => by
  have hroom : d + 1 ≤ R.frames ∧ 8 + (mL + 11) + 35 * d ≤ R.locals := ⟨Nat.le_trans hdd C.2.2.2.2.2.2.2.2.1, by have := C.2.2.2.2.2.2.2.2.2; show 8 + (mL + 11) + 35 * d ≤ R.locals; omega⟩
  have hcb : CallB R s args own index y cy mL ret (.code y cy mL ret :: Tg) (rmD d) 0 0 5 := ⟨rfl, rfl, ((hroom)).1, ((hroom)).2, pay_in C.2.2.2.2.1 (code_good hm.1), List.mem_cons_self, C.2.2.2.2.1 _ hm.1, C.2.2.2.2.1 _ hm.2.1, ⟨hm.2.2.1, hm.2.2.2.1⟩, fun sig h => by have h2 := hm.2.2.2.2.1; rw [h] at h2; exact (Option.some.inj h2).symm, C.2.2.2.2.1 _ hlk⟩
  have hrun := va_runV (e := e) (below := below) (meth := meth) (As := [v1, v2, v3, v4, v5]) (rest := rest) (g := F0 m pc ls (v5 :: v4 :: v3 :: v2 :: v1 :: .ref b :: rest)) (locs := locs) (cells := cells) (slots := slots) ⟨C.1, C.2.1, C.2.2.1, C.2.2.2.1, C.2.2.2.2.1⟩ (hct H.size) ⟨hcb, C.2.2.2.2.1 _ him, C.2.2.2.2.1 _ hse⟩ ⟨PCt.blind, by have h9 := va_recv C.2.2.2.2.2.1 hP hc he; rw [hcn] at h9; exact h9, pct_pre C hP hD rfl hC hn⟩ rfl rfl hl.1 rfl (lv_room (catsum_le hrest)) hd ⟨hcs.1, hcs.2⟩
  exact ww_run hrun C.2.2.2.2.2.2.1 hP hD hS hl hC hn ha hpc k
theorem ww_callV5p (C : Cx p R s m args meth c cc own nL Γ A dd) {y : MethodName} {cy : ByteArray} {mL : Nat} {ret : Option FieldType} {d index : Nat} {b : Nat} {v1 v2 v3 v4 v5 : Value} {r : Value} {rest : List Value} (hct : Ct l Γ y cy mL ret d [.ref b, v1, v2, v3, v4, v5] wc (some r) wc) (hm : MI y cy mL ret 5) (him : Cond.instanceMethod y ∈ Tg) (hse : Cond.selects y.cls y y ∈ Tg) (hlk : Cond.methodLink own index y ∈ Tg) (hd : decode cc pc = .ok (.invokevirtual index, 3)) (q0 : Nat) {ci : Nat} {fs : List Value} {qc : vw_C} (he : ws[q0]? = some (b, .inr (ci, fs))) (hc : vwCl[ci]? = some qc) (hcn : qc.1 = y.cls) (hdd : d + 1 ≤ dd) (hmL : mL ≤ 16) (hrest : rest.length ≤ 4) (hcs : cells ≤ R.cells ∧ slots ≤ R.slots) (is : List Nat) (hC : is.map (fun i => ws[i]?) = wc.map some) (hn : va_nd is = true) (pc2 : Nat) (hpc : pc + 3 = pc2) (k : WW p l e R s m args below meth c cells slots Q Γ A nL ws pc2 lv (r :: rest)) : WW p l e R s m args below meth c cells slots Q Γ A nL ws pc lv (v5 :: v4 :: v3 :: v2 :: v1 :: .ref b :: rest) := fun H locs ls hP hD hS hl => by
  have hroom : d + 1 ≤ R.frames ∧ 8 + (mL + 11) + 35 * d ≤ R.locals := ⟨Nat.le_trans hdd C.2.2.2.2.2.2.2.2.1, by have := C.2.2.2.2.2.2.2.2.2; show 8 + (mL + 11) + 35 * d ≤ R.locals; omega⟩
  have hcb : CallB R s args own index y cy mL ret (.code y cy mL ret :: Tg) (rmD d) 0 0 5 := ⟨rfl, rfl, ((hroom)).1, ((hroom)).2, pay_in C.2.2.2.2.1 (code_good hm.1), List.mem_cons_self, C.2.2.2.2.1 _ hm.1, C.2.2.2.2.1 _ hm.2.1, ⟨hm.2.2.1, hm.2.2.2.1⟩, fun sig h => by have h2 := hm.2.2.2.2.1; rw [h] at h2; exact (Option.some.inj h2).symm, C.2.2.2.2.1 _ hlk⟩
  have hrun := va_runV (e := e) (below := below) (meth := meth) (As := [v1, v2, v3, v4, v5]) (rest := rest) (g := F0 m pc ls (v5 :: v4 :: v3 :: v2 :: v1 :: .ref b :: rest)) (locs := locs) (cells := cells) (slots := slots) ⟨C.1, C.2.1, C.2.2.1, C.2.2.2.1, C.2.2.2.2.1⟩ (hct H.size) ⟨hcb, C.2.2.2.2.1 _ him, C.2.2.2.2.1 _ hse⟩ ⟨PCt.blind, by have h9 := va_recv C.2.2.2.2.2.1 hP hc he; rw [hcn] at h9; exact h9, pct_pre C hP hD rfl hC hn⟩ rfl rfl hl.1 rfl (lv_room (catsum_le hrest)) hd ⟨hcs.1, hcs.2⟩
  exact ww_run hrun C.2.2.2.2.2.2.1 hP hD hS hl hC hn rfl hpc (by rw [pB_same is hC]; exact k)
theorem ww_callV5v (C : Cx p R s m args meth c cc own nL Γ A dd) {y : MethodName} {cy : ByteArray} {mL : Nat} {ret : Option FieldType} {d index : Nat} {b : Nat} {v1 v2 v3 v4 v5 : Value} {r : Value} {rest : List Value} (hct : Ct l Γ y cy mL ret d [.ref b, v1, v2, v3, v4, v5] wc none wc') (hm : MI y cy mL ret 5) (him : Cond.instanceMethod y ∈ Tg) (hse : Cond.selects y.cls y y ∈ Tg) (hlk : Cond.methodLink own index y ∈ Tg) (hd : decode cc pc = .ok (.invokevirtual index, 3)) (q0 : Nat) {ci : Nat} {fs : List Value} {qc : vw_C} (he : ws[q0]? = some (b, .inr (ci, fs))) (hc : vwCl[ci]? = some qc) (hcn : qc.1 = y.cls) (hdd : d + 1 ≤ dd) (hmL : mL ≤ 16) (hrest : rest.length ≤ 4) (hcs : cells ≤ R.cells ∧ slots ≤ R.slots) (is : List Nat) (hC : is.map (fun i => ws[i]?) = wc.map some) (hn : va_nd is = true) (ha : wc'.map (fun q => q.1) = wc.map (fun q => q.1)) (pc2 : Nat) (hpc : pc + 3 = pc2) (k : WW p l e R s m args below meth c cells slots Q Γ A nL (pB ws is wc') pc2 lv rest) : WW p l e R s m args below meth c cells slots Q Γ A nL ws pc lv (v5 :: v4 :: v3 :: v2 :: v1 :: .ref b :: rest) := fun H locs ls hP hD hS hl => by
  have hroom : d + 1 ≤ R.frames ∧ 8 + (mL + 11) + 35 * d ≤ R.locals := ⟨Nat.le_trans hdd C.2.2.2.2.2.2.2.2.1, by have := C.2.2.2.2.2.2.2.2.2; show 8 + (mL + 11) + 35 * d ≤ R.locals; omega⟩
  have hcb : CallB R s args own index y cy mL ret (.code y cy mL ret :: Tg) (rmD d) 0 0 5 := ⟨rfl, rfl, ((hroom)).1, ((hroom)).2, pay_in C.2.2.2.2.1 (code_good hm.1), List.mem_cons_self, C.2.2.2.2.1 _ hm.1, C.2.2.2.2.1 _ hm.2.1, ⟨hm.2.2.1, hm.2.2.2.1⟩, fun sig h => by have h2 := hm.2.2.2.2.1; rw [h] at h2; exact (Option.some.inj h2).symm, C.2.2.2.2.1 _ hlk⟩
  have hrun := va_runV (e := e) (below := below) (meth := meth) (As := [v1, v2, v3, v4, v5]) (rest := rest) (g := F0 m pc ls (v5 :: v4 :: v3 :: v2 :: v1 :: .ref b :: rest)) (locs := locs) (cells := cells) (slots := slots) ⟨C.1, C.2.1, C.2.2.1, C.2.2.2.1, C.2.2.2.2.1⟩ (hct H.size) ⟨hcb, C.2.2.2.2.1 _ him, C.2.2.2.2.1 _ hse⟩ ⟨PCt.blind, by have h9 := va_recv C.2.2.2.2.2.1 hP hc he; rw [hcn] at h9; exact h9, pct_pre C hP hD rfl hC hn⟩ rfl rfl hl.1 rfl (lv_room (catsum_le hrest)) hd ⟨hcs.1, hcs.2⟩
  exact ww_run hrun C.2.2.2.2.2.2.1 hP hD hS hl hC hn ha hpc k
theorem ww_callV5vp (C : Cx p R s m args meth c cc own nL Γ A dd) {y : MethodName} {cy : ByteArray} {mL : Nat} {ret : Option FieldType} {d index : Nat} {b : Nat} {v1 v2 v3 v4 v5 : Value} {r : Value} {rest : List Value} (hct : Ct l Γ y cy mL ret d [.ref b, v1, v2, v3, v4, v5] wc none wc) (hm : MI y cy mL ret 5) (him : Cond.instanceMethod y ∈ Tg) (hse : Cond.selects y.cls y y ∈ Tg) (hlk : Cond.methodLink own index y ∈ Tg) (hd : decode cc pc = .ok (.invokevirtual index, 3)) (q0 : Nat) {ci : Nat} {fs : List Value} {qc : vw_C} (he : ws[q0]? = some (b, .inr (ci, fs))) (hc : vwCl[ci]? = some qc) (hcn : qc.1 = y.cls) (hdd : d + 1 ≤ dd) (hmL : mL ≤ 16) (hrest : rest.length ≤ 4) (hcs : cells ≤ R.cells ∧ slots ≤ R.slots) (is : List Nat) (hC : is.map (fun i => ws[i]?) = wc.map some) (hn : va_nd is = true) (pc2 : Nat) (hpc : pc + 3 = pc2) (k : WW p l e R s m args below meth c cells slots Q Γ A nL ws pc2 lv rest) : WW p l e R s m args below meth c cells slots Q Γ A nL ws pc lv (v5 :: v4 :: v3 :: v2 :: v1 :: .ref b :: rest) := fun H locs ls hP hD hS hl => by
  have hroom : d + 1 ≤ R.frames ∧ 8 + (mL + 11) + 35 * d ≤ R.locals := ⟨Nat.le_trans hdd C.2.2.2.2.2.2.2.2.1, by have := C.2.2.2.2.2.2.2.2.2; show 8 + (mL + 11) + 35 * d ≤ R.locals; omega⟩
  have hcb : CallB R s args own index y cy mL ret (.code y cy mL ret :: Tg) (rmD d) 0 0 5 := ⟨rfl, rfl, ((hroom)).1, ((hroom)).2, pay_in C.2.2.2.2.1 (code_good hm.1), List.mem_cons_self, C.2.2.2.2.1 _ hm.1, C.2.2.2.2.1 _ hm.2.1, ⟨hm.2.2.1, hm.2.2.2.1⟩, fun sig h => by have h2 := hm.2.2.2.2.1; rw [h] at h2; exact (Option.some.inj h2).symm, C.2.2.2.2.1 _ hlk⟩
  have hrun := va_runV (e := e) (below := below) (meth := meth) (As := [v1, v2, v3, v4, v5]) (rest := rest) (g := F0 m pc ls (v5 :: v4 :: v3 :: v2 :: v1 :: .ref b :: rest)) (locs := locs) (cells := cells) (slots := slots) ⟨C.1, C.2.1, C.2.2.1, C.2.2.2.1, C.2.2.2.2.1⟩ (hct H.size) ⟨hcb, C.2.2.2.2.1 _ him, C.2.2.2.2.1 _ hse⟩ ⟨PCt.blind, by have h9 := va_recv C.2.2.2.2.2.1 hP hc he; rw [hcn] at h9; exact h9, pct_pre C hP hD rfl hC hn⟩ rfl rfl hl.1 rfl (lv_room (catsum_le hrest)) hd ⟨hcs.1, hcs.2⟩
  exact ww_run hrun C.2.2.2.2.2.2.1 hP hD hS hl hC hn rfl hpc (by rw [pB_same is hC]; exact k)
theorem ww_callS0 (C : Cx p R s m args meth c cc own nL Γ A dd) {y : MethodName} {cy : ByteArray} {mL : Nat} {ret : Option FieldType} {d index : Nat}   {r : Value} {rest : List Value} (hct : Ct l Γ y cy mL ret d [] wc (some r) wc') (hm : MI y cy mL ret 0) (hst : Cond.static y ∈ Tg) (hlk : Cond.methodLink own index y ∈ Tg) (hd : decode cc pc = .ok (.invokestatic index, 3)) (hdd : d + 1 ≤ dd) (hmL : mL ≤ 16) (hrest : rest.length ≤ 4) (hcs : cells ≤ R.cells ∧ slots ≤ R.slots) (is : List Nat) (hC : is.map (fun i => ws[i]?) = wc.map some) (hn : va_nd is = true) (ha : wc'.map (fun q => q.1) = wc.map (fun q => q.1)) (pc2 : Nat) (hpc : pc + 3 = pc2) (k : WW p l e R s m args below meth c cells slots Q Γ A nL (pB ws is wc') pc2 lv (r :: rest)) : WW p l e R s m args below meth c cells slots Q Γ A nL ws pc lv (rest) := fun H locs ls hP hD hS hl => by
  have hroom : d + 1 ≤ R.frames ∧ 8 + (mL + 11) + 35 * d ≤ R.locals := ⟨Nat.le_trans hdd C.2.2.2.2.2.2.2.2.1, by have := C.2.2.2.2.2.2.2.2.2; show 8 + (mL + 11) + 35 * d ≤ R.locals; omega⟩
  have hcb : CallB R s args own index y cy mL ret (.code y cy mL ret :: Tg) (rmD d) 0 0 0 := ⟨rfl, rfl, ((hroom)).1, ((hroom)).2, pay_in C.2.2.2.2.1 (code_good hm.1), List.mem_cons_self, C.2.2.2.2.1 _ hm.1, C.2.2.2.2.1 _ hm.2.1, ⟨hm.2.2.1, hm.2.2.2.1⟩, fun sig h => by have h2 := hm.2.2.2.2.1; rw [h] at h2; exact (Option.some.inj h2).symm, C.2.2.2.2.1 _ hlk⟩
  have hrun := va_runS (e := e) (below := below) (meth := meth) (As := []) (rest := rest) (g := F0 m pc ls (rest)) (locs := locs) (cells := cells) (slots := slots) ⟨C.1, C.2.1, C.2.2.1, C.2.2.2.1, C.2.2.2.2.1⟩ (hct H.size) ⟨hcb, C.2.2.2.2.1 _ hst⟩ ⟨PCt.blind, pct_pre C hP hD rfl hC hn⟩ rfl rfl hl.1 rfl (lv_room (catsum_le hrest)) hd ⟨hcs.1, hcs.2⟩
  exact ww_run hrun C.2.2.2.2.2.2.1 hP hD hS hl hC hn ha hpc k
theorem ww_callS0p (C : Cx p R s m args meth c cc own nL Γ A dd) {y : MethodName} {cy : ByteArray} {mL : Nat} {ret : Option FieldType} {d index : Nat}   {r : Value} {rest : List Value} (hct : Ct l Γ y cy mL ret d [] wc (some r) wc) (hm : MI y cy mL ret 0) (hst : Cond.static y ∈ Tg) (hlk : Cond.methodLink own index y ∈ Tg) (hd : decode cc pc = .ok (.invokestatic index, 3)) (hdd : d + 1 ≤ dd) (hmL : mL ≤ 16) (hrest : rest.length ≤ 4) (hcs : cells ≤ R.cells ∧ slots ≤ R.slots) (is : List Nat) (hC : is.map (fun i => ws[i]?) = wc.map some) (hn : va_nd is = true) (pc2 : Nat) (hpc : pc + 3 = pc2) (k : WW p l e R s m args below meth c cells slots Q Γ A nL ws pc2 lv (r :: rest)) : WW p l e R s m args below meth c cells slots Q Γ A nL ws pc lv (rest) := fun H locs ls hP hD hS hl => by
  have hroom : d + 1 ≤ R.frames ∧ 8 + (mL + 11) + 35 * d ≤ R.locals := ⟨Nat.le_trans hdd C.2.2.2.2.2.2.2.2.1, by have := C.2.2.2.2.2.2.2.2.2; show 8 + (mL + 11) + 35 * d ≤ R.locals; omega⟩
  have hcb : CallB R s args own index y cy mL ret (.code y cy mL ret :: Tg) (rmD d) 0 0 0 := ⟨rfl, rfl, ((hroom)).1, ((hroom)).2, pay_in C.2.2.2.2.1 (code_good hm.1), List.mem_cons_self, C.2.2.2.2.1 _ hm.1, C.2.2.2.2.1 _ hm.2.1, ⟨hm.2.2.1, hm.2.2.2.1⟩, fun sig h => by have h2 := hm.2.2.2.2.1; rw [h] at h2; exact (Option.some.inj h2).symm, C.2.2.2.2.1 _ hlk⟩
  have hrun := va_runS (e := e) (below := below) (meth := meth) (As := []) (rest := rest) (g := F0 m pc ls (rest)) (locs := locs) (cells := cells) (slots := slots) ⟨C.1, C.2.1, C.2.2.1, C.2.2.2.1, C.2.2.2.2.1⟩ (hct H.size) ⟨hcb, C.2.2.2.2.1 _ hst⟩ ⟨PCt.blind, pct_pre C hP hD rfl hC hn⟩ rfl rfl hl.1 rfl (lv_room (catsum_le hrest)) hd ⟨hcs.1, hcs.2⟩
  exact ww_run hrun C.2.2.2.2.2.2.1 hP hD hS hl hC hn rfl hpc (by rw [pB_same is hC]; exact k)
theorem ww_callS0v (C : Cx p R s m args meth c cc own nL Γ A dd) {y : MethodName} {cy : ByteArray} {mL : Nat} {ret : Option FieldType} {d index : Nat}   {r : Value} {rest : List Value} (hct : Ct l Γ y cy mL ret d [] wc none wc') (hm : MI y cy mL ret 0) (hst : Cond.static y ∈ Tg) (hlk : Cond.methodLink own index y ∈ Tg) (hd : decode cc pc = .ok (.invokestatic index, 3)) (hdd : d + 1 ≤ dd) (hmL : mL ≤ 16) (hrest : rest.length ≤ 4) (hcs : cells ≤ R.cells ∧ slots ≤ R.slots) (is : List Nat) (hC : is.map (fun i => ws[i]?) = wc.map some) (hn : va_nd is = true) (ha : wc'.map (fun q => q.1) = wc.map (fun q => q.1)) (pc2 : Nat) (hpc : pc + 3 = pc2) (k : WW p l e R s m args below meth c cells slots Q Γ A nL (pB ws is wc') pc2 lv rest) : WW p l e R s m args below meth c cells slots Q Γ A nL ws pc lv (rest) := fun H locs ls hP hD hS hl => by
  have hroom : d + 1 ≤ R.frames ∧ 8 + (mL + 11) + 35 * d ≤ R.locals := ⟨Nat.le_trans hdd C.2.2.2.2.2.2.2.2.1, by have := C.2.2.2.2.2.2.2.2.2; show 8 + (mL + 11) + 35 * d ≤ R.locals; omega⟩
  have hcb : CallB R s args own index y cy mL ret (.code y cy mL ret :: Tg) (rmD d) 0 0 0 := ⟨rfl, rfl, ((hroom)).1, ((hroom)).2, pay_in C.2.2.2.2.1 (code_good hm.1), List.mem_cons_self, C.2.2.2.2.1 _ hm.1, C.2.2.2.2.1 _ hm.2.1, ⟨hm.2.2.1, hm.2.2.2.1⟩, fun sig h => by have h2 := hm.2.2.2.2.1; rw [h] at h2; exact (Option.some.inj h2).symm, C.2.2.2.2.1 _ hlk⟩
  have hrun := va_runS (e := e) (below := below) (meth := meth) (As := []) (rest := rest) (g := F0 m pc ls (rest)) (locs := locs) (cells := cells) (slots := slots) ⟨C.1, C.2.1, C.2.2.1, C.2.2.2.1, C.2.2.2.2.1⟩ (hct H.size) ⟨hcb, C.2.2.2.2.1 _ hst⟩ ⟨PCt.blind, pct_pre C hP hD rfl hC hn⟩ rfl rfl hl.1 rfl (lv_room (catsum_le hrest)) hd ⟨hcs.1, hcs.2⟩
  exact ww_run hrun C.2.2.2.2.2.2.1 hP hD hS hl hC hn ha hpc k
theorem ww_callS0vp (C : Cx p R s m args meth c cc own nL Γ A dd) {y : MethodName} {cy : ByteArray} {mL : Nat} {ret : Option FieldType} {d index : Nat}   {r : Value} {rest : List Value} (hct : Ct l Γ y cy mL ret d [] wc none wc) (hm : MI y cy mL ret 0) (hst : Cond.static y ∈ Tg) (hlk : Cond.methodLink own index y ∈ Tg) (hd : decode cc pc = .ok (.invokestatic index, 3)) (hdd : d + 1 ≤ dd) (hmL : mL ≤ 16) (hrest : rest.length ≤ 4) (hcs : cells ≤ R.cells ∧ slots ≤ R.slots) (is : List Nat) (hC : is.map (fun i => ws[i]?) = wc.map some) (hn : va_nd is = true) (pc2 : Nat) (hpc : pc + 3 = pc2) (k : WW p l e R s m args below meth c cells slots Q Γ A nL ws pc2 lv rest) : WW p l e R s m args below meth c cells slots Q Γ A nL ws pc lv (rest) := fun H locs ls hP hD hS hl => by
  have hroom : d + 1 ≤ R.frames ∧ 8 + (mL + 11) + 35 * d ≤ R.locals := ⟨Nat.le_trans hdd C.2.2.2.2.2.2.2.2.1, by have := C.2.2.2.2.2.2.2.2.2; show 8 + (mL + 11) + 35 * d ≤ R.locals; omega⟩
  have hcb : CallB R s args own index y cy mL ret (.code y cy mL ret :: Tg) (rmD d) 0 0 0 := ⟨rfl, rfl, ((hroom)).1, ((hroom)).2, pay_in C.2.2.2.2.1 (code_good hm.1), List.mem_cons_self, C.2.2.2.2.1 _ hm.1, C.2.2.2.2.1 _ hm.2.1, ⟨hm.2.2.1, hm.2.2.2.1⟩, fun sig h => by have h2 := hm.2.2.2.2.1; rw [h] at h2; exact (Option.some.inj h2).symm, C.2.2.2.2.1 _ hlk⟩
  have hrun := va_runS (e := e) (below := below) (meth := meth) (As := []) (rest := rest) (g := F0 m pc ls (rest)) (locs := locs) (cells := cells) (slots := slots) ⟨C.1, C.2.1, C.2.2.1, C.2.2.2.1, C.2.2.2.2.1⟩ (hct H.size) ⟨hcb, C.2.2.2.2.1 _ hst⟩ ⟨PCt.blind, pct_pre C hP hD rfl hC hn⟩ rfl rfl hl.1 rfl (lv_room (catsum_le hrest)) hd ⟨hcs.1, hcs.2⟩
  exact ww_run hrun C.2.2.2.2.2.2.1 hP hD hS hl hC hn rfl hpc (by rw [pB_same is hC]; exact k)
theorem ww_callS1 (C : Cx p R s m args meth c cc own nL Γ A dd) {y : MethodName} {cy : ByteArray} {mL : Nat} {ret : Option FieldType} {d index : Nat}  {v1 : Value} {r : Value} {rest : List Value} (hct : Ct l Γ y cy mL ret d [v1] wc (some r) wc') (hm : MI y cy mL ret 1) (hst : Cond.static y ∈ Tg) (hlk : Cond.methodLink own index y ∈ Tg) (hd : decode cc pc = .ok (.invokestatic index, 3)) (hdd : d + 1 ≤ dd) (hmL : mL ≤ 16) (hrest : rest.length ≤ 4) (hcs : cells ≤ R.cells ∧ slots ≤ R.slots) (is : List Nat) (hC : is.map (fun i => ws[i]?) = wc.map some) (hn : va_nd is = true) (ha : wc'.map (fun q => q.1) = wc.map (fun q => q.1)) (pc2 : Nat) (hpc : pc + 3 = pc2) (k : WW p l e R s m args below meth c cells slots Q Γ A nL (pB ws is wc') pc2 lv (r :: rest)) : WW p l e R s m args below meth c cells slots Q Γ A nL ws pc lv (v1 :: rest) := fun H locs ls hP hD hS hl => by
  have hroom : d + 1 ≤ R.frames ∧ 8 + (mL + 11) + 35 * d ≤ R.locals := ⟨Nat.le_trans hdd C.2.2.2.2.2.2.2.2.1, by have := C.2.2.2.2.2.2.2.2.2; show 8 + (mL + 11) + 35 * d ≤ R.locals; omega⟩
  have hcb : CallB R s args own index y cy mL ret (.code y cy mL ret :: Tg) (rmD d) 0 0 1 := ⟨rfl, rfl, ((hroom)).1, ((hroom)).2, pay_in C.2.2.2.2.1 (code_good hm.1), List.mem_cons_self, C.2.2.2.2.1 _ hm.1, C.2.2.2.2.1 _ hm.2.1, ⟨hm.2.2.1, hm.2.2.2.1⟩, fun sig h => by have h2 := hm.2.2.2.2.1; rw [h] at h2; exact (Option.some.inj h2).symm, C.2.2.2.2.1 _ hlk⟩
  have hrun := va_runS (e := e) (below := below) (meth := meth) (As := [v1]) (rest := rest) (g := F0 m pc ls (v1 :: rest)) (locs := locs) (cells := cells) (slots := slots) ⟨C.1, C.2.1, C.2.2.1, C.2.2.2.1, C.2.2.2.2.1⟩ (hct H.size) ⟨hcb, C.2.2.2.2.1 _ hst⟩ ⟨PCt.blind, pct_pre C hP hD rfl hC hn⟩ rfl rfl hl.1 rfl (lv_room (catsum_le hrest)) hd ⟨hcs.1, hcs.2⟩
  exact ww_run hrun C.2.2.2.2.2.2.1 hP hD hS hl hC hn ha hpc k
theorem ww_callS1p (C : Cx p R s m args meth c cc own nL Γ A dd) {y : MethodName} {cy : ByteArray} {mL : Nat} {ret : Option FieldType} {d index : Nat}  {v1 : Value} {r : Value} {rest : List Value} (hct : Ct l Γ y cy mL ret d [v1] wc (some r) wc) (hm : MI y cy mL ret 1) (hst : Cond.static y ∈ Tg) (hlk : Cond.methodLink own index y ∈ Tg) (hd : decode cc pc = .ok (.invokestatic index, 3)) (hdd : d + 1 ≤ dd) (hmL : mL ≤ 16) (hrest : rest.length ≤ 4) (hcs : cells ≤ R.cells ∧ slots ≤ R.slots) (is : List Nat) (hC : is.map (fun i => ws[i]?) = wc.map some) (hn : va_nd is = true) (pc2 : Nat) (hpc : pc + 3 = pc2) (k : WW p l e R s m args below meth c cells slots Q Γ A nL ws pc2 lv (r :: rest)) : WW p l e R s m args below meth c cells slots Q Γ A nL ws pc lv (v1 :: rest) := fun H locs ls hP hD hS hl => by
  have hroom : d + 1 ≤ R.frames ∧ 8 + (mL + 11) + 35 * d ≤ R.locals := ⟨Nat.le_trans hdd C.2.2.2.2.2.2.2.2.1, by have := C.2.2.2.2.2.2.2.2.2; show 8 + (mL + 11) + 35 * d ≤ R.locals; omega⟩
  have hcb : CallB R s args own index y cy mL ret (.code y cy mL ret :: Tg) (rmD d) 0 0 1 := ⟨rfl, rfl, ((hroom)).1, ((hroom)).2, pay_in C.2.2.2.2.1 (code_good hm.1), List.mem_cons_self, C.2.2.2.2.1 _ hm.1, C.2.2.2.2.1 _ hm.2.1, ⟨hm.2.2.1, hm.2.2.2.1⟩, fun sig h => by have h2 := hm.2.2.2.2.1; rw [h] at h2; exact (Option.some.inj h2).symm, C.2.2.2.2.1 _ hlk⟩
  have hrun := va_runS (e := e) (below := below) (meth := meth) (As := [v1]) (rest := rest) (g := F0 m pc ls (v1 :: rest)) (locs := locs) (cells := cells) (slots := slots) ⟨C.1, C.2.1, C.2.2.1, C.2.2.2.1, C.2.2.2.2.1⟩ (hct H.size) ⟨hcb, C.2.2.2.2.1 _ hst⟩ ⟨PCt.blind, pct_pre C hP hD rfl hC hn⟩ rfl rfl hl.1 rfl (lv_room (catsum_le hrest)) hd ⟨hcs.1, hcs.2⟩
  exact ww_run hrun C.2.2.2.2.2.2.1 hP hD hS hl hC hn rfl hpc (by rw [pB_same is hC]; exact k)
theorem ww_callS1v (C : Cx p R s m args meth c cc own nL Γ A dd) {y : MethodName} {cy : ByteArray} {mL : Nat} {ret : Option FieldType} {d index : Nat}  {v1 : Value} {r : Value} {rest : List Value} (hct : Ct l Γ y cy mL ret d [v1] wc none wc') (hm : MI y cy mL ret 1) (hst : Cond.static y ∈ Tg) (hlk : Cond.methodLink own index y ∈ Tg) (hd : decode cc pc = .ok (.invokestatic index, 3)) (hdd : d + 1 ≤ dd) (hmL : mL ≤ 16) (hrest : rest.length ≤ 4) (hcs : cells ≤ R.cells ∧ slots ≤ R.slots) (is : List Nat) (hC : is.map (fun i => ws[i]?) = wc.map some) (hn : va_nd is = true) (ha : wc'.map (fun q => q.1) = wc.map (fun q => q.1)) (pc2 : Nat) (hpc : pc + 3 = pc2) (k : WW p l e R s m args below meth c cells slots Q Γ A nL (pB ws is wc') pc2 lv rest) : WW p l e R s m args below meth c cells slots Q Γ A nL ws pc lv (v1 :: rest) := fun H locs ls hP hD hS hl => by
  have hroom : d + 1 ≤ R.frames ∧ 8 + (mL + 11) + 35 * d ≤ R.locals := ⟨Nat.le_trans hdd C.2.2.2.2.2.2.2.2.1, by have := C.2.2.2.2.2.2.2.2.2; show 8 + (mL + 11) + 35 * d ≤ R.locals; omega⟩
  have hcb : CallB R s args own index y cy mL ret (.code y cy mL ret :: Tg) (rmD d) 0 0 1 := ⟨rfl, rfl, ((hroom)).1, ((hroom)).2, pay_in C.2.2.2.2.1 (code_good hm.1), List.mem_cons_self, C.2.2.2.2.1 _ hm.1, C.2.2.2.2.1 _ hm.2.1, ⟨hm.2.2.1, hm.2.2.2.1⟩, fun sig h => by have h2 := hm.2.2.2.2.1; rw [h] at h2; exact (Option.some.inj h2).symm, C.2.2.2.2.1 _ hlk⟩
  have hrun := va_runS (e := e) (below := below) (meth := meth) (As := [v1]) (rest := rest) (g := F0 m pc ls (v1 :: rest)) (locs := locs) (cells := cells) (slots := slots) ⟨C.1, C.2.1, C.2.2.1, C.2.2.2.1, C.2.2.2.2.1⟩ (hct H.size) ⟨hcb, C.2.2.2.2.1 _ hst⟩ ⟨PCt.blind, pct_pre C hP hD rfl hC hn⟩ rfl rfl hl.1 rfl (lv_room (catsum_le hrest)) hd ⟨hcs.1, hcs.2⟩
  exact ww_run hrun C.2.2.2.2.2.2.1 hP hD hS hl hC hn ha hpc k
theorem ww_callS1vp (C : Cx p R s m args meth c cc own nL Γ A dd) {y : MethodName} {cy : ByteArray} {mL : Nat} {ret : Option FieldType} {d index : Nat}  {v1 : Value} {r : Value} {rest : List Value} (hct : Ct l Γ y cy mL ret d [v1] wc none wc) (hm : MI y cy mL ret 1) (hst : Cond.static y ∈ Tg) (hlk : Cond.methodLink own index y ∈ Tg) (hd : decode cc pc = .ok (.invokestatic index, 3)) (hdd : d + 1 ≤ dd) (hmL : mL ≤ 16) (hrest : rest.length ≤ 4) (hcs : cells ≤ R.cells ∧ slots ≤ R.slots) (is : List Nat) (hC : is.map (fun i => ws[i]?) = wc.map some) (hn : va_nd is = true) (pc2 : Nat) (hpc : pc + 3 = pc2) (k : WW p l e R s m args below meth c cells slots Q Γ A nL ws pc2 lv rest) : WW p l e R s m args below meth c cells slots Q Γ A nL ws pc lv (v1 :: rest) := fun H locs ls hP hD hS hl => by
  have hroom : d + 1 ≤ R.frames ∧ 8 + (mL + 11) + 35 * d ≤ R.locals := ⟨Nat.le_trans hdd C.2.2.2.2.2.2.2.2.1, by have := C.2.2.2.2.2.2.2.2.2; show 8 + (mL + 11) + 35 * d ≤ R.locals; omega⟩
  have hcb : CallB R s args own index y cy mL ret (.code y cy mL ret :: Tg) (rmD d) 0 0 1 := ⟨rfl, rfl, ((hroom)).1, ((hroom)).2, pay_in C.2.2.2.2.1 (code_good hm.1), List.mem_cons_self, C.2.2.2.2.1 _ hm.1, C.2.2.2.2.1 _ hm.2.1, ⟨hm.2.2.1, hm.2.2.2.1⟩, fun sig h => by have h2 := hm.2.2.2.2.1; rw [h] at h2; exact (Option.some.inj h2).symm, C.2.2.2.2.1 _ hlk⟩
  have hrun := va_runS (e := e) (below := below) (meth := meth) (As := [v1]) (rest := rest) (g := F0 m pc ls (v1 :: rest)) (locs := locs) (cells := cells) (slots := slots) ⟨C.1, C.2.1, C.2.2.1, C.2.2.2.1, C.2.2.2.2.1⟩ (hct H.size) ⟨hcb, C.2.2.2.2.1 _ hst⟩ ⟨PCt.blind, pct_pre C hP hD rfl hC hn⟩ rfl rfl hl.1 rfl (lv_room (catsum_le hrest)) hd ⟨hcs.1, hcs.2⟩
  exact ww_run hrun C.2.2.2.2.2.2.1 hP hD hS hl hC hn rfl hpc (by rw [pB_same is hC]; exact k)
theorem ww_callS2 (C : Cx p R s m args meth c cc own nL Γ A dd) {y : MethodName} {cy : ByteArray} {mL : Nat} {ret : Option FieldType} {d index : Nat}  {v1 v2 : Value} {r : Value} {rest : List Value} (hct : Ct l Γ y cy mL ret d [v1, v2] wc (some r) wc') (hm : MI y cy mL ret 2) (hst : Cond.static y ∈ Tg) (hlk : Cond.methodLink own index y ∈ Tg) (hd : decode cc pc = .ok (.invokestatic index, 3)) (hdd : d + 1 ≤ dd) (hmL : mL ≤ 16) (hrest : rest.length ≤ 4) (hcs : cells ≤ R.cells ∧ slots ≤ R.slots) (is : List Nat) (hC : is.map (fun i => ws[i]?) = wc.map some) (hn : va_nd is = true) (ha : wc'.map (fun q => q.1) = wc.map (fun q => q.1)) (pc2 : Nat) (hpc : pc + 3 = pc2) (k : WW p l e R s m args below meth c cells slots Q Γ A nL (pB ws is wc') pc2 lv (r :: rest)) : WW p l e R s m args below meth c cells slots Q Γ A nL ws pc lv (v2 :: v1 :: rest) := fun H locs ls hP hD hS hl => by
  have hroom : d + 1 ≤ R.frames ∧ 8 + (mL + 11) + 35 * d ≤ R.locals := ⟨Nat.le_trans hdd C.2.2.2.2.2.2.2.2.1, by have := C.2.2.2.2.2.2.2.2.2; show 8 + (mL + 11) + 35 * d ≤ R.locals; omega⟩
  have hcb : CallB R s args own index y cy mL ret (.code y cy mL ret :: Tg) (rmD d) 0 0 2 := ⟨rfl, rfl, ((hroom)).1, ((hroom)).2, pay_in C.2.2.2.2.1 (code_good hm.1), List.mem_cons_self, C.2.2.2.2.1 _ hm.1, C.2.2.2.2.1 _ hm.2.1, ⟨hm.2.2.1, hm.2.2.2.1⟩, fun sig h => by have h2 := hm.2.2.2.2.1; rw [h] at h2; exact (Option.some.inj h2).symm, C.2.2.2.2.1 _ hlk⟩
  have hrun := va_runS (e := e) (below := below) (meth := meth) (As := [v1, v2]) (rest := rest) (g := F0 m pc ls (v2 :: v1 :: rest)) (locs := locs) (cells := cells) (slots := slots) ⟨C.1, C.2.1, C.2.2.1, C.2.2.2.1, C.2.2.2.2.1⟩ (hct H.size) ⟨hcb, C.2.2.2.2.1 _ hst⟩ ⟨PCt.blind, pct_pre C hP hD rfl hC hn⟩ rfl rfl hl.1 rfl (lv_room (catsum_le hrest)) hd ⟨hcs.1, hcs.2⟩
  exact ww_run hrun C.2.2.2.2.2.2.1 hP hD hS hl hC hn ha hpc k
theorem ww_callS2p (C : Cx p R s m args meth c cc own nL Γ A dd) {y : MethodName} {cy : ByteArray} {mL : Nat} {ret : Option FieldType} {d index : Nat}  {v1 v2 : Value} {r : Value} {rest : List Value} (hct : Ct l Γ y cy mL ret d [v1, v2] wc (some r) wc) (hm : MI y cy mL ret 2) (hst : Cond.static y ∈ Tg) (hlk : Cond.methodLink own index y ∈ Tg) (hd : decode cc pc = .ok (.invokestatic index, 3)) (hdd : d + 1 ≤ dd) (hmL : mL ≤ 16) (hrest : rest.length ≤ 4) (hcs : cells ≤ R.cells ∧ slots ≤ R.slots) (is : List Nat) (hC : is.map (fun i => ws[i]?) = wc.map some) (hn : va_nd is = true) (pc2 : Nat) (hpc : pc + 3 = pc2) (k : WW p l e R s m args below meth c cells slots Q Γ A nL ws pc2 lv (r :: rest)) : WW p l e R s m args below meth c cells slots Q Γ A nL ws pc lv (v2 :: v1 :: rest) := fun H locs ls hP hD hS hl => by
  have hroom : d + 1 ≤ R.frames ∧ 8 + (mL + 11) + 35 * d ≤ R.locals := ⟨Nat.le_trans hdd C.2.2.2.2.2.2.2.2.1, by have := C.2.2.2.2.2.2.2.2.2; show 8 + (mL + 11) + 35 * d ≤ R.locals; omega⟩
  have hcb : CallB R s args own index y cy mL ret (.code y cy mL ret :: Tg) (rmD d) 0 0 2 := ⟨rfl, rfl, ((hroom)).1, ((hroom)).2, pay_in C.2.2.2.2.1 (code_good hm.1), List.mem_cons_self, C.2.2.2.2.1 _ hm.1, C.2.2.2.2.1 _ hm.2.1, ⟨hm.2.2.1, hm.2.2.2.1⟩, fun sig h => by have h2 := hm.2.2.2.2.1; rw [h] at h2; exact (Option.some.inj h2).symm, C.2.2.2.2.1 _ hlk⟩
  have hrun := va_runS (e := e) (below := below) (meth := meth) (As := [v1, v2]) (rest := rest) (g := F0 m pc ls (v2 :: v1 :: rest)) (locs := locs) (cells := cells) (slots := slots) ⟨C.1, C.2.1, C.2.2.1, C.2.2.2.1, C.2.2.2.2.1⟩ (hct H.size) ⟨hcb, C.2.2.2.2.1 _ hst⟩ ⟨PCt.blind, pct_pre C hP hD rfl hC hn⟩ rfl rfl hl.1 rfl (lv_room (catsum_le hrest)) hd ⟨hcs.1, hcs.2⟩
  exact ww_run hrun C.2.2.2.2.2.2.1 hP hD hS hl hC hn rfl hpc (by rw [pB_same is hC]; exact k)
theorem ww_callS2v (C : Cx p R s m args meth c cc own nL Γ A dd) {y : MethodName} {cy : ByteArray} {mL : Nat} {ret : Option FieldType} {d index : Nat}  {v1 v2 : Value} {r : Value} {rest : List Value} (hct : Ct l Γ y cy mL ret d [v1, v2] wc none wc') (hm : MI y cy mL ret 2) (hst : Cond.static y ∈ Tg) (hlk : Cond.methodLink own index y ∈ Tg) (hd : decode cc pc = .ok (.invokestatic index, 3)) (hdd : d + 1 ≤ dd) (hmL : mL ≤ 16) (hrest : rest.length ≤ 4) (hcs : cells ≤ R.cells ∧ slots ≤ R.slots) (is : List Nat) (hC : is.map (fun i => ws[i]?) = wc.map some) (hn : va_nd is = true) (ha : wc'.map (fun q => q.1) = wc.map (fun q => q.1)) (pc2 : Nat) (hpc : pc + 3 = pc2) (k : WW p l e R s m args below meth c cells slots Q Γ A nL (pB ws is wc') pc2 lv rest) : WW p l e R s m args below meth c cells slots Q Γ A nL ws pc lv (v2 :: v1 :: rest) := fun H locs ls hP hD hS hl => by
  have hroom : d + 1 ≤ R.frames ∧ 8 + (mL + 11) + 35 * d ≤ R.locals := ⟨Nat.le_trans hdd C.2.2.2.2.2.2.2.2.1, by have := C.2.2.2.2.2.2.2.2.2; show 8 + (mL + 11) + 35 * d ≤ R.locals; omega⟩
  have hcb : CallB R s args own index y cy mL ret (.code y cy mL ret :: Tg) (rmD d) 0 0 2 := ⟨rfl, rfl, ((hroom)).1, ((hroom)).2, pay_in C.2.2.2.2.1 (code_good hm.1), List.mem_cons_self, C.2.2.2.2.1 _ hm.1, C.2.2.2.2.1 _ hm.2.1, ⟨hm.2.2.1, hm.2.2.2.1⟩, fun sig h => by have h2 := hm.2.2.2.2.1; rw [h] at h2; exact (Option.some.inj h2).symm, C.2.2.2.2.1 _ hlk⟩
  have hrun := va_runS (e := e) (below := below) (meth := meth) (As := [v1, v2]) (rest := rest) (g := F0 m pc ls (v2 :: v1 :: rest)) (locs := locs) (cells := cells) (slots := slots) ⟨C.1, C.2.1, C.2.2.1, C.2.2.2.1, C.2.2.2.2.1⟩ (hct H.size) ⟨hcb, C.2.2.2.2.1 _ hst⟩ ⟨PCt.blind, pct_pre C hP hD rfl hC hn⟩ rfl rfl hl.1 rfl (lv_room (catsum_le hrest)) hd ⟨hcs.1, hcs.2⟩
  exact ww_run hrun C.2.2.2.2.2.2.1 hP hD hS hl hC hn ha hpc k
theorem ww_callS2vp (C : Cx p R s m args meth c cc own nL Γ A dd) {y : MethodName} {cy : ByteArray} {mL : Nat} {ret : Option FieldType} {d index : Nat}  {v1 v2 : Value} {r : Value} {rest : List Value} (hct : Ct l Γ y cy mL ret d [v1, v2] wc none wc) (hm : MI y cy mL ret 2) (hst : Cond.static y ∈ Tg) (hlk : Cond.methodLink own index y ∈ Tg) (hd : decode cc pc = .ok (.invokestatic index, 3)) (hdd : d + 1 ≤ dd) (hmL : mL ≤ 16) (hrest : rest.length ≤ 4) (hcs : cells ≤ R.cells ∧ slots ≤ R.slots) (is : List Nat) (hC : is.map (fun i => ws[i]?) = wc.map some) (hn : va_nd is = true) (pc2 : Nat) (hpc : pc + 3 = pc2) (k : WW p l e R s m args below meth c cells slots Q Γ A nL ws pc2 lv rest) : WW p l e R s m args below meth c cells slots Q Γ A nL ws pc lv (v2 :: v1 :: rest) := fun H locs ls hP hD hS hl => by
  have hroom : d + 1 ≤ R.frames ∧ 8 + (mL + 11) + 35 * d ≤ R.locals := ⟨Nat.le_trans hdd C.2.2.2.2.2.2.2.2.1, by have := C.2.2.2.2.2.2.2.2.2; show 8 + (mL + 11) + 35 * d ≤ R.locals; omega⟩
  have hcb : CallB R s args own index y cy mL ret (.code y cy mL ret :: Tg) (rmD d) 0 0 2 := ⟨rfl, rfl, ((hroom)).1, ((hroom)).2, pay_in C.2.2.2.2.1 (code_good hm.1), List.mem_cons_self, C.2.2.2.2.1 _ hm.1, C.2.2.2.2.1 _ hm.2.1, ⟨hm.2.2.1, hm.2.2.2.1⟩, fun sig h => by have h2 := hm.2.2.2.2.1; rw [h] at h2; exact (Option.some.inj h2).symm, C.2.2.2.2.1 _ hlk⟩
  have hrun := va_runS (e := e) (below := below) (meth := meth) (As := [v1, v2]) (rest := rest) (g := F0 m pc ls (v2 :: v1 :: rest)) (locs := locs) (cells := cells) (slots := slots) ⟨C.1, C.2.1, C.2.2.1, C.2.2.2.1, C.2.2.2.2.1⟩ (hct H.size) ⟨hcb, C.2.2.2.2.1 _ hst⟩ ⟨PCt.blind, pct_pre C hP hD rfl hC hn⟩ rfl rfl hl.1 rfl (lv_room (catsum_le hrest)) hd ⟨hcs.1, hcs.2⟩
  exact ww_run hrun C.2.2.2.2.2.2.1 hP hD hS hl hC hn rfl hpc (by rw [pB_same is hC]; exact k)
theorem ww_callS3 (C : Cx p R s m args meth c cc own nL Γ A dd) {y : MethodName} {cy : ByteArray} {mL : Nat} {ret : Option FieldType} {d index : Nat}  {v1 v2 v3 : Value} {r : Value} {rest : List Value} (hct : Ct l Γ y cy mL ret d [v1, v2, v3] wc (some r) wc') (hm : MI y cy mL ret 3) (hst : Cond.static y ∈ Tg) (hlk : Cond.methodLink own index y ∈ Tg) (hd : decode cc pc = .ok (.invokestatic index, 3)) (hdd : d + 1 ≤ dd) (hmL : mL ≤ 16) (hrest : rest.length ≤ 4) (hcs : cells ≤ R.cells ∧ slots ≤ R.slots) (is : List Nat) (hC : is.map (fun i => ws[i]?) = wc.map some) (hn : va_nd is = true) (ha : wc'.map (fun q => q.1) = wc.map (fun q => q.1)) (pc2 : Nat) (hpc : pc + 3 = pc2) (k : WW p l e R s m args below meth c cells slots Q Γ A nL (pB ws is wc') pc2 lv (r :: rest)) : WW p l e R s m args below meth c cells slots Q Γ A nL ws pc lv (v3 :: v2 :: v1 :: rest) := fun H locs ls hP hD hS hl => by
  have hroom : d + 1 ≤ R.frames ∧ 8 + (mL + 11) + 35 * d ≤ R.locals := ⟨Nat.le_trans hdd C.2.2.2.2.2.2.2.2.1, by have := C.2.2.2.2.2.2.2.2.2; show 8 + (mL + 11) + 35 * d ≤ R.locals; omega⟩
  have hcb : CallB R s args own index y cy mL ret (.code y cy mL ret :: Tg) (rmD d) 0 0 3 := ⟨rfl, rfl, ((hroom)).1, ((hroom)).2, pay_in C.2.2.2.2.1 (code_good hm.1), List.mem_cons_self, C.2.2.2.2.1 _ hm.1, C.2.2.2.2.1 _ hm.2.1, ⟨hm.2.2.1, hm.2.2.2.1⟩, fun sig h => by have h2 := hm.2.2.2.2.1; rw [h] at h2; exact (Option.some.inj h2).symm, C.2.2.2.2.1 _ hlk⟩
  have hrun := va_runS (e := e) (below := below) (meth := meth) (As := [v1, v2, v3]) (rest := rest) (g := F0 m pc ls (v3 :: v2 :: v1 :: rest)) (locs := locs) (cells := cells) (slots := slots) ⟨C.1, C.2.1, C.2.2.1, C.2.2.2.1, C.2.2.2.2.1⟩ (hct H.size) ⟨hcb, C.2.2.2.2.1 _ hst⟩ ⟨PCt.blind, pct_pre C hP hD rfl hC hn⟩ rfl rfl hl.1 rfl (lv_room (catsum_le hrest)) hd ⟨hcs.1, hcs.2⟩
  exact ww_run hrun C.2.2.2.2.2.2.1 hP hD hS hl hC hn ha hpc k
theorem ww_callS3p (C : Cx p R s m args meth c cc own nL Γ A dd) {y : MethodName} {cy : ByteArray} {mL : Nat} {ret : Option FieldType} {d index : Nat}  {v1 v2 v3 : Value} {r : Value} {rest : List Value} (hct : Ct l Γ y cy mL ret d [v1, v2, v3] wc (some r) wc) (hm : MI y cy mL ret 3) (hst : Cond.static y ∈ Tg) (hlk : Cond.methodLink own index y ∈ Tg) (hd : decode cc pc = .ok (.invokestatic index, 3)) (hdd : d + 1 ≤ dd) (hmL : mL ≤ 16) (hrest : rest.length ≤ 4) (hcs : cells ≤ R.cells ∧ slots ≤ R.slots) (is : List Nat) (hC : is.map (fun i => ws[i]?) = wc.map some) (hn : va_nd is = true) (pc2 : Nat) (hpc : pc + 3 = pc2) (k : WW p l e R s m args below meth c cells slots Q Γ A nL ws pc2 lv (r :: rest)) : WW p l e R s m args below meth c cells slots Q Γ A nL ws pc lv (v3 :: v2 :: v1 :: rest) := fun H locs ls hP hD hS hl => by
  have hroom : d + 1 ≤ R.frames ∧ 8 + (mL + 11) + 35 * d ≤ R.locals := ⟨Nat.le_trans hdd C.2.2.2.2.2.2.2.2.1, by have := C.2.2.2.2.2.2.2.2.2; show 8 + (mL + 11) + 35 * d ≤ R.locals; omega⟩
  have hcb : CallB R s args own index y cy mL ret (.code y cy mL ret :: Tg) (rmD d) 0 0 3 := ⟨rfl, rfl, ((hroom)).1, ((hroom)).2, pay_in C.2.2.2.2.1 (code_good hm.1), List.mem_cons_self, C.2.2.2.2.1 _ hm.1, C.2.2.2.2.1 _ hm.2.1, ⟨hm.2.2.1, hm.2.2.2.1⟩, fun sig h => by have h2 := hm.2.2.2.2.1; rw [h] at h2; exact (Option.some.inj h2).symm, C.2.2.2.2.1 _ hlk⟩
  have hrun := va_runS (e := e) (below := below) (meth := meth) (As := [v1, v2, v3]) (rest := rest) (g := F0 m pc ls (v3 :: v2 :: v1 :: rest)) (locs := locs) (cells := cells) (slots := slots) ⟨C.1, C.2.1, C.2.2.1, C.2.2.2.1, C.2.2.2.2.1⟩ (hct H.size) ⟨hcb, C.2.2.2.2.1 _ hst⟩ ⟨PCt.blind, pct_pre C hP hD rfl hC hn⟩ rfl rfl hl.1 rfl (lv_room (catsum_le hrest)) hd ⟨hcs.1, hcs.2⟩
  exact ww_run hrun C.2.2.2.2.2.2.1 hP hD hS hl hC hn rfl hpc (by rw [pB_same is hC]; exact k)
theorem ww_callS3v (C : Cx p R s m args meth c cc own nL Γ A dd) {y : MethodName} {cy : ByteArray} {mL : Nat} {ret : Option FieldType} {d index : Nat}  {v1 v2 v3 : Value} {r : Value} {rest : List Value} (hct : Ct l Γ y cy mL ret d [v1, v2, v3] wc none wc') (hm : MI y cy mL ret 3) (hst : Cond.static y ∈ Tg) (hlk : Cond.methodLink own index y ∈ Tg) (hd : decode cc pc = .ok (.invokestatic index, 3)) (hdd : d + 1 ≤ dd) (hmL : mL ≤ 16) (hrest : rest.length ≤ 4) (hcs : cells ≤ R.cells ∧ slots ≤ R.slots) (is : List Nat) (hC : is.map (fun i => ws[i]?) = wc.map some) (hn : va_nd is = true) (ha : wc'.map (fun q => q.1) = wc.map (fun q => q.1)) (pc2 : Nat) (hpc : pc + 3 = pc2) (k : WW p l e R s m args below meth c cells slots Q Γ A nL (pB ws is wc') pc2 lv rest) : WW p l e R s m args below meth c cells slots Q Γ A nL ws pc lv (v3 :: v2 :: v1 :: rest) := fun H locs ls hP hD hS hl => by
  have hroom : d + 1 ≤ R.frames ∧ 8 + (mL + 11) + 35 * d ≤ R.locals := ⟨Nat.le_trans hdd C.2.2.2.2.2.2.2.2.1, by have := C.2.2.2.2.2.2.2.2.2; show 8 + (mL + 11) + 35 * d ≤ R.locals; omega⟩
  have hcb : CallB R s args own index y cy mL ret (.code y cy mL ret :: Tg) (rmD d) 0 0 3 := ⟨rfl, rfl, ((hroom)).1, ((hroom)).2, pay_in C.2.2.2.2.1 (code_good hm.1), List.mem_cons_self, C.2.2.2.2.1 _ hm.1, C.2.2.2.2.1 _ hm.2.1, ⟨hm.2.2.1, hm.2.2.2.1⟩, fun sig h => by have h2 := hm.2.2.2.2.1; rw [h] at h2; exact (Option.some.inj h2).symm, C.2.2.2.2.1 _ hlk⟩
  have hrun := va_runS (e := e) (below := below) (meth := meth) (As := [v1, v2, v3]) (rest := rest) (g := F0 m pc ls (v3 :: v2 :: v1 :: rest)) (locs := locs) (cells := cells) (slots := slots) ⟨C.1, C.2.1, C.2.2.1, C.2.2.2.1, C.2.2.2.2.1⟩ (hct H.size) ⟨hcb, C.2.2.2.2.1 _ hst⟩ ⟨PCt.blind, pct_pre C hP hD rfl hC hn⟩ rfl rfl hl.1 rfl (lv_room (catsum_le hrest)) hd ⟨hcs.1, hcs.2⟩
  exact ww_run hrun C.2.2.2.2.2.2.1 hP hD hS hl hC hn ha hpc k
theorem ww_callS3vp (C : Cx p R s m args meth c cc own nL Γ A dd) {y : MethodName} {cy : ByteArray} {mL : Nat} {ret : Option FieldType} {d index : Nat}  {v1 v2 v3 : Value} {r : Value} {rest : List Value} (hct : Ct l Γ y cy mL ret d [v1, v2, v3] wc none wc) (hm : MI y cy mL ret 3) (hst : Cond.static y ∈ Tg) (hlk : Cond.methodLink own index y ∈ Tg) (hd : decode cc pc = .ok (.invokestatic index, 3)) (hdd : d + 1 ≤ dd) (hmL : mL ≤ 16) (hrest : rest.length ≤ 4) (hcs : cells ≤ R.cells ∧ slots ≤ R.slots) (is : List Nat) (hC : is.map (fun i => ws[i]?) = wc.map some) (hn : va_nd is = true) (pc2 : Nat) (hpc : pc + 3 = pc2) (k : WW p l e R s m args below meth c cells slots Q Γ A nL ws pc2 lv rest) : WW p l e R s m args below meth c cells slots Q Γ A nL ws pc lv (v3 :: v2 :: v1 :: rest) := fun H locs ls hP hD hS hl => by
  have hroom : d + 1 ≤ R.frames ∧ 8 + (mL + 11) + 35 * d ≤ R.locals := ⟨Nat.le_trans hdd C.2.2.2.2.2.2.2.2.1, by have := C.2.2.2.2.2.2.2.2.2; show 8 + (mL + 11) + 35 * d ≤ R.locals; omega⟩
  have hcb : CallB R s args own index y cy mL ret (.code y cy mL ret :: Tg) (rmD d) 0 0 3 := ⟨rfl, rfl, ((hroom)).1, ((hroom)).2, pay_in C.2.2.2.2.1 (code_good hm.1), List.mem_cons_self, C.2.2.2.2.1 _ hm.1, C.2.2.2.2.1 _ hm.2.1, ⟨hm.2.2.1, hm.2.2.2.1⟩, fun sig h => by have h2 := hm.2.2.2.2.1; rw [h] at h2; exact (Option.some.inj h2).symm, C.2.2.2.2.1 _ hlk⟩
  have hrun := va_runS (e := e) (below := below) (meth := meth) (As := [v1, v2, v3]) (rest := rest) (g := F0 m pc ls (v3 :: v2 :: v1 :: rest)) (locs := locs) (cells := cells) (slots := slots) ⟨C.1, C.2.1, C.2.2.1, C.2.2.2.1, C.2.2.2.2.1⟩ (hct H.size) ⟨hcb, C.2.2.2.2.1 _ hst⟩ ⟨PCt.blind, pct_pre C hP hD rfl hC hn⟩ rfl rfl hl.1 rfl (lv_room (catsum_le hrest)) hd ⟨hcs.1, hcs.2⟩
  exact ww_run hrun C.2.2.2.2.2.2.1 hP hD hS hl hC hn rfl hpc (by rw [pB_same is hC]; exact k)
theorem ww_callS4 (C : Cx p R s m args meth c cc own nL Γ A dd) {y : MethodName} {cy : ByteArray} {mL : Nat} {ret : Option FieldType} {d index : Nat}  {v1 v2 v3 v4 : Value} {r : Value} {rest : List Value} (hct : Ct l Γ y cy mL ret d [v1, v2, v3, v4] wc (some r) wc') (hm : MI y cy mL ret 4) (hst : Cond.static y ∈ Tg) (hlk : Cond.methodLink own index y ∈ Tg) (hd : decode cc pc = .ok (.invokestatic index, 3)) (hdd : d + 1 ≤ dd) (hmL : mL ≤ 16) (hrest : rest.length ≤ 4) (hcs : cells ≤ R.cells ∧ slots ≤ R.slots) (is : List Nat) (hC : is.map (fun i => ws[i]?) = wc.map some) (hn : va_nd is = true) (ha : wc'.map (fun q => q.1) = wc.map (fun q => q.1)) (pc2 : Nat) (hpc : pc + 3 = pc2) (k : WW p l e R s m args below meth c cells slots Q Γ A nL (pB ws is wc') pc2 lv (r :: rest)) : WW p l e R s m args below meth c cells slots Q Γ A nL ws pc lv (v4 :: v3 :: v2 :: v1 :: rest) := fun H locs ls hP hD hS hl => by
  have hroom : d + 1 ≤ R.frames ∧ 8 + (mL + 11) + 35 * d ≤ R.locals := ⟨Nat.le_trans hdd C.2.2.2.2.2.2.2.2.1, by have := C.2.2.2.2.2.2.2.2.2; show 8 + (mL + 11) + 35 * d ≤ R.locals; omega⟩
  have hcb : CallB R s args own index y cy mL ret (.code y cy mL ret :: Tg) (rmD d) 0 0 4 := ⟨rfl, rfl, ((hroom)).1, ((hroom)).2, pay_in C.2.2.2.2.1 (code_good hm.1), List.mem_cons_self, C.2.2.2.2.1 _ hm.1, C.2.2.2.2.1 _ hm.2.1, ⟨hm.2.2.1, hm.2.2.2.1⟩, fun sig h => by have h2 := hm.2.2.2.2.1; rw [h] at h2; exact (Option.some.inj h2).symm, C.2.2.2.2.1 _ hlk⟩
  have hrun := va_runS (e := e) (below := below) (meth := meth) (As := [v1, v2, v3, v4]) (rest := rest) (g := F0 m pc ls (v4 :: v3 :: v2 :: v1 :: rest)) (locs := locs) (cells := cells) (slots := slots) ⟨C.1, C.2.1, C.2.2.1, C.2.2.2.1, C.2.2.2.2.1⟩ (hct H.size) ⟨hcb, C.2.2.2.2.1 _ hst⟩ ⟨PCt.blind, pct_pre C hP hD rfl hC hn⟩ rfl rfl hl.1 rfl (lv_room (catsum_le hrest)) hd ⟨hcs.1, hcs.2⟩
  exact ww_run hrun C.2.2.2.2.2.2.1 hP hD hS hl hC hn ha hpc k
theorem ww_callS4p (C : Cx p R s m args meth c cc own nL Γ A dd) {y : MethodName} {cy : ByteArray} {mL : Nat} {ret : Option FieldType} {d index : Nat}  {v1 v2 v3 v4 : Value} {r : Value} {rest : List Value} (hct : Ct l Γ y cy mL ret d [v1, v2, v3, v4] wc (some r) wc) (hm : MI y cy mL ret 4) (hst : Cond.static y ∈ Tg) (hlk : Cond.methodLink own index y ∈ Tg) (hd : decode cc pc = .ok (.invokestatic index, 3)) (hdd : d + 1 ≤ dd) (hmL : mL ≤ 16) (hrest : rest.length ≤ 4) (hcs : cells ≤ R.cells ∧ slots ≤ R.slots) (is : List Nat) (hC : is.map (fun i => ws[i]?) = wc.map some) (hn : va_nd is = true) (pc2 : Nat) (hpc : pc + 3 = pc2) (k : WW p l e R s m args below meth c cells slots Q Γ A nL ws pc2 lv (r :: rest)) : WW p l e R s m args below meth c cells slots Q Γ A nL ws pc lv (v4 :: v3 :: v2 :: v1 :: rest) := fun H locs ls hP hD hS hl => by
  have hroom : d + 1 ≤ R.frames ∧ 8 + (mL + 11) + 35 * d ≤ R.locals := ⟨Nat.le_trans hdd C.2.2.2.2.2.2.2.2.1, by have := C.2.2.2.2.2.2.2.2.2; show 8 + (mL + 11) + 35 * d ≤ R.locals; omega⟩
  have hcb : CallB R s args own index y cy mL ret (.code y cy mL ret :: Tg) (rmD d) 0 0 4 := ⟨rfl, rfl, ((hroom)).1, ((hroom)).2, pay_in C.2.2.2.2.1 (code_good hm.1), List.mem_cons_self, C.2.2.2.2.1 _ hm.1, C.2.2.2.2.1 _ hm.2.1, ⟨hm.2.2.1, hm.2.2.2.1⟩, fun sig h => by have h2 := hm.2.2.2.2.1; rw [h] at h2; exact (Option.some.inj h2).symm, C.2.2.2.2.1 _ hlk⟩
  have hrun := va_runS (e := e) (below := below) (meth := meth) (As := [v1, v2, v3, v4]) (rest := rest) (g := F0 m pc ls (v4 :: v3 :: v2 :: v1 :: rest)) (locs := locs) (cells := cells) (slots := slots) ⟨C.1, C.2.1, C.2.2.1, C.2.2.2.1, C.2.2.2.2.1⟩ (hct H.size) ⟨hcb, C.2.2.2.2.1 _ hst⟩ ⟨PCt.blind, pct_pre C hP hD rfl hC hn⟩ rfl rfl hl.1 rfl (lv_room (catsum_le hrest)) hd ⟨hcs.1, hcs.2⟩
  exact ww_run hrun C.2.2.2.2.2.2.1 hP hD hS hl hC hn rfl hpc (by rw [pB_same is hC]; exact k)
theorem ww_callS4v (C : Cx p R s m args meth c cc own nL Γ A dd) {y : MethodName} {cy : ByteArray} {mL : Nat} {ret : Option FieldType} {d index : Nat}  {v1 v2 v3 v4 : Value} {r : Value} {rest : List Value} (hct : Ct l Γ y cy mL ret d [v1, v2, v3, v4] wc none wc') (hm : MI y cy mL ret 4) (hst : Cond.static y ∈ Tg) (hlk : Cond.methodLink own index y ∈ Tg) (hd : decode cc pc = .ok (.invokestatic index, 3)) (hdd : d + 1 ≤ dd) (hmL : mL ≤ 16) (hrest : rest.length ≤ 4) (hcs : cells ≤ R.cells ∧ slots ≤ R.slots) (is : List Nat) (hC : is.map (fun i => ws[i]?) = wc.map some) (hn : va_nd is = true) (ha : wc'.map (fun q => q.1) = wc.map (fun q => q.1)) (pc2 : Nat) (hpc : pc + 3 = pc2) (k : WW p l e R s m args below meth c cells slots Q Γ A nL (pB ws is wc') pc2 lv rest) : WW p l e R s m args below meth c cells slots Q Γ A nL ws pc lv (v4 :: v3 :: v2 :: v1 :: rest) := fun H locs ls hP hD hS hl => by
  have hroom : d + 1 ≤ R.frames ∧ 8 + (mL + 11) + 35 * d ≤ R.locals := ⟨Nat.le_trans hdd C.2.2.2.2.2.2.2.2.1, by have := C.2.2.2.2.2.2.2.2.2; show 8 + (mL + 11) + 35 * d ≤ R.locals; omega⟩
  have hcb : CallB R s args own index y cy mL ret (.code y cy mL ret :: Tg) (rmD d) 0 0 4 := ⟨rfl, rfl, ((hroom)).1, ((hroom)).2, pay_in C.2.2.2.2.1 (code_good hm.1), List.mem_cons_self, C.2.2.2.2.1 _ hm.1, C.2.2.2.2.1 _ hm.2.1, ⟨hm.2.2.1, hm.2.2.2.1⟩, fun sig h => by have h2 := hm.2.2.2.2.1; rw [h] at h2; exact (Option.some.inj h2).symm, C.2.2.2.2.1 _ hlk⟩
  have hrun := va_runS (e := e) (below := below) (meth := meth) (As := [v1, v2, v3, v4]) (rest := rest) (g := F0 m pc ls (v4 :: v3 :: v2 :: v1 :: rest)) (locs := locs) (cells := cells) (slots := slots) ⟨C.1, C.2.1, C.2.2.1, C.2.2.2.1, C.2.2.2.2.1⟩ (hct H.size) ⟨hcb, C.2.2.2.2.1 _ hst⟩ ⟨PCt.blind, pct_pre C hP hD rfl hC hn⟩ rfl rfl hl.1 rfl (lv_room (catsum_le hrest)) hd ⟨hcs.1, hcs.2⟩
  exact ww_run hrun C.2.2.2.2.2.2.1 hP hD hS hl hC hn ha hpc k
theorem ww_callS4vp (C : Cx p R s m args meth c cc own nL Γ A dd) {y : MethodName} {cy : ByteArray} {mL : Nat} {ret : Option FieldType} {d index : Nat}  {v1 v2 v3 v4 : Value} {r : Value} {rest : List Value} (hct : Ct l Γ y cy mL ret d [v1, v2, v3, v4] wc none wc) (hm : MI y cy mL ret 4) (hst : Cond.static y ∈ Tg) (hlk : Cond.methodLink own index y ∈ Tg) (hd : decode cc pc = .ok (.invokestatic index, 3)) (hdd : d + 1 ≤ dd) (hmL : mL ≤ 16) (hrest : rest.length ≤ 4) (hcs : cells ≤ R.cells ∧ slots ≤ R.slots) (is : List Nat) (hC : is.map (fun i => ws[i]?) = wc.map some) (hn : va_nd is = true) (pc2 : Nat) (hpc : pc + 3 = pc2) (k : WW p l e R s m args below meth c cells slots Q Γ A nL ws pc2 lv rest) : WW p l e R s m args below meth c cells slots Q Γ A nL ws pc lv (v4 :: v3 :: v2 :: v1 :: rest) := fun H locs ls hP hD hS hl => by
  have hroom : d + 1 ≤ R.frames ∧ 8 + (mL + 11) + 35 * d ≤ R.locals := ⟨Nat.le_trans hdd C.2.2.2.2.2.2.2.2.1, by have := C.2.2.2.2.2.2.2.2.2; show 8 + (mL + 11) + 35 * d ≤ R.locals; omega⟩
  have hcb : CallB R s args own index y cy mL ret (.code y cy mL ret :: Tg) (rmD d) 0 0 4 := ⟨rfl, rfl, ((hroom)).1, ((hroom)).2, pay_in C.2.2.2.2.1 (code_good hm.1), List.mem_cons_self, C.2.2.2.2.1 _ hm.1, C.2.2.2.2.1 _ hm.2.1, ⟨hm.2.2.1, hm.2.2.2.1⟩, fun sig h => by have h2 := hm.2.2.2.2.1; rw [h] at h2; exact (Option.some.inj h2).symm, C.2.2.2.2.1 _ hlk⟩
  have hrun := va_runS (e := e) (below := below) (meth := meth) (As := [v1, v2, v3, v4]) (rest := rest) (g := F0 m pc ls (v4 :: v3 :: v2 :: v1 :: rest)) (locs := locs) (cells := cells) (slots := slots) ⟨C.1, C.2.1, C.2.2.1, C.2.2.2.1, C.2.2.2.2.1⟩ (hct H.size) ⟨hcb, C.2.2.2.2.1 _ hst⟩ ⟨PCt.blind, pct_pre C hP hD rfl hC hn⟩ rfl rfl hl.1 rfl (lv_room (catsum_le hrest)) hd ⟨hcs.1, hcs.2⟩
  exact ww_run hrun C.2.2.2.2.2.2.1 hP hD hS hl hC hn rfl hpc (by rw [pB_same is hC]; exact k)
theorem ww_callS5 (C : Cx p R s m args meth c cc own nL Γ A dd) {y : MethodName} {cy : ByteArray} {mL : Nat} {ret : Option FieldType} {d index : Nat}  {v1 v2 v3 v4 v5 : Value} {r : Value} {rest : List Value} (hct : Ct l Γ y cy mL ret d [v1, v2, v3, v4, v5] wc (some r) wc') (hm : MI y cy mL ret 5) (hst : Cond.static y ∈ Tg) (hlk : Cond.methodLink own index y ∈ Tg) (hd : decode cc pc = .ok (.invokestatic index, 3)) (hdd : d + 1 ≤ dd) (hmL : mL ≤ 16) (hrest : rest.length ≤ 4) (hcs : cells ≤ R.cells ∧ slots ≤ R.slots) (is : List Nat) (hC : is.map (fun i => ws[i]?) = wc.map some) (hn : va_nd is = true) (ha : wc'.map (fun q => q.1) = wc.map (fun q => q.1)) (pc2 : Nat) (hpc : pc + 3 = pc2) (k : WW p l e R s m args below meth c cells slots Q Γ A nL (pB ws is wc') pc2 lv (r :: rest)) : WW p l e R s m args below meth c cells slots Q Γ A nL ws pc lv (v5 :: v4 :: v3 :: v2 :: v1 :: rest) := fun H locs ls hP hD hS hl => by
  have hroom : d + 1 ≤ R.frames ∧ 8 + (mL + 11) + 35 * d ≤ R.locals := ⟨Nat.le_trans hdd C.2.2.2.2.2.2.2.2.1, by have := C.2.2.2.2.2.2.2.2.2; show 8 + (mL + 11) + 35 * d ≤ R.locals; omega⟩
  have hcb : CallB R s args own index y cy mL ret (.code y cy mL ret :: Tg) (rmD d) 0 0 5 := ⟨rfl, rfl, ((hroom)).1, ((hroom)).2, pay_in C.2.2.2.2.1 (code_good hm.1), List.mem_cons_self, C.2.2.2.2.1 _ hm.1, C.2.2.2.2.1 _ hm.2.1, ⟨hm.2.2.1, hm.2.2.2.1⟩, fun sig h => by have h2 := hm.2.2.2.2.1; rw [h] at h2; exact (Option.some.inj h2).symm, C.2.2.2.2.1 _ hlk⟩
  have hrun := va_runS (e := e) (below := below) (meth := meth) (As := [v1, v2, v3, v4, v5]) (rest := rest) (g := F0 m pc ls (v5 :: v4 :: v3 :: v2 :: v1 :: rest)) (locs := locs) (cells := cells) (slots := slots) ⟨C.1, C.2.1, C.2.2.1, C.2.2.2.1, C.2.2.2.2.1⟩ (hct H.size) ⟨hcb, C.2.2.2.2.1 _ hst⟩ ⟨PCt.blind, pct_pre C hP hD rfl hC hn⟩ rfl rfl hl.1 rfl (lv_room (catsum_le hrest)) hd ⟨hcs.1, hcs.2⟩
  exact ww_run hrun C.2.2.2.2.2.2.1 hP hD hS hl hC hn ha hpc k
theorem ww_callS5p (C : Cx p R s m args meth c cc own nL Γ A dd) {y : MethodName} {cy : ByteArray} {mL : Nat} {ret : Option FieldType} {d index : Nat}  {v1 v2 v3 v4 v5 : Value} {r : Value} {rest : List Value} (hct : Ct l Γ y cy mL ret d [v1, v2, v3, v4, v5] wc (some r) wc) (hm : MI y cy mL ret 5) (hst : Cond.static y ∈ Tg) (hlk : Cond.methodLink own index y ∈ Tg) (hd : decode cc pc = .ok (.invokestatic index, 3)) (hdd : d + 1 ≤ dd) (hmL : mL ≤ 16) (hrest : rest.length ≤ 4) (hcs : cells ≤ R.cells ∧ slots ≤ R.slots) (is : List Nat) (hC : is.map (fun i => ws[i]?) = wc.map some) (hn : va_nd is = true) (pc2 : Nat) (hpc : pc + 3 = pc2) (k : WW p l e R s m args below meth c cells slots Q Γ A nL ws pc2 lv (r :: rest)) : WW p l e R s m args below meth c cells slots Q Γ A nL ws pc lv (v5 :: v4 :: v3 :: v2 :: v1 :: rest) := fun H locs ls hP hD hS hl => by
  have hroom : d + 1 ≤ R.frames ∧ 8 + (mL + 11) + 35 * d ≤ R.locals := ⟨Nat.le_trans hdd C.2.2.2.2.2.2.2.2.1, by have := C.2.2.2.2.2.2.2.2.2; show 8 + (mL + 11) + 35 * d ≤ R.locals; omega⟩
  have hcb : CallB R s args own index y cy mL ret (.code y cy mL ret :: Tg) (rmD d) 0 0 5 := ⟨rfl, rfl, ((hroom)).1, ((hroom)).2, pay_in C.2.2.2.2.1 (code_good hm.1), List.mem_cons_self, C.2.2.2.2.1 _ hm.1, C.2.2.2.2.1 _ hm.2.1, ⟨hm.2.2.1, hm.2.2.2.1⟩, fun sig h => by have h2 := hm.2.2.2.2.1; rw [h] at h2; exact (Option.some.inj h2).symm, C.2.2.2.2.1 _ hlk⟩
  have hrun := va_runS (e := e) (below := below) (meth := meth) (As := [v1, v2, v3, v4, v5]) (rest := rest) (g := F0 m pc ls (v5 :: v4 :: v3 :: v2 :: v1 :: rest)) (locs := locs) (cells := cells) (slots := slots) ⟨C.1, C.2.1, C.2.2.1, C.2.2.2.1, C.2.2.2.2.1⟩ (hct H.size) ⟨hcb, C.2.2.2.2.1 _ hst⟩ ⟨PCt.blind, pct_pre C hP hD rfl hC hn⟩ rfl rfl hl.1 rfl (lv_room (catsum_le hrest)) hd ⟨hcs.1, hcs.2⟩
  exact ww_run hrun C.2.2.2.2.2.2.1 hP hD hS hl hC hn rfl hpc (by rw [pB_same is hC]; exact k)
theorem ww_callS5v (C : Cx p R s m args meth c cc own nL Γ A dd) {y : MethodName} {cy : ByteArray} {mL : Nat} {ret : Option FieldType} {d index : Nat}  {v1 v2 v3 v4 v5 : Value} {r : Value} {rest : List Value} (hct : Ct l Γ y cy mL ret d [v1, v2, v3, v4, v5] wc none wc') (hm : MI y cy mL ret 5) (hst : Cond.static y ∈ Tg) (hlk : Cond.methodLink own index y ∈ Tg) (hd : decode cc pc = .ok (.invokestatic index, 3)) (hdd : d + 1 ≤ dd) (hmL : mL ≤ 16) (hrest : rest.length ≤ 4) (hcs : cells ≤ R.cells ∧ slots ≤ R.slots) (is : List Nat) (hC : is.map (fun i => ws[i]?) = wc.map some) (hn : va_nd is = true) (ha : wc'.map (fun q => q.1) = wc.map (fun q => q.1)) (pc2 : Nat) (hpc : pc + 3 = pc2) (k : WW p l e R s m args below meth c cells slots Q Γ A nL (pB ws is wc') pc2 lv rest) : WW p l e R s m args below meth c cells slots Q Γ A nL ws pc lv (v5 :: v4 :: v3 :: v2 :: v1 :: rest) := fun H locs ls hP hD hS hl => by
  have hroom : d + 1 ≤ R.frames ∧ 8 + (mL + 11) + 35 * d ≤ R.locals := ⟨Nat.le_trans hdd C.2.2.2.2.2.2.2.2.1, by have := C.2.2.2.2.2.2.2.2.2; show 8 + (mL + 11) + 35 * d ≤ R.locals; omega⟩
  have hcb : CallB R s args own index y cy mL ret (.code y cy mL ret :: Tg) (rmD d) 0 0 5 := ⟨rfl, rfl, ((hroom)).1, ((hroom)).2, pay_in C.2.2.2.2.1 (code_good hm.1), List.mem_cons_self, C.2.2.2.2.1 _ hm.1, C.2.2.2.2.1 _ hm.2.1, ⟨hm.2.2.1, hm.2.2.2.1⟩, fun sig h => by have h2 := hm.2.2.2.2.1; rw [h] at h2; exact (Option.some.inj h2).symm, C.2.2.2.2.1 _ hlk⟩
  have hrun := va_runS (e := e) (below := below) (meth := meth) (As := [v1, v2, v3, v4, v5]) (rest := rest) (g := F0 m pc ls (v5 :: v4 :: v3 :: v2 :: v1 :: rest)) (locs := locs) (cells := cells) (slots := slots) ⟨C.1, C.2.1, C.2.2.1, C.2.2.2.1, C.2.2.2.2.1⟩ (hct H.size) ⟨hcb, C.2.2.2.2.1 _ hst⟩ ⟨PCt.blind, pct_pre C hP hD rfl hC hn⟩ rfl rfl hl.1 rfl (lv_room (catsum_le hrest)) hd ⟨hcs.1, hcs.2⟩
  exact ww_run hrun C.2.2.2.2.2.2.1 hP hD hS hl hC hn ha hpc k
theorem ww_callS5vp (C : Cx p R s m args meth c cc own nL Γ A dd) {y : MethodName} {cy : ByteArray} {mL : Nat} {ret : Option FieldType} {d index : Nat}  {v1 v2 v3 v4 v5 : Value} {r : Value} {rest : List Value} (hct : Ct l Γ y cy mL ret d [v1, v2, v3, v4, v5] wc none wc) (hm : MI y cy mL ret 5) (hst : Cond.static y ∈ Tg) (hlk : Cond.methodLink own index y ∈ Tg) (hd : decode cc pc = .ok (.invokestatic index, 3)) (hdd : d + 1 ≤ dd) (hmL : mL ≤ 16) (hrest : rest.length ≤ 4) (hcs : cells ≤ R.cells ∧ slots ≤ R.slots) (is : List Nat) (hC : is.map (fun i => ws[i]?) = wc.map some) (hn : va_nd is = true) (pc2 : Nat) (hpc : pc + 3 = pc2) (k : WW p l e R s m args below meth c cells slots Q Γ A nL ws pc2 lv rest) : WW p l e R s m args below meth c cells slots Q Γ A nL ws pc lv (v5 :: v4 :: v3 :: v2 :: v1 :: rest) := fun H locs ls hP hD hS hl => by
  have hroom : d + 1 ≤ R.frames ∧ 8 + (mL + 11) + 35 * d ≤ R.locals := ⟨Nat.le_trans hdd C.2.2.2.2.2.2.2.2.1, by have := C.2.2.2.2.2.2.2.2.2; show 8 + (mL + 11) + 35 * d ≤ R.locals; omega⟩
  have hcb : CallB R s args own index y cy mL ret (.code y cy mL ret :: Tg) (rmD d) 0 0 5 := ⟨rfl, rfl, ((hroom)).1, ((hroom)).2, pay_in C.2.2.2.2.1 (code_good hm.1), List.mem_cons_self, C.2.2.2.2.1 _ hm.1, C.2.2.2.2.1 _ hm.2.1, ⟨hm.2.2.1, hm.2.2.2.1⟩, fun sig h => by have h2 := hm.2.2.2.2.1; rw [h] at h2; exact (Option.some.inj h2).symm, C.2.2.2.2.1 _ hlk⟩
  have hrun := va_runS (e := e) (below := below) (meth := meth) (As := [v1, v2, v3, v4, v5]) (rest := rest) (g := F0 m pc ls (v5 :: v4 :: v3 :: v2 :: v1 :: rest)) (locs := locs) (cells := cells) (slots := slots) ⟨C.1, C.2.1, C.2.2.1, C.2.2.2.1, C.2.2.2.2.1⟩ (hct H.size) ⟨hcb, C.2.2.2.2.1 _ hst⟩ ⟨PCt.blind, pct_pre C hP hD rfl hC hn⟩ rfl rfl hl.1 rfl (lv_room (catsum_le hrest)) hd ⟨hcs.1, hcs.2⟩
  exact ww_run hrun C.2.2.2.2.2.2.1 hP hD hS hl hC hn rfl hpc (by rw [pB_same is hC]; exact k)
end WWr
end
section
theorem fe_X4_11 : FE RX4 11 2 0 RX4 TX4 10 tyX4 := ⟨fl_X4_11, rfl, by decide, uw_X4, tyX4_ok, nmX4⟩
theorem fe_X4_15 : FE RX4 15 2 1 RX4 TX4 10 tyX4 := ⟨fl_X4_15, rfl, by decide, uw_X4, tyX4_ok, nmX4⟩
theorem fe_X4_48 : FE RX4 48 2 2 RX4 TX4 10 tyX4 := ⟨fl_X4_48, rfl, by decide, uw_X4, tyX4_ok, nmX4⟩
theorem fe_X4_18 : FE RX4 18 2 3 RX4 TX4 10 tyX4 := ⟨fl_X4_18, rfl, by decide, uw_X4, tyX4_ok, nmX4⟩
theorem fe_X4_22 : FE RX4 22 2 4 RX4 TX4 10 tyX4 := ⟨fl_X4_22, rfl, by decide, uw_X4, tyX4_ok, nmX4⟩
theorem fe_X4_26 : FE RX4 26 2 5 RX4 TX4 10 tyX4 := ⟨fl_X4_26, rfl, by decide, uw_X4, tyX4_ok, nmX4⟩
theorem fe_X4_29 : FE RX4 29 2 6 RX4 TX4 10 tyX4 := ⟨fl_X4_29, rfl, by decide, uw_X4, tyX4_ok, nmX4⟩
theorem fe_X4_33 : FE RX4 33 2 7 RX4 TX4 10 tyX4 := ⟨fl_X4_33, rfl, by decide, uw_X4, tyX4_ok, nmX4⟩
theorem fe_X4_36 : FE RX4 36 2 8 RX4 TX4 10 tyX4 := ⟨fl_X4_36, rfl, by decide, uw_X4, tyX4_ok, nmX4⟩
theorem fe_X4_39 : FE RX4 39 2 9 RX4 TX4 10 tyX4 := ⟨fl_X4_39, rfl, by decide, uw_X4, tyX4_ok, nmX4⟩
theorem fe_X8_9 : FE RX8 9 6 0 RX8 TX8 2 tyX8 := ⟨fl_X8_9, rfl, by decide, uw_X8, tyX8_ok, nmX8⟩
theorem fe_X8_13 : FE RX8 13 6 1 RX8 TX8 2 tyX8 := ⟨fl_X8_13, rfl, by decide, uw_X8, tyX8_ok, nmX8⟩
theorem fe_X9_34 : FE RX9 34 6 1 RX8 TX8 2 tyX8 := ⟨fl_X9_34, rfl, by decide, uw_X8, tyX8_ok, nmX8⟩
theorem fe_X10_188 : FE RX10 188 6 1 RX8 TX8 2 tyX8 := ⟨fl_X10_188, rfl, by decide, uw_X8, tyX8_ok, nmX8⟩
theorem fe_X9_11 : FE RX9 11 7 0 RX9 TX9 7 tyX9 := ⟨fl_X9_11, rfl, by decide, uw_X9, tyX9_ok, nmX9⟩
theorem fe_X9_15 : FE RX9 15 7 1 RX9 TX9 7 tyX9 := ⟨fl_X9_15, rfl, by decide, uw_X9, tyX9_ok, nmX9⟩
theorem fe_X9_18 : FE RX9 18 7 2 RX9 TX9 7 tyX9 := ⟨fl_X9_18, rfl, by decide, uw_X9, tyX9_ok, nmX9⟩
theorem fe_X9_21 : FE RX9 21 7 3 RX9 TX9 7 tyX9 := ⟨fl_X9_21, rfl, by decide, uw_X9, tyX9_ok, nmX9⟩
theorem fe_X9_24 : FE RX9 24 7 4 RX9 TX9 7 tyX9 := ⟨fl_X9_24, rfl, by decide, uw_X9, tyX9_ok, nmX9⟩
theorem fe_X9_27 : FE RX9 27 7 5 RX9 TX9 7 tyX9 := ⟨fl_X9_27, rfl, by decide, uw_X9, tyX9_ok, nmX9⟩
theorem fe_X9_31 : FE RX9 31 7 6 RX9 TX9 7 tyX9 := ⟨fl_X9_31, rfl, by decide, uw_X9, tyX9_ok, nmX9⟩
theorem fe_X5_12 : FE RX5 12 3 0 RX5 TX5 5 tyX5 := ⟨fl_X5_12, rfl, by decide, uw_X5, tyX5_ok, nmX5⟩
theorem fe_X5_18 : FE RX5 18 3 1 RX5 TX5 5 tyX5 := ⟨fl_X5_18, rfl, by decide, uw_X5, tyX5_ok, nmX5⟩
theorem fe_X5_22 : FE RX5 22 3 2 RX5 TX5 5 tyX5 := ⟨fl_X5_22, rfl, by decide, uw_X5, tyX5_ok, nmX5⟩
theorem fe_X5_25 : FE RX5 25 3 3 RX5 TX5 5 tyX5 := ⟨fl_X5_25, rfl, by decide, uw_X5, tyX5_ok, nmX5⟩
theorem fe_X10_195 : FE RX10 195 3 3 RX5 TX5 5 tyX5 := ⟨fl_X10_195, rfl, by decide, uw_X5, tyX5_ok, nmX5⟩
theorem fe_X5_28 : FE RX5 28 3 4 RX5 TX5 5 tyX5 := ⟨fl_X5_28, rfl, by decide, uw_X5, tyX5_ok, nmX5⟩
theorem fe_X10_199 : FE RX10 199 3 4 RX5 TX5 5 tyX5 := ⟨fl_X10_199, rfl, by decide, uw_X5, tyX5_ok, nmX5⟩
theorem fe_X1_11 : FE RX1 11 1 0 RX1 TX1 5 tyX1 := ⟨fl_X1_11, rfl, by decide, uw_X1, tyX1_ok, nmX1⟩
theorem fe_X1_15 : FE RX1 15 1 1 RX1 TX1 5 tyX1 := ⟨fl_X1_15, rfl, by decide, uw_X1, tyX1_ok, nmX1⟩
theorem fe_X1_19 : FE RX1 19 1 2 RX1 TX1 5 tyX1 := ⟨fl_X1_19, rfl, by decide, uw_X1, tyX1_ok, nmX1⟩
theorem fe_X1_22 : FE RX1 22 1 3 RX1 TX1 5 tyX1 := ⟨fl_X1_22, rfl, by decide, uw_X1, tyX1_ok, nmX1⟩
theorem fe_X1_25 : FE RX1 25 1 4 RX1 TX1 5 tyX1 := ⟨fl_X1_25, rfl, by decide, uw_X1, tyX1_ok, nmX1⟩
theorem fe_X10_226 : FE RX10 226 1 4 RX1 TX1 5 tyX1 := ⟨fl_X10_226, rfl, by decide, uw_X1, tyX1_ok, nmX1⟩
theorem fe_X0_11 : FE RX0 11 0 0 RX0 TX0 2 tyX0 := ⟨fl_X0_11, rfl, by decide, uw_X0, tyX0_ok, nmX0⟩
theorem fe_X0_15 : FE RX0 15 0 1 RX0 TX0 2 tyX0 := ⟨fl_X0_15, rfl, by decide, uw_X0, tyX0_ok, nmX0⟩
theorem fe_X6_11 : FE RX6 11 4 0 RX6 TX6 6 tyX6 := ⟨fl_X6_11, rfl, by decide, uw_X6, tyX6_ok, nmX6⟩
theorem fe_X6_15 : FE RX6 15 4 1 RX6 TX6 6 tyX6 := ⟨fl_X6_15, rfl, by decide, uw_X6, tyX6_ok, nmX6⟩
theorem fe_X6_18 : FE RX6 18 4 2 RX6 TX6 6 tyX6 := ⟨fl_X6_18, rfl, by decide, uw_X6, tyX6_ok, nmX6⟩
theorem fe_X6_21 : FE RX6 21 4 3 RX6 TX6 6 tyX6 := ⟨fl_X6_21, rfl, by decide, uw_X6, tyX6_ok, nmX6⟩
theorem fe_X6_24 : FE RX6 24 4 4 RX6 TX6 6 tyX6 := ⟨fl_X6_24, rfl, by decide, uw_X6, tyX6_ok, nmX6⟩
theorem fe_X6_27 : FE RX6 27 4 5 RX6 TX6 6 tyX6 := ⟨fl_X6_27, rfl, by decide, uw_X6, tyX6_ok, nmX6⟩
theorem fe_X5_35 : FE RX5 35 4 5 RX6 TX6 6 tyX6 := ⟨fl_X5_35, rfl, by decide, uw_X6, tyX6_ok, nmX6⟩
theorem fe_X10_202 : FE RX10 202 4 5 RX6 TX6 6 tyX6 := ⟨fl_X10_202, rfl, by decide, uw_X6, tyX6_ok, nmX6⟩
theorem fe_X7_11 : FE RX7 11 5 0 RX7 TX7 3 tyX7 := ⟨fl_X7_11, rfl, by decide, uw_X7, tyX7_ok, nmX7⟩
theorem fe_X10_118 : FE RX10 118 5 0 RX7 TX7 3 tyX7 := ⟨fl_X10_118, rfl, by decide, uw_X7, tyX7_ok, nmX7⟩
theorem fe_X7_15 : FE RX7 15 5 1 RX7 TX7 3 tyX7 := ⟨fl_X7_15, rfl, by decide, uw_X7, tyX7_ok, nmX7⟩
theorem fe_X10_111 : FE RX10 111 5 1 RX7 TX7 3 tyX7 := ⟨fl_X10_111, rfl, by decide, uw_X7, tyX7_ok, nmX7⟩
theorem fe_X7_19 : FE RX7 19 5 2 RX7 TX7 3 tyX7 := ⟨fl_X7_19, rfl, by decide, uw_X7, tyX7_ok, nmX7⟩
theorem fe_X10_128 : FE RX10 128 5 2 RX7 TX7 3 tyX7 := ⟨fl_X10_128, rfl, by decide, uw_X7, tyX7_ok, nmX7⟩
theorem fe_X10_11 : FE RX10 11 8 0 RX10 TX10 12 tyX10 := ⟨fl_X10_11, rfl, by decide, uw_X10, tyX10_ok, nmX10⟩
theorem fe_X10_18 : FE RX10 18 8 1 RX10 TX10 12 tyX10 := ⟨fl_X10_18, rfl, by decide, uw_X10, tyX10_ok, nmX10⟩
theorem fe_X10_25 : FE RX10 25 8 2 RX10 TX10 12 tyX10 := ⟨fl_X10_25, rfl, by decide, uw_X10, tyX10_ok, nmX10⟩
theorem fe_X10_32 : FE RX10 32 8 3 RX10 TX10 12 tyX10 := ⟨fl_X10_32, rfl, by decide, uw_X10, tyX10_ok, nmX10⟩
theorem fe_X10_39 : FE RX10 39 8 4 RX10 TX10 12 tyX10 := ⟨fl_X10_39, rfl, by decide, uw_X10, tyX10_ok, nmX10⟩
theorem fe_X10_46 : FE RX10 46 8 5 RX10 TX10 12 tyX10 := ⟨fl_X10_46, rfl, by decide, uw_X10, tyX10_ok, nmX10⟩
theorem fe_X10_53 : FE RX10 53 8 6 RX10 TX10 12 tyX10 := ⟨fl_X10_53, rfl, by decide, uw_X10, tyX10_ok, nmX10⟩
theorem fe_X10_57 : FE RX10 57 8 7 RX10 TX10 12 tyX10 := ⟨fl_X10_57, rfl, by decide, uw_X10, tyX10_ok, nmX10⟩
theorem fe_X10_60 : FE RX10 60 8 8 RX10 TX10 12 tyX10 := ⟨fl_X10_60, rfl, by decide, uw_X10, tyX10_ok, nmX10⟩
theorem fe_X10_70 : FE RX10 70 8 9 RX10 TX10 12 tyX10 := ⟨fl_X10_70, rfl, by decide, uw_X10, tyX10_ok, nmX10⟩
theorem fe_X10_74 : FE RX10 74 8 10 RX10 TX10 12 tyX10 := ⟨fl_X10_74, rfl, by decide, uw_X10, tyX10_ok, nmX10⟩
theorem fe_X10_77 : FE RX10 77 8 11 RX10 TX10 12 tyX10 := ⟨fl_X10_77, rfl, by decide, uw_X10, tyX10_ok, nmX10⟩
theorem fe_X11_52 : FE RX11 52 9 0 RX11 TX11 30 tyX11 := ⟨fl_X11_52, rfl, by decide, uw_X11, tyX11_ok, nmX11⟩
theorem fe_X11_56 : FE RX11 56 9 1 RX11 TX11 30 tyX11 := ⟨fl_X11_56, rfl, by decide, uw_X11, tyX11_ok, nmX11⟩
theorem fe_X11_7 : FE RX11 7 9 2 RX11 TX11 30 tyX11 := ⟨fl_X11_7, rfl, by decide, uw_X11, tyX11_ok, nmX11⟩
theorem fe_X11_13 : FE RX11 13 9 3 RX11 TX11 30 tyX11 := ⟨fl_X11_13, rfl, by decide, uw_X11, tyX11_ok, nmX11⟩
theorem fe_X11_16 : FE RX11 16 9 4 RX11 TX11 30 tyX11 := ⟨fl_X11_16, rfl, by decide, uw_X11, tyX11_ok, nmX11⟩
theorem fe_X11_81 : FE RX11 81 9 5 RX11 TX11 30 tyX11 := ⟨fl_X11_81, rfl, by decide, uw_X11, tyX11_ok, nmX11⟩
theorem fe_X11_19 : FE RX11 19 9 6 RX11 TX11 30 tyX11 := ⟨fl_X11_19, rfl, by decide, uw_X11, tyX11_ok, nmX11⟩
theorem fe_X11_189 : FE RX11 189 9 7 RX11 TX11 30 tyX11 := ⟨fl_X11_189, rfl, by decide, uw_X11, tyX11_ok, nmX11⟩
theorem fe_X11_22 : FE RX11 22 9 8 RX11 TX11 30 tyX11 := ⟨fl_X11_22, rfl, by decide, uw_X11, tyX11_ok, nmX11⟩
theorem fe_X11_25 : FE RX11 25 9 9 RX11 TX11 30 tyX11 := ⟨fl_X11_25, rfl, by decide, uw_X11, tyX11_ok, nmX11⟩
theorem fe_X11_28 : FE RX11 28 9 10 RX11 TX11 30 tyX11 := ⟨fl_X11_28, rfl, by decide, uw_X11, tyX11_ok, nmX11⟩
theorem fe_X11_153 : FE RX11 153 9 11 RX11 TX11 30 tyX11 := ⟨fl_X11_153, rfl, by decide, uw_X11, tyX11_ok, nmX11⟩
theorem fe_X11_31 : FE RX11 31 9 12 RX11 TX11 30 tyX11 := ⟨fl_X11_31, rfl, by decide, uw_X11, tyX11_ok, nmX11⟩
theorem fe_X11_34 : FE RX11 34 9 13 RX11 TX11 30 tyX11 := ⟨fl_X11_34, rfl, by decide, uw_X11, tyX11_ok, nmX11⟩
theorem fe_X11_37 : FE RX11 37 9 14 RX11 TX11 30 tyX11 := ⟨fl_X11_37, rfl, by decide, uw_X11, tyX11_ok, nmX11⟩
theorem fe_X11_40 : FE RX11 40 9 15 RX11 TX11 30 tyX11 := ⟨fl_X11_40, rfl, by decide, uw_X11, tyX11_ok, nmX11⟩
theorem fe_X11_107 : FE RX11 107 9 16 RX11 TX11 30 tyX11 := ⟨fl_X11_107, rfl, by decide, uw_X11, tyX11_ok, nmX11⟩
theorem fe_X11_185 : FE RX11 185 9 17 RX11 TX11 30 tyX11 := ⟨fl_X11_185, rfl, by decide, uw_X11, tyX11_ok, nmX11⟩
theorem fe_X11_113 : FE RX11 113 9 18 RX11 TX11 30 tyX11 := ⟨fl_X11_113, rfl, by decide, uw_X11, tyX11_ok, nmX11⟩
theorem fe_X11_116 : FE RX11 116 9 19 RX11 TX11 30 tyX11 := ⟨fl_X11_116, rfl, by decide, uw_X11, tyX11_ok, nmX11⟩
theorem fe_X11_125 : FE RX11 125 9 20 RX11 TX11 30 tyX11 := ⟨fl_X11_125, rfl, by decide, uw_X11, tyX11_ok, nmX11⟩
theorem fe_X11_122 : FE RX11 122 9 21 RX11 TX11 30 tyX11 := ⟨fl_X11_122, rfl, by decide, uw_X11, tyX11_ok, nmX11⟩
theorem fe_X11_134 : FE RX11 134 9 22 RX11 TX11 30 tyX11 := ⟨fl_X11_134, rfl, by decide, uw_X11, tyX11_ok, nmX11⟩
theorem fe_X11_137 : FE RX11 137 9 23 RX11 TX11 30 tyX11 := ⟨fl_X11_137, rfl, by decide, uw_X11, tyX11_ok, nmX11⟩
theorem fe_X11_140 : FE RX11 140 9 24 RX11 TX11 30 tyX11 := ⟨fl_X11_140, rfl, by decide, uw_X11, tyX11_ok, nmX11⟩
theorem fe_X11_198 : FE RX11 198 9 25 RX11 TX11 30 tyX11 := ⟨fl_X11_198, rfl, by decide, uw_X11, tyX11_ok, nmX11⟩
theorem fe_X11_43 : FE RX11 43 9 26 RX11 TX11 30 tyX11 := ⟨fl_X11_43, rfl, by decide, uw_X11, tyX11_ok, nmX11⟩
theorem fe_X11_46 : FE RX11 46 9 27 RX11 TX11 30 tyX11 := ⟨fl_X11_46, rfl, by decide, uw_X11, tyX11_ok, nmX11⟩
theorem fe_X11_49 : FE RX11 49 9 28 RX11 TX11 30 tyX11 := ⟨fl_X11_49, rfl, by decide, uw_X11, tyX11_ok, nmX11⟩
theorem fe_X11_215 : FE RX11 215 9 29 RX11 TX11 30 tyX11 := ⟨fl_X11_215, rfl, by decide, uw_X11, tyX11_ok, nmX11⟩
end
section
section WWsw
variable {p : Program} {l : Launch} {e : Env} {R : Room} {s : State} {m : MethodId} {args : Array Value} {below : List Frame} {meth : Method} {c : Code} {cells slots : Nat} {Q : State → Prop} {Γ : Gm} {A : Nat → Prop} {nL dd : Nat} {cc : ByteArray} {own : String} {ws : va_W} {pc : Nat} {lv : List (Option Value)} {st : List Value}
theorem ww_lk2 (C : Cx p R s m args meth c cc own nL Γ A dd) {x k1 k2 : Int32} {dflt a1 o1 a2 o2 : Int} {len : Nat} (t0 t1 t2 : Nat) (hd : decode cc pc = .ok (.lookupswitch dflt #[(a1, o1), (a2, o2)], len)) (hp : ((#[(a1, o1), (a2, o2)] : Array (Int × Int)).toList.zip ((#[(a1, o1), (a2, o2)] : Array (Int × Int)).toList.drop 1)).all (fun (a, next) => a.1 < next.1) = true) (e1 : k1.toInt = a1) (e2 : k2.toInt = a2) (h0 : (pc : Int) + dflt = (t0 : Int)) (h1 : (pc : Int) + o1 = (t1 : Int)) (h2 : (pc : Int) + o2 = (t2 : Int)) (K1 : x = k1 → WW p l e R s m args below meth c cells slots Q Γ A nL ws t1 lv st) (K2 : ¬ x = k1 → x = k2 → WW p l e R s m args below meth c cells slots Q Γ A nL ws t2 lv st) (K0 : ¬ x = k1 → ¬ x = k2 → WW p l e R s m args below meth c cells slots Q Γ A nL ws t0 lv st) : WW p l e R s m args below meth c cells slots Q Γ A nL ws pc lv (.int x :: st) := by
  intro H locs ls hP hD hS hl
  by_cases q1 : x = k1
  · refine lv_lookup (off := o1) C.1 C.2.1 hd hp (by show Op.lookupswitch.offset [(a1, o1), (a2, o2)] _ _ = _; rw [Op.lookupswitch.offset_cons, if_pos (by rw [q1, e1])]) h1 (K1 q1 H locs ls hP hD hS hl)
  by_cases q2 : x = k2
  · refine lv_lookup (off := o2) C.1 C.2.1 hd hp (by show Op.lookupswitch.offset [(a1, o1), (a2, o2)] _ _ = _; rw [lv_osw q1 e1]; rw [Op.lookupswitch.offset_cons, if_pos (by rw [q2, e2])]) h2 (K2 q1 q2 H locs ls hP hD hS hl)
  refine lv_lookup (off := dflt) C.1 C.2.1 hd hp (by show Op.lookupswitch.offset [(a1, o1), (a2, o2)] _ _ = _; rw [lv_osw q1 e1]; rw [lv_osw q2 e2]; rfl) h0 (K0 q1 q2 H locs ls hP hD hS hl)
theorem ww_lk4 (C : Cx p R s m args meth c cc own nL Γ A dd) {x k1 k2 k3 k4 : Int32} {dflt a1 o1 a2 o2 a3 o3 a4 o4 : Int} {len : Nat} (t0 t1 t2 t3 t4 : Nat) (hd : decode cc pc = .ok (.lookupswitch dflt #[(a1, o1), (a2, o2), (a3, o3), (a4, o4)], len)) (hp : ((#[(a1, o1), (a2, o2), (a3, o3), (a4, o4)] : Array (Int × Int)).toList.zip ((#[(a1, o1), (a2, o2), (a3, o3), (a4, o4)] : Array (Int × Int)).toList.drop 1)).all (fun (a, next) => a.1 < next.1) = true) (e1 : k1.toInt = a1) (e2 : k2.toInt = a2) (e3 : k3.toInt = a3) (e4 : k4.toInt = a4) (h0 : (pc : Int) + dflt = (t0 : Int)) (h1 : (pc : Int) + o1 = (t1 : Int)) (h2 : (pc : Int) + o2 = (t2 : Int)) (h3 : (pc : Int) + o3 = (t3 : Int)) (h4 : (pc : Int) + o4 = (t4 : Int)) (K1 : x = k1 → WW p l e R s m args below meth c cells slots Q Γ A nL ws t1 lv st) (K2 : ¬ x = k1 → x = k2 → WW p l e R s m args below meth c cells slots Q Γ A nL ws t2 lv st) (K3 : ¬ x = k1 → ¬ x = k2 → x = k3 → WW p l e R s m args below meth c cells slots Q Γ A nL ws t3 lv st) (K4 : ¬ x = k1 → ¬ x = k2 → ¬ x = k3 → x = k4 → WW p l e R s m args below meth c cells slots Q Γ A nL ws t4 lv st) (K0 : ¬ x = k1 → ¬ x = k2 → ¬ x = k3 → ¬ x = k4 → WW p l e R s m args below meth c cells slots Q Γ A nL ws t0 lv st) : WW p l e R s m args below meth c cells slots Q Γ A nL ws pc lv (.int x :: st) := by
  intro H locs ls hP hD hS hl
  by_cases q1 : x = k1
  · refine lv_lookup (off := o1) C.1 C.2.1 hd hp (by show Op.lookupswitch.offset [(a1, o1), (a2, o2), (a3, o3), (a4, o4)] _ _ = _; rw [Op.lookupswitch.offset_cons, if_pos (by rw [q1, e1])]) h1 (K1 q1 H locs ls hP hD hS hl)
  by_cases q2 : x = k2
  · refine lv_lookup (off := o2) C.1 C.2.1 hd hp (by show Op.lookupswitch.offset [(a1, o1), (a2, o2), (a3, o3), (a4, o4)] _ _ = _; rw [lv_osw q1 e1]; rw [Op.lookupswitch.offset_cons, if_pos (by rw [q2, e2])]) h2 (K2 q1 q2 H locs ls hP hD hS hl)
  by_cases q3 : x = k3
  · refine lv_lookup (off := o3) C.1 C.2.1 hd hp (by show Op.lookupswitch.offset [(a1, o1), (a2, o2), (a3, o3), (a4, o4)] _ _ = _; rw [lv_osw q1 e1]; rw [lv_osw q2 e2]; rw [Op.lookupswitch.offset_cons, if_pos (by rw [q3, e3])]) h3 (K3 q1 q2 q3 H locs ls hP hD hS hl)
  by_cases q4 : x = k4
  · refine lv_lookup (off := o4) C.1 C.2.1 hd hp (by show Op.lookupswitch.offset [(a1, o1), (a2, o2), (a3, o3), (a4, o4)] _ _ = _; rw [lv_osw q1 e1]; rw [lv_osw q2 e2]; rw [lv_osw q3 e3]; rw [Op.lookupswitch.offset_cons, if_pos (by rw [q4, e4])]) h4 (K4 q1 q2 q3 q4 H locs ls hP hD hS hl)
  refine lv_lookup (off := dflt) C.1 C.2.1 hd hp (by show Op.lookupswitch.offset [(a1, o1), (a2, o2), (a3, o3), (a4, o4)] _ _ = _; rw [lv_osw q1 e1]; rw [lv_osw q2 e2]; rw [lv_osw q3 e3]; rw [lv_osw q4 e4]; rfl) h0 (K0 q1 q2 q3 q4 H locs ls hP hD hS hl)
theorem ww_ts4 (C : Cx p R s m args meth c cc own nL Γ A dd) {x : Int32} {dflt o0 o1 o2 o3 : Int} {len : Nat} (td t0 t1 t2 t3 : Nat) (hd : decode cc pc = .ok (.tableswitch dflt 0 3 #[o0, o1, o2, o3], len)) (hdf : (pc : Int) + dflt = (td : Int)) (h0 : (pc : Int) + o0 = (t0 : Int)) (h1 : (pc : Int) + o1 = (t1 : Int)) (h2 : (pc : Int) + o2 = (t2 : Int)) (h3 : (pc : Int) + o3 = (t3 : Int)) (K0 : x = nI 0 → WW p l e R s m args below meth c cells slots Q Γ A nL ws t0 lv st) (K1 : x = nI 1 → WW p l e R s m args below meth c cells slots Q Γ A nL ws t1 lv st) (K2 : x = nI 2 → WW p l e R s m args below meth c cells slots Q Γ A nL ws t2 lv st) (K3 : x = nI 3 → WW p l e R s m args below meth c cells slots Q Γ A nL ws t3 lv st) (Kd : (x.toInt < 0 ∨ 3 < x.toInt) → WW p l e R s m args below meth c cells slots Q Γ A nL ws td lv st) : WW p l e R s m args below meth c cells slots Q Γ A nL ws pc lv (.int x :: st) := by
  intro H locs ls hP hD hS hl
  by_cases hq : x.toInt < 0 ∨ 3 < x.toInt
  · exact lv_tableOut C.1 C.2.1 hd hq hdf (Kd hq H locs ls hP hD hS hl)
  have g1 : ¬ x.toInt < 0 := fun z => hq (Or.inl z)
  have g2 : ¬ 3 < x.toInt := fun z => hq (Or.inr z)
  have key : ∀ j : Nat, j < 4 → x.toInt = (j : Int) → x = nI j := fun j hj e => Int32.toInt_inj.mp (by rw [e, nI_toInt (by omega)])
  have hc : x.toInt = 0 ∨ x.toInt = 1 ∨ x.toInt = 2 ∨ x.toInt = 3 := by omega
  rcases hc with z | z | z | z
  · exact lv_tableIn (off := o0) C.1 C.2.1 hd g1 g2 (by rw [z]; rfl) h0 (K0 (key 0 (by omega) z) H locs ls hP hD hS hl)
  · exact lv_tableIn (off := o1) C.1 C.2.1 hd g1 g2 (by rw [z]; rfl) h1 (K1 (key 1 (by omega) z) H locs ls hP hD hS hl)
  · exact lv_tableIn (off := o2) C.1 C.2.1 hd g1 g2 (by rw [z]; rfl) h2 (K2 (key 2 (by omega) z) H locs ls hP hD hS hl)
  · exact lv_tableIn (off := o3) C.1 C.2.1 hd g1 g2 (by rw [z]; rfl) h3 (K3 (key 3 (by omega) z) H locs ls hP hD hS hl)
theorem ww_ts5 (C : Cx p R s m args meth c cc own nL Γ A dd) {x : Int32} {dflt o0 o1 o2 o3 o4 : Int} {len : Nat} (td t0 t1 t2 t3 t4 : Nat) (hd : decode cc pc = .ok (.tableswitch dflt 0 4 #[o0, o1, o2, o3, o4], len)) (hdf : (pc : Int) + dflt = (td : Int)) (h0 : (pc : Int) + o0 = (t0 : Int)) (h1 : (pc : Int) + o1 = (t1 : Int)) (h2 : (pc : Int) + o2 = (t2 : Int)) (h3 : (pc : Int) + o3 = (t3 : Int)) (h4 : (pc : Int) + o4 = (t4 : Int)) (K0 : x = nI 0 → WW p l e R s m args below meth c cells slots Q Γ A nL ws t0 lv st) (K1 : x = nI 1 → WW p l e R s m args below meth c cells slots Q Γ A nL ws t1 lv st) (K2 : x = nI 2 → WW p l e R s m args below meth c cells slots Q Γ A nL ws t2 lv st) (K3 : x = nI 3 → WW p l e R s m args below meth c cells slots Q Γ A nL ws t3 lv st) (K4 : x = nI 4 → WW p l e R s m args below meth c cells slots Q Γ A nL ws t4 lv st) (Kd : (x.toInt < 0 ∨ 4 < x.toInt) → WW p l e R s m args below meth c cells slots Q Γ A nL ws td lv st) : WW p l e R s m args below meth c cells slots Q Γ A nL ws pc lv (.int x :: st) := by
  intro H locs ls hP hD hS hl
  by_cases hq : x.toInt < 0 ∨ 4 < x.toInt
  · exact lv_tableOut C.1 C.2.1 hd hq hdf (Kd hq H locs ls hP hD hS hl)
  have g1 : ¬ x.toInt < 0 := fun z => hq (Or.inl z)
  have g2 : ¬ 4 < x.toInt := fun z => hq (Or.inr z)
  have key : ∀ j : Nat, j < 5 → x.toInt = (j : Int) → x = nI j := fun j hj e => Int32.toInt_inj.mp (by rw [e, nI_toInt (by omega)])
  have hc : x.toInt = 0 ∨ x.toInt = 1 ∨ x.toInt = 2 ∨ x.toInt = 3 ∨ x.toInt = 4 := by omega
  rcases hc with z | z | z | z | z
  · exact lv_tableIn (off := o0) C.1 C.2.1 hd g1 g2 (by rw [z]; rfl) h0 (K0 (key 0 (by omega) z) H locs ls hP hD hS hl)
  · exact lv_tableIn (off := o1) C.1 C.2.1 hd g1 g2 (by rw [z]; rfl) h1 (K1 (key 1 (by omega) z) H locs ls hP hD hS hl)
  · exact lv_tableIn (off := o2) C.1 C.2.1 hd g1 g2 (by rw [z]; rfl) h2 (K2 (key 2 (by omega) z) H locs ls hP hD hS hl)
  · exact lv_tableIn (off := o3) C.1 C.2.1 hd g1 g2 (by rw [z]; rfl) h3 (K3 (key 3 (by omega) z) H locs ls hP hD hS hl)
  · exact lv_tableIn (off := o4) C.1 C.2.1 hd g1 g2 (by rw [z]; rfl) h4 (K4 (key 4 (by omega) z) H locs ls hP hD hS hl)
theorem ww_ts7 (C : Cx p R s m args meth c cc own nL Γ A dd) {x : Int32} {dflt o0 o1 o2 o3 o4 o5 o6 : Int} {len : Nat} (td t0 t1 t2 t3 t4 t5 t6 : Nat) (hd : decode cc pc = .ok (.tableswitch dflt 0 6 #[o0, o1, o2, o3, o4, o5, o6], len)) (hdf : (pc : Int) + dflt = (td : Int)) (h0 : (pc : Int) + o0 = (t0 : Int)) (h1 : (pc : Int) + o1 = (t1 : Int)) (h2 : (pc : Int) + o2 = (t2 : Int)) (h3 : (pc : Int) + o3 = (t3 : Int)) (h4 : (pc : Int) + o4 = (t4 : Int)) (h5 : (pc : Int) + o5 = (t5 : Int)) (h6 : (pc : Int) + o6 = (t6 : Int)) (K0 : x = nI 0 → WW p l e R s m args below meth c cells slots Q Γ A nL ws t0 lv st) (K1 : x = nI 1 → WW p l e R s m args below meth c cells slots Q Γ A nL ws t1 lv st) (K2 : x = nI 2 → WW p l e R s m args below meth c cells slots Q Γ A nL ws t2 lv st) (K3 : x = nI 3 → WW p l e R s m args below meth c cells slots Q Γ A nL ws t3 lv st) (K4 : x = nI 4 → WW p l e R s m args below meth c cells slots Q Γ A nL ws t4 lv st) (K5 : x = nI 5 → WW p l e R s m args below meth c cells slots Q Γ A nL ws t5 lv st) (K6 : x = nI 6 → WW p l e R s m args below meth c cells slots Q Γ A nL ws t6 lv st) (Kd : (x.toInt < 0 ∨ 6 < x.toInt) → WW p l e R s m args below meth c cells slots Q Γ A nL ws td lv st) : WW p l e R s m args below meth c cells slots Q Γ A nL ws pc lv (.int x :: st) := by
  intro H locs ls hP hD hS hl
  by_cases hq : x.toInt < 0 ∨ 6 < x.toInt
  · exact lv_tableOut C.1 C.2.1 hd hq hdf (Kd hq H locs ls hP hD hS hl)
  have g1 : ¬ x.toInt < 0 := fun z => hq (Or.inl z)
  have g2 : ¬ 6 < x.toInt := fun z => hq (Or.inr z)
  have key : ∀ j : Nat, j < 7 → x.toInt = (j : Int) → x = nI j := fun j hj e => Int32.toInt_inj.mp (by rw [e, nI_toInt (by omega)])
  have hc : x.toInt = 0 ∨ x.toInt = 1 ∨ x.toInt = 2 ∨ x.toInt = 3 ∨ x.toInt = 4 ∨ x.toInt = 5 ∨ x.toInt = 6 := by omega
  rcases hc with z | z | z | z | z | z | z
  · exact lv_tableIn (off := o0) C.1 C.2.1 hd g1 g2 (by rw [z]; rfl) h0 (K0 (key 0 (by omega) z) H locs ls hP hD hS hl)
  · exact lv_tableIn (off := o1) C.1 C.2.1 hd g1 g2 (by rw [z]; rfl) h1 (K1 (key 1 (by omega) z) H locs ls hP hD hS hl)
  · exact lv_tableIn (off := o2) C.1 C.2.1 hd g1 g2 (by rw [z]; rfl) h2 (K2 (key 2 (by omega) z) H locs ls hP hD hS hl)
  · exact lv_tableIn (off := o3) C.1 C.2.1 hd g1 g2 (by rw [z]; rfl) h3 (K3 (key 3 (by omega) z) H locs ls hP hD hS hl)
  · exact lv_tableIn (off := o4) C.1 C.2.1 hd g1 g2 (by rw [z]; rfl) h4 (K4 (key 4 (by omega) z) H locs ls hP hD hS hl)
  · exact lv_tableIn (off := o5) C.1 C.2.1 hd g1 g2 (by rw [z]; rfl) h5 (K5 (key 5 (by omega) z) H locs ls hP hD hS hl)
  · exact lv_tableIn (off := o6) C.1 C.2.1 hd g1 g2 (by rw [z]; rfl) h6 (K6 (key 6 (by omega) z) H locs ls hP hD hS hl)
theorem ww_ts25 (C : Cx p R s m args meth c cc own nL Γ A dd) {x : Int32} {dflt o0 o1 o2 o3 o4 o5 o6 o7 o8 o9 o10 o11 o12 o13 o14 o15 o16 o17 o18 o19 o20 o21 o22 o23 o24 : Int} {len : Nat} (td t0 t1 t2 t3 t4 t5 t6 t7 t8 t9 t10 t11 t12 t13 t14 t15 t16 t17 t18 t19 t20 t21 t22 t23 t24 : Nat) (hd : decode cc pc = .ok (.tableswitch dflt 0 24 #[o0, o1, o2, o3, o4, o5, o6, o7, o8, o9, o10, o11, o12, o13, o14, o15, o16, o17, o18, o19, o20, o21, o22, o23, o24], len)) (hdf : (pc : Int) + dflt = (td : Int)) (h0 : (pc : Int) + o0 = (t0 : Int)) (h1 : (pc : Int) + o1 = (t1 : Int)) (h2 : (pc : Int) + o2 = (t2 : Int)) (h3 : (pc : Int) + o3 = (t3 : Int)) (h4 : (pc : Int) + o4 = (t4 : Int)) (h5 : (pc : Int) + o5 = (t5 : Int)) (h6 : (pc : Int) + o6 = (t6 : Int)) (h7 : (pc : Int) + o7 = (t7 : Int)) (h8 : (pc : Int) + o8 = (t8 : Int)) (h9 : (pc : Int) + o9 = (t9 : Int)) (h10 : (pc : Int) + o10 = (t10 : Int)) (h11 : (pc : Int) + o11 = (t11 : Int)) (h12 : (pc : Int) + o12 = (t12 : Int)) (h13 : (pc : Int) + o13 = (t13 : Int)) (h14 : (pc : Int) + o14 = (t14 : Int)) (h15 : (pc : Int) + o15 = (t15 : Int)) (h16 : (pc : Int) + o16 = (t16 : Int)) (h17 : (pc : Int) + o17 = (t17 : Int)) (h18 : (pc : Int) + o18 = (t18 : Int)) (h19 : (pc : Int) + o19 = (t19 : Int)) (h20 : (pc : Int) + o20 = (t20 : Int)) (h21 : (pc : Int) + o21 = (t21 : Int)) (h22 : (pc : Int) + o22 = (t22 : Int)) (h23 : (pc : Int) + o23 = (t23 : Int)) (h24 : (pc : Int) + o24 = (t24 : Int)) (K0 : x = nI 0 → WW p l e R s m args below meth c cells slots Q Γ A nL ws t0 lv st) (K1 : x = nI 1 → WW p l e R s m args below meth c cells slots Q Γ A nL ws t1 lv st) (K2 : x = nI 2 → WW p l e R s m args below meth c cells slots Q Γ A nL ws t2 lv st) (K3 : x = nI 3 → WW p l e R s m args below meth c cells slots Q Γ A nL ws t3 lv st) (K4 : x = nI 4 → WW p l e R s m args below meth c cells slots Q Γ A nL ws t4 lv st) (K5 : x = nI 5 → WW p l e R s m args below meth c cells slots Q Γ A nL ws t5 lv st) (K6 : x = nI 6 → WW p l e R s m args below meth c cells slots Q Γ A nL ws t6 lv st) (K7 : x = nI 7 → WW p l e R s m args below meth c cells slots Q Γ A nL ws t7 lv st) (K8 : x = nI 8 → WW p l e R s m args below meth c cells slots Q Γ A nL ws t8 lv st) (K9 : x = nI 9 → WW p l e R s m args below meth c cells slots Q Γ A nL ws t9 lv st) (K10 : x = nI 10 → WW p l e R s m args below meth c cells slots Q Γ A nL ws t10 lv st) (K11 : x = nI 11 → WW p l e R s m args below meth c cells slots Q Γ A nL ws t11 lv st) (K12 : x = nI 12 → WW p l e R s m args below meth c cells slots Q Γ A nL ws t12 lv st) (K13 : x = nI 13 → WW p l e R s m args below meth c cells slots Q Γ A nL ws t13 lv st) (K14 : x = nI 14 → WW p l e R s m args below meth c cells slots Q Γ A nL ws t14 lv st) (K15 : x = nI 15 → WW p l e R s m args below meth c cells slots Q Γ A nL ws t15 lv st) (K16 : x = nI 16 → WW p l e R s m args below meth c cells slots Q Γ A nL ws t16 lv st) (K17 : x = nI 17 → WW p l e R s m args below meth c cells slots Q Γ A nL ws t17 lv st) (K18 : x = nI 18 → WW p l e R s m args below meth c cells slots Q Γ A nL ws t18 lv st) (K19 : x = nI 19 → WW p l e R s m args below meth c cells slots Q Γ A nL ws t19 lv st) (K20 : x = nI 20 → WW p l e R s m args below meth c cells slots Q Γ A nL ws t20 lv st) (K21 : x = nI 21 → WW p l e R s m args below meth c cells slots Q Γ A nL ws t21 lv st) (K22 : x = nI 22 → WW p l e R s m args below meth c cells slots Q Γ A nL ws t22 lv st) (K23 : x = nI 23 → WW p l e R s m args below meth c cells slots Q Γ A nL ws t23 lv st) (K24 : x = nI 24 → WW p l e R s m args below meth c cells slots Q Γ A nL ws t24 lv st) (Kd : (x.toInt < 0 ∨ 24 < x.toInt) → WW p l e R s m args below meth c cells slots Q Γ A nL ws td lv st) : WW p l e R s m args below meth c cells slots Q Γ A nL ws pc lv (.int x :: st) := by
  intro H locs ls hP hD hS hl
  by_cases hq : x.toInt < 0 ∨ 24 < x.toInt
  · exact lv_tableOut C.1 C.2.1 hd hq hdf (Kd hq H locs ls hP hD hS hl)
  have g1 : ¬ x.toInt < 0 := fun z => hq (Or.inl z)
  have g2 : ¬ 24 < x.toInt := fun z => hq (Or.inr z)
  have key : ∀ j : Nat, j < 25 → x.toInt = (j : Int) → x = nI j := fun j hj e => Int32.toInt_inj.mp (by rw [e, nI_toInt (by omega)])
  have hc : x.toInt = 0 ∨ x.toInt = 1 ∨ x.toInt = 2 ∨ x.toInt = 3 ∨ x.toInt = 4 ∨ x.toInt = 5 ∨ x.toInt = 6 ∨ x.toInt = 7 ∨ x.toInt = 8 ∨ x.toInt = 9 ∨ x.toInt = 10 ∨ x.toInt = 11 ∨ x.toInt = 12 ∨ x.toInt = 13 ∨ x.toInt = 14 ∨ x.toInt = 15 ∨ x.toInt = 16 ∨ x.toInt = 17 ∨ x.toInt = 18 ∨ x.toInt = 19 ∨ x.toInt = 20 ∨ x.toInt = 21 ∨ x.toInt = 22 ∨ x.toInt = 23 ∨ x.toInt = 24 := by omega
  rcases hc with z | z | z | z | z | z | z | z | z | z | z | z | z | z | z | z | z | z | z | z | z | z | z | z | z
  · exact lv_tableIn (off := o0) C.1 C.2.1 hd g1 g2 (by rw [z]; rfl) h0 (K0 (key 0 (by omega) z) H locs ls hP hD hS hl)
  · exact lv_tableIn (off := o1) C.1 C.2.1 hd g1 g2 (by rw [z]; rfl) h1 (K1 (key 1 (by omega) z) H locs ls hP hD hS hl)
  · exact lv_tableIn (off := o2) C.1 C.2.1 hd g1 g2 (by rw [z]; rfl) h2 (K2 (key 2 (by omega) z) H locs ls hP hD hS hl)
  · exact lv_tableIn (off := o3) C.1 C.2.1 hd g1 g2 (by rw [z]; rfl) h3 (K3 (key 3 (by omega) z) H locs ls hP hD hS hl)
  · exact lv_tableIn (off := o4) C.1 C.2.1 hd g1 g2 (by rw [z]; rfl) h4 (K4 (key 4 (by omega) z) H locs ls hP hD hS hl)
  · exact lv_tableIn (off := o5) C.1 C.2.1 hd g1 g2 (by rw [z]; rfl) h5 (K5 (key 5 (by omega) z) H locs ls hP hD hS hl)
  · exact lv_tableIn (off := o6) C.1 C.2.1 hd g1 g2 (by rw [z]; rfl) h6 (K6 (key 6 (by omega) z) H locs ls hP hD hS hl)
  · exact lv_tableIn (off := o7) C.1 C.2.1 hd g1 g2 (by rw [z]; rfl) h7 (K7 (key 7 (by omega) z) H locs ls hP hD hS hl)
  · exact lv_tableIn (off := o8) C.1 C.2.1 hd g1 g2 (by rw [z]; rfl) h8 (K8 (key 8 (by omega) z) H locs ls hP hD hS hl)
  · exact lv_tableIn (off := o9) C.1 C.2.1 hd g1 g2 (by rw [z]; rfl) h9 (K9 (key 9 (by omega) z) H locs ls hP hD hS hl)
  · exact lv_tableIn (off := o10) C.1 C.2.1 hd g1 g2 (by rw [z]; rfl) h10 (K10 (key 10 (by omega) z) H locs ls hP hD hS hl)
  · exact lv_tableIn (off := o11) C.1 C.2.1 hd g1 g2 (by rw [z]; rfl) h11 (K11 (key 11 (by omega) z) H locs ls hP hD hS hl)
  · exact lv_tableIn (off := o12) C.1 C.2.1 hd g1 g2 (by rw [z]; rfl) h12 (K12 (key 12 (by omega) z) H locs ls hP hD hS hl)
  · exact lv_tableIn (off := o13) C.1 C.2.1 hd g1 g2 (by rw [z]; rfl) h13 (K13 (key 13 (by omega) z) H locs ls hP hD hS hl)
  · exact lv_tableIn (off := o14) C.1 C.2.1 hd g1 g2 (by rw [z]; rfl) h14 (K14 (key 14 (by omega) z) H locs ls hP hD hS hl)
  · exact lv_tableIn (off := o15) C.1 C.2.1 hd g1 g2 (by rw [z]; rfl) h15 (K15 (key 15 (by omega) z) H locs ls hP hD hS hl)
  · exact lv_tableIn (off := o16) C.1 C.2.1 hd g1 g2 (by rw [z]; rfl) h16 (K16 (key 16 (by omega) z) H locs ls hP hD hS hl)
  · exact lv_tableIn (off := o17) C.1 C.2.1 hd g1 g2 (by rw [z]; rfl) h17 (K17 (key 17 (by omega) z) H locs ls hP hD hS hl)
  · exact lv_tableIn (off := o18) C.1 C.2.1 hd g1 g2 (by rw [z]; rfl) h18 (K18 (key 18 (by omega) z) H locs ls hP hD hS hl)
  · exact lv_tableIn (off := o19) C.1 C.2.1 hd g1 g2 (by rw [z]; rfl) h19 (K19 (key 19 (by omega) z) H locs ls hP hD hS hl)
  · exact lv_tableIn (off := o20) C.1 C.2.1 hd g1 g2 (by rw [z]; rfl) h20 (K20 (key 20 (by omega) z) H locs ls hP hD hS hl)
  · exact lv_tableIn (off := o21) C.1 C.2.1 hd g1 g2 (by rw [z]; rfl) h21 (K21 (key 21 (by omega) z) H locs ls hP hD hS hl)
  · exact lv_tableIn (off := o22) C.1 C.2.1 hd g1 g2 (by rw [z]; rfl) h22 (K22 (key 22 (by omega) z) H locs ls hP hD hS hl)
  · exact lv_tableIn (off := o23) C.1 C.2.1 hd g1 g2 (by rw [z]; rfl) h23 (K23 (key 23 (by omega) z) H locs ls hP hD hS hl)
  · exact lv_tableIn (off := o24) C.1 C.2.1 hd g1 g2 (by rw [z]; rfl) h24 (K24 (key 24 (by omega) z) H locs ls hP hD hS hl)
end WWsw
end
section
theorem ep_sub (a b : Int32) : a - (b + 1) = a - b + (-1) := by
  simp only [← Int32.toBitVec_inj, Int32.toBitVec_sub, Int32.toBitVec_add]
  rw [show (-1 : Int32).toBitVec = -(1 : Int32).toBitVec from rfl]
  generalize a.toBitVec = x
  generalize b.toBitVec = y
  generalize (1 : Int32).toBitVec = z
  rw [BitVec.sub_eq_add_neg, BitVec.sub_eq_add_neg, BitVec.neg_add, BitVec.sub_eq_add_neg, BitVec.add_assoc]
/-- a truth as an int -/
def bI (p : Prop) [Decidable p] : Int32 := if p then 1 else 0
theorem bI_1 {p : Prop} [Decidable p] (h : p) : bI p = 1 := if_pos h
theorem bI_0 {p : Prop} [Decidable p] (h : ¬ p) : bI p = 0 := if_neg h
theorem bI_e0 {p : Prop} [Decidable p] (h : bI p = 0) : ¬ p := fun q => by rw [bI_1 q] at h; exact absurd h (by decide)
theorem bI_n0 {p : Prop} [Decidable p] (h : ¬ bI p = 0) : p := Decidable.byContradiction fun q => h (bI_0 q)
theorem bI_z {p : Prop} [Decidable p] : narrow .boolean (.int (bI p)) = .int (bI p) := by
  by_cases h : p
  · rw [bI_1 h]; rfl
  · rw [bI_0 h]; rfl
theorem ltN {k n : Nat} (h : ¬ (nI n ≤ nI k)) (hn : n < 2 ^ 31) (hk : k < 2 ^ 31) : k < n := Nat.lt_of_not_le fun q => h ((nI_leI hn hk).mpr q)
theorem eqN {k n : Nat} (h : nI n ≤ nI k) (hk : k ≤ n) (hn : n < 2 ^ 31) : k = n := Nat.le_antisymm hk ((nI_leI hn (Nat.lt_of_le_of_lt hk hn)).mp h)
def s_bc32 (x : Int32) : Int32 :=
  let x1 := x - (iushrI x 1 &&& 1431655765)
  let x2 := (x1 &&& 858993459) + (iushrI x1 2 &&& 858993459)
  let x3 := (x2 + iushrI x2 4) &&& 252645135
  let x4 := x3 + iushrI x3 8
  let x5 := x4 + iushrI x4 16
  x5 &&& 63
def s_bc64 (x : Int64) : Int32 :=
  let x1 := x - (lushrI x 1 &&& 6148914691236517205)
  let x2 := (x1 &&& 3689348814741910323) + (lushrI x1 2 &&& 3689348814741910323)
  let x3 := (x2 + lushrI x2 4) &&& 1085102592571150095
  let x4 := x3 + lushrI x3 8
  let x5 := x4 + lushrI x4 16
  let x6 := x5 + lushrI x5 32
  x6.toInt32 &&& 127
theorem c_J6_bitCount_0f7a4 (l : Launch) (Γ : Gm) {x : Int32}  : Ct l Γ yJ6_bitCount_0f7a4 cJ6_bitCount_0f7a4 1 (some .int) 0 [.int x] [] (some (.int (s_bc32 x))) [] := by
  refine Ct.of mi_J6_bitCount_0f7a4 [some (.int x)] 0 rfl (Nat.le_of_ble_eq_true rfl) ?_
  intro p e s m args below meth c C hr
  refine ww_iload_n (i := 0) C dJ6_bitCount_0f7a4_0 rfl rfl 1 rfl ?_
  refine ww_iload_n (i := 0) C dJ6_bitCount_0f7a4_1 rfl rfl 2 rfl ?_
  refine ww_iconst (v := 1) C dJ6_bitCount_0f7a4_2 (by decide) 3 rfl ?_
  refine ww_iushr C dJ6_bitCount_0f7a4_3 4 rfl ?_
  refine ww_ldcw C cn_J6_265 dJ6_bitCount_0f7a4_4 7 rfl ?_
  refine ww_iand C dJ6_bitCount_0f7a4_7 8 rfl ?_
  refine ww_isub C dJ6_bitCount_0f7a4_8 9 rfl ?_
  refine ww_istore_n (i := 0) C dJ6_bitCount_0f7a4_9 rfl (by decide) rfl 10 rfl ?_
  refine ww_iload_n (i := 0) C dJ6_bitCount_0f7a4_10 rfl rfl 11 rfl ?_
  refine ww_ldcw C cn_J6_266 dJ6_bitCount_0f7a4_11 14 rfl ?_
  refine ww_iand C dJ6_bitCount_0f7a4_14 15 rfl ?_
  refine ww_iload_n (i := 0) C dJ6_bitCount_0f7a4_15 rfl rfl 16 rfl ?_
  refine ww_iconst (v := 2) C dJ6_bitCount_0f7a4_16 (by decide) 17 rfl ?_
  refine ww_iushr C dJ6_bitCount_0f7a4_17 18 rfl ?_
  refine ww_ldcw C cn_J6_266 dJ6_bitCount_0f7a4_18 21 rfl ?_
  refine ww_iand C dJ6_bitCount_0f7a4_21 22 rfl ?_
  refine ww_iadd C dJ6_bitCount_0f7a4_22 23 rfl ?_
  refine ww_istore_n (i := 0) C dJ6_bitCount_0f7a4_23 rfl (by decide) rfl 24 rfl ?_
  refine ww_iload_n (i := 0) C dJ6_bitCount_0f7a4_24 rfl rfl 25 rfl ?_
  refine ww_iload_n (i := 0) C dJ6_bitCount_0f7a4_25 rfl rfl 26 rfl ?_
  refine ww_iconst (v := 4) C dJ6_bitCount_0f7a4_26 (by decide) 27 rfl ?_
  refine ww_iushr C dJ6_bitCount_0f7a4_27 28 rfl ?_
  refine ww_iadd C dJ6_bitCount_0f7a4_28 29 rfl ?_
  refine ww_ldcw C cn_J6_267 dJ6_bitCount_0f7a4_29 32 rfl ?_
  refine ww_iand C dJ6_bitCount_0f7a4_32 33 rfl ?_
  refine ww_istore_n (i := 0) C dJ6_bitCount_0f7a4_33 rfl (by decide) rfl 34 rfl ?_
  refine ww_iload_n (i := 0) C dJ6_bitCount_0f7a4_34 rfl rfl 35 rfl ?_
  refine ww_iload_n (i := 0) C dJ6_bitCount_0f7a4_35 rfl rfl 36 rfl ?_
  refine ww_bipush (v := 8) C dJ6_bitCount_0f7a4_36 (by decide) 38 rfl ?_
  refine ww_iushr C dJ6_bitCount_0f7a4_38 39 rfl ?_
  refine ww_iadd C dJ6_bitCount_0f7a4_39 40 rfl ?_
  refine ww_istore_n (i := 0) C dJ6_bitCount_0f7a4_40 rfl (by decide) rfl 41 rfl ?_
  refine ww_iload_n (i := 0) C dJ6_bitCount_0f7a4_41 rfl rfl 42 rfl ?_
  refine ww_iload_n (i := 0) C dJ6_bitCount_0f7a4_42 rfl rfl 43 rfl ?_
  refine ww_bipush (v := 16) C dJ6_bitCount_0f7a4_43 (by decide) 45 rfl ?_
  refine ww_iushr C dJ6_bitCount_0f7a4_45 46 rfl ?_
  refine ww_iadd C dJ6_bitCount_0f7a4_46 47 rfl ?_
  refine ww_istore_n (i := 0) C dJ6_bitCount_0f7a4_47 rfl (by decide) rfl 48 rfl ?_
  refine ww_iload_n (i := 0) C dJ6_bitCount_0f7a4_48 rfl rfl 49 rfl ?_
  refine ww_bipush (v := 63) C dJ6_bitCount_0f7a4_49 (by decide) 51 rfl ?_
  refine ww_iand C dJ6_bitCount_0f7a4_51 52 rfl ?_
  exact ww_iret C hr dJ6_bitCount_0f7a4_52 rfl rfl
theorem c_J13_bitCount_95d88 (l : Launch) (Γ : Gm) {x : Int64}  : Ct l Γ yJ13_bitCount_95d88 cJ13_bitCount_95d88 2 (some .int) 0 [.long x] [] (some (.int (s_bc64 x))) [] := by
  refine Ct.of mi_J13_bitCount_95d88 [some (.long x), none] 0 rfl (Nat.le_of_ble_eq_true rfl) ?_
  intro p e s m args below meth c C hr
  refine ww_lload_n (i := 0) C dJ13_bitCount_95d88_0 rfl rfl 1 rfl ?_
  refine ww_lload_n (i := 0) C dJ13_bitCount_95d88_1 rfl rfl 2 rfl ?_
  refine ww_iconst (v := 1) C dJ13_bitCount_95d88_2 (by decide) 3 rfl ?_
  refine ww_lushr C dJ13_bitCount_95d88_3 4 rfl ?_
  refine ww_ldc2 C cn_J13_314 dJ13_bitCount_95d88_4 7 rfl ?_
  refine ww_land C dJ13_bitCount_95d88_7 8 rfl ?_
  refine ww_lsub C dJ13_bitCount_95d88_8 9 rfl ?_
  refine ww_lstore_n (i := 0) C dJ13_bitCount_95d88_9 rfl (by decide) rfl 10 rfl ?_
  refine ww_lload_n (i := 0) C dJ13_bitCount_95d88_10 rfl rfl 11 rfl ?_
  refine ww_ldc2 C cn_J13_316 dJ13_bitCount_95d88_11 14 rfl ?_
  refine ww_land C dJ13_bitCount_95d88_14 15 rfl ?_
  refine ww_lload_n (i := 0) C dJ13_bitCount_95d88_15 rfl rfl 16 rfl ?_
  refine ww_iconst (v := 2) C dJ13_bitCount_95d88_16 (by decide) 17 rfl ?_
  refine ww_lushr C dJ13_bitCount_95d88_17 18 rfl ?_
  refine ww_ldc2 C cn_J13_316 dJ13_bitCount_95d88_18 21 rfl ?_
  refine ww_land C dJ13_bitCount_95d88_21 22 rfl ?_
  refine ww_ladd C dJ13_bitCount_95d88_22 23 rfl ?_
  refine ww_lstore_n (i := 0) C dJ13_bitCount_95d88_23 rfl (by decide) rfl 24 rfl ?_
  refine ww_lload_n (i := 0) C dJ13_bitCount_95d88_24 rfl rfl 25 rfl ?_
  refine ww_lload_n (i := 0) C dJ13_bitCount_95d88_25 rfl rfl 26 rfl ?_
  refine ww_iconst (v := 4) C dJ13_bitCount_95d88_26 (by decide) 27 rfl ?_
  refine ww_lushr C dJ13_bitCount_95d88_27 28 rfl ?_
  refine ww_ladd C dJ13_bitCount_95d88_28 29 rfl ?_
  refine ww_ldc2 C cn_J13_318 dJ13_bitCount_95d88_29 32 rfl ?_
  refine ww_land C dJ13_bitCount_95d88_32 33 rfl ?_
  refine ww_lstore_n (i := 0) C dJ13_bitCount_95d88_33 rfl (by decide) rfl 34 rfl ?_
  refine ww_lload_n (i := 0) C dJ13_bitCount_95d88_34 rfl rfl 35 rfl ?_
  refine ww_lload_n (i := 0) C dJ13_bitCount_95d88_35 rfl rfl 36 rfl ?_
  refine ww_bipush (v := 8) C dJ13_bitCount_95d88_36 (by decide) 38 rfl ?_
  refine ww_lushr C dJ13_bitCount_95d88_38 39 rfl ?_
  refine ww_ladd C dJ13_bitCount_95d88_39 40 rfl ?_
  refine ww_lstore_n (i := 0) C dJ13_bitCount_95d88_40 rfl (by decide) rfl 41 rfl ?_
  refine ww_lload_n (i := 0) C dJ13_bitCount_95d88_41 rfl rfl 42 rfl ?_
  refine ww_lload_n (i := 0) C dJ13_bitCount_95d88_42 rfl rfl 43 rfl ?_
  refine ww_bipush (v := 16) C dJ13_bitCount_95d88_43 (by decide) 45 rfl ?_
  refine ww_lushr C dJ13_bitCount_95d88_45 46 rfl ?_
  refine ww_ladd C dJ13_bitCount_95d88_46 47 rfl ?_
  refine ww_lstore_n (i := 0) C dJ13_bitCount_95d88_47 rfl (by decide) rfl 48 rfl ?_
  refine ww_lload_n (i := 0) C dJ13_bitCount_95d88_48 rfl rfl 49 rfl ?_
  refine ww_lload_n (i := 0) C dJ13_bitCount_95d88_49 rfl rfl 50 rfl ?_
  refine ww_bipush (v := 32) C dJ13_bitCount_95d88_50 (by decide) 52 rfl ?_
  refine ww_lushr C dJ13_bitCount_95d88_52 53 rfl ?_
  refine ww_ladd C dJ13_bitCount_95d88_53 54 rfl ?_
  refine ww_lstore_n (i := 0) C dJ13_bitCount_95d88_54 rfl (by decide) rfl 55 rfl ?_
  refine ww_lload_n (i := 0) C dJ13_bitCount_95d88_55 rfl rfl 56 rfl ?_
  refine ww_l2i C dJ13_bitCount_95d88_56 57 rfl ?_
  refine ww_bipush (v := 127) C dJ13_bitCount_95d88_57 (by decide) 59 rfl ?_
  refine ww_iand C dJ13_bitCount_95d88_59 60 rfl ?_
  exact ww_iret C hr dJ13_bitCount_95d88_60 rfl rfl
def s_row (f r : Int32) : Int32 := (f >>> (r &&& 31)) &&& 1
def s_told (f : Int32) : Int32 := if s_bc32 f - s_bc32 f / 2 * 2 = 0 then (if s_row f 0 = s_row f 3 ∧ s_row f 1 = s_row f 2 then 2 else 1) else 3
def s_isk (f k : Int32) : Int32 := if k = 0 then 1 else if k = s_told f then 1 else if k = 1 then (if s_told f = 2 then 1 else 0) else 0
theorem c_X3_isFigure (l : Launch) (Γ : Gm) {x : Int32}  : Ct l Γ yX3_isFigure cX3_isFigure 1 (some .boolean) 0 [.int x] [] (some (.int (bI (¬ x < 0 ∧ ¬ 15 < x)))) [] := by
  refine Ct.of mi_X3_isFigure [some (.int x)] 0 rfl (Nat.le_of_ble_eq_true rfl) ?_
  intro p e s m args below meth c C hr
  refine ww_iload_n (i := 0) C dX3_isFigure_0 rfl rfl 1 rfl ?_
  refine ww_if_lt C 14 dX3_isFigure_1 (by decide) 4 rfl (fun h_1 => ?_) (fun h_1 => ?_)
  · skip
    refine ww_iconst (v := 0) C dX3_isFigure_14 (by decide) 15 rfl ?_
    exact ww_zret C hr rfl dX3_isFigure_15 (by simp [bI, *]) rfl
  · skip
    refine ww_iload_n (i := 0) C dX3_isFigure_4 rfl rfl 5 rfl ?_
    refine ww_bipush (v := 15) C dX3_isFigure_5 (by decide) 7 rfl ?_
    refine ww_icmp_gt C 14 dX3_isFigure_7 (by decide) 10 rfl (fun h_7 => ?_) (fun h_7 => ?_)
    · skip
      refine ww_iconst (v := 0) C dX3_isFigure_14 (by decide) 15 rfl ?_
      exact ww_zret C hr rfl dX3_isFigure_15 (by simp [bI, *]) rfl
    · skip
      refine ww_iconst (v := 1) C dX3_isFigure_10 (by decide) 11 rfl ?_
      refine ww_goto C 15 dX3_isFigure_11 (by decide) ?_
      exact ww_zret C hr rfl dX3_isFigure_15 (by simp [bI, *]) rfl
theorem c_X3_dots (l : Launch) (Γ : Gm) {f : Int32}  : Ct l Γ yX3_dots cX3_dots 1 (some .int) 1 [.int f] [] (some (.int (8 - s_bc32 f))) [] := by
  refine Ct.of mi_X3_dots [some (.int f)] 0 rfl (Nat.le_of_ble_eq_true rfl) ?_
  intro p e s m args below meth c C hr
  refine ww_bipush (v := 8) C dX3_dots_0 (by decide) 2 rfl ?_
  refine ww_iload_n (i := 0) C dX3_dots_2 rfl rfl 3 rfl ?_
  refine ww_callS1p C (c_J6_bitCount_0f7a4 l Γ) mi_J6_bitCount_0f7a4 st_J6_bitCount_0f7a4 ml_X3_9 dX3_dots_3 (Nat.le_of_ble_eq_true rfl) (Nat.le_of_ble_eq_true rfl) (Nat.le_of_ble_eq_true rfl) ⟨Nat.zero_le _, Nat.zero_le _⟩ [] rfl (by decide) 6 rfl ?_
  refine ww_isub C dX3_dots_6 7 rfl ?_
  exact ww_iret C hr dX3_dots_7 rfl rfl
theorem c_X3_isEven (l : Launch) (Γ : Gm) {f : Int32}  : Ct l Γ yX3_isEven cX3_isEven 1 (some .boolean) 1 [.int f] [] (some (.int (bI (s_bc32 f - s_bc32 f / 2 * 2 = 0)))) [] := by
  refine Ct.of mi_X3_isEven [some (.int f)] 0 rfl (Nat.le_of_ble_eq_true rfl) ?_
  intro p e s m args below meth c C hr
  refine ww_iload_n (i := 0) C dX3_isEven_0 rfl rfl 1 rfl ?_
  refine ww_callS1p C (c_J6_bitCount_0f7a4 l Γ) mi_J6_bitCount_0f7a4 st_J6_bitCount_0f7a4 ml_X3_9 dX3_isEven_1 (Nat.le_of_ble_eq_true rfl) (Nat.le_of_ble_eq_true rfl) (Nat.le_of_ble_eq_true rfl) ⟨Nat.zero_le _, Nat.zero_le _⟩ [] rfl (by decide) 4 rfl ?_
  refine ww_iconst (v := 2) C dX3_isEven_4 (by decide) 5 rfl ?_
  refine ww_irem C dX3_isEven_5 (by decide) 6 rfl ?_
  refine ww_if_ne C 13 dX3_isEven_6 (by decide) 9 rfl (fun h_6 => ?_) (fun h_6 => ?_)
  · skip
    refine ww_iconst (v := 0) C dX3_isEven_13 (by decide) 14 rfl ?_
    exact ww_zret C hr rfl dX3_isEven_14 (by simp [bI, *]) rfl
  · skip
    refine ww_iconst (v := 1) C dX3_isEven_9 (by decide) 10 rfl ?_
    refine ww_goto C 14 dX3_isEven_10 (by decide) ?_
    exact ww_zret C hr rfl dX3_isEven_14 (by simp [bI, *]) rfl
theorem c_X3_row (l : Launch) (Γ : Gm) {f r : Int32}  : Ct l Γ yX3_row cX3_row 2 (some .int) 0 [.int f, .int r] [] (some (.int (s_row f r))) [] := by
  refine Ct.of mi_X3_row [some (.int f), some (.int r)] 0 rfl (Nat.le_of_ble_eq_true rfl) ?_
  intro p e s m args below meth c C hr
  refine ww_iload_n (i := 0) C dX3_row_0 rfl rfl 1 rfl ?_
  refine ww_iload_n (i := 1) C dX3_row_1 rfl rfl 2 rfl ?_
  refine ww_ishr C dX3_row_2 3 rfl ?_
  refine ww_iconst (v := 1) C dX3_row_3 (by decide) 4 rfl ?_
  refine ww_iand C dX3_row_4 5 rfl ?_
  exact ww_iret C hr dX3_row_5 rfl rfl
theorem c_X3_toldKind (l : Launch) (Γ : Gm) {f : Int32}  : Ct l Γ yX3_toldKind cX3_toldKind 1 (some .int) 2 [.int f] [] (some (.int (s_told f))) [] := by
  refine Ct.of mi_X3_toldKind [some (.int f)] 0 rfl (Nat.le_of_ble_eq_true rfl) ?_
  intro p e s m args below meth c C hr
  refine ww_iload_n (i := 0) C dX3_toldKind_0 rfl rfl 1 rfl ?_
  refine ww_callS1p C (c_X3_isEven l Γ) mi_X3_isEven st_X3_isEven ml_X3_15 dX3_toldKind_1 (Nat.le_of_ble_eq_true rfl) (Nat.le_of_ble_eq_true rfl) (Nat.le_of_ble_eq_true rfl) ⟨Nat.zero_le _, Nat.zero_le _⟩ [] rfl (by decide) 4 rfl ?_
  refine ww_if_ne C 9 dX3_toldKind_4 (by decide) 7 rfl (fun h_4 => ?_) (fun h_4 => ?_)
  · skip
    refine ww_iload_n (i := 0) C dX3_toldKind_9 rfl rfl 10 rfl ?_
    refine ww_iconst (v := 0) C dX3_toldKind_10 (by decide) 11 rfl ?_
    refine ww_callS2p C (c_X3_row l Γ) mi_X3_row st_X3_row ml_X3_19 dX3_toldKind_11 (Nat.le_of_ble_eq_true rfl) (Nat.le_of_ble_eq_true rfl) (Nat.le_of_ble_eq_true rfl) ⟨Nat.zero_le _, Nat.zero_le _⟩ [] rfl (by decide) 14 rfl ?_
    refine ww_iload_n (i := 0) C dX3_toldKind_14 rfl rfl 15 rfl ?_
    refine ww_iconst (v := 3) C dX3_toldKind_15 (by decide) 16 rfl ?_
    refine ww_callS2p C (c_X3_row l Γ) mi_X3_row st_X3_row ml_X3_19 dX3_toldKind_16 (Nat.le_of_ble_eq_true rfl) (Nat.le_of_ble_eq_true rfl) (Nat.le_of_ble_eq_true rfl) ⟨Nat.zero_le _, Nat.zero_le _⟩ [] rfl (by decide) 19 rfl ?_
    refine ww_icmp_ne C 39 dX3_toldKind_19 (by decide) 22 rfl (fun h_19 => ?_) (fun h_19 => ?_)
    · skip
      refine ww_iconst (v := 1) C dX3_toldKind_39 (by decide) 40 rfl ?_
      exact ww_iret C hr dX3_toldKind_40 (by simp [s_told, bI_n0 h_4, *]) rfl
    · skip
      refine ww_iload_n (i := 0) C dX3_toldKind_22 rfl rfl 23 rfl ?_
      refine ww_iconst (v := 1) C dX3_toldKind_23 (by decide) 24 rfl ?_
      refine ww_callS2p C (c_X3_row l Γ) mi_X3_row st_X3_row ml_X3_19 dX3_toldKind_24 (Nat.le_of_ble_eq_true rfl) (Nat.le_of_ble_eq_true rfl) (Nat.le_of_ble_eq_true rfl) ⟨Nat.zero_le _, Nat.zero_le _⟩ [] rfl (by decide) 27 rfl ?_
      refine ww_iload_n (i := 0) C dX3_toldKind_27 rfl rfl 28 rfl ?_
      refine ww_iconst (v := 2) C dX3_toldKind_28 (by decide) 29 rfl ?_
      refine ww_callS2p C (c_X3_row l Γ) mi_X3_row st_X3_row ml_X3_19 dX3_toldKind_29 (Nat.le_of_ble_eq_true rfl) (Nat.le_of_ble_eq_true rfl) (Nat.le_of_ble_eq_true rfl) ⟨Nat.zero_le _, Nat.zero_le _⟩ [] rfl (by decide) 32 rfl ?_
      refine ww_icmp_ne C 39 dX3_toldKind_32 (by decide) 35 rfl (fun h_32 => ?_) (fun h_32 => ?_)
      · skip
        refine ww_iconst (v := 1) C dX3_toldKind_39 (by decide) 40 rfl ?_
        exact ww_iret C hr dX3_toldKind_40 (by simp [s_told, bI_n0 h_4, *]) rfl
      · skip
        refine ww_iconst (v := 2) C dX3_toldKind_35 (by decide) 36 rfl ?_
        refine ww_goto C 40 dX3_toldKind_36 (by decide) ?_
        exact ww_iret C hr dX3_toldKind_40 (by simp [s_told, bI_n0 h_4, *]) rfl
  · skip
    refine ww_iconst (v := 3) C dX3_toldKind_7 (by decide) 8 rfl ?_
    exact ww_iret C hr dX3_toldKind_8 (by rw [s_told, if_neg (bI_e0 h_4)]) rfl
theorem c_X3_isOfKind (l : Launch) (Γ : Gm) {f k : Int32}  : Ct l Γ yX3_isOfKind cX3_isOfKind 3 (some .boolean) 3 [.int f, .int k] [] (some (.int (s_isk f k))) [] := by
  refine Ct.of mi_X3_isOfKind [some (.int f), some (.int k), none] 1 rfl (Nat.le_of_ble_eq_true rfl) ?_
  intro p e s m args below meth c C hr
  refine ww_iload_n (i := 0) C dX3_isOfKind_0 rfl rfl 1 rfl ?_
  refine ww_callS1p C (c_X3_toldKind l Γ) mi_X3_toldKind st_X3_toldKind ml_X3_23 dX3_isOfKind_1 (Nat.le_of_ble_eq_true rfl) (Nat.le_of_ble_eq_true rfl) (Nat.le_of_ble_eq_true rfl) ⟨Nat.zero_le _, Nat.zero_le _⟩ [] rfl (by decide) 4 rfl ?_
  refine ww_istore_n (i := 2) C dX3_isOfKind_4 rfl (by decide) rfl 5 rfl ?_
  refine ww_iload_n (i := 1) C dX3_isOfKind_5 rfl rfl 6 rfl ?_
  refine ww_if_eq C 24 dX3_isOfKind_6 (by decide) 9 rfl (fun h_6 => ?_) (fun h_6 => ?_)
  · skip
    refine ww_iconst (v := 1) C dX3_isOfKind_24 (by decide) 25 rfl ?_
    refine ww_goto C 29 dX3_isOfKind_25 (by decide) ?_
    exact ww_zret C hr rfl dX3_isOfKind_29 (by first | rw [s_isk, if_pos h_6] | rw [s_isk, if_neg h_6, if_pos h_11] | rw [s_isk, if_neg h_6, if_neg h_11, if_neg h_16] | rw [s_isk, if_neg h_6, if_neg h_11, if_pos h_16, if_pos h_21] | rw [s_isk, if_neg h_6, if_neg h_11, if_pos h_16, if_neg h_21]) rfl
  · skip
    refine ww_iload_n (i := 1) C dX3_isOfKind_9 rfl rfl 10 rfl ?_
    refine ww_iload_n (i := 2) C dX3_isOfKind_10 rfl rfl 11 rfl ?_
    refine ww_icmp_eq C 24 dX3_isOfKind_11 (by decide) 14 rfl (fun h_11 => ?_) (fun h_11 => ?_)
    · skip
      refine ww_iconst (v := 1) C dX3_isOfKind_24 (by decide) 25 rfl ?_
      refine ww_goto C 29 dX3_isOfKind_25 (by decide) ?_
      exact ww_zret C hr rfl dX3_isOfKind_29 (by first | rw [s_isk, if_pos h_6] | rw [s_isk, if_neg h_6, if_pos h_11] | rw [s_isk, if_neg h_6, if_neg h_11, if_neg h_16] | rw [s_isk, if_neg h_6, if_neg h_11, if_pos h_16, if_pos h_21] | rw [s_isk, if_neg h_6, if_neg h_11, if_pos h_16, if_neg h_21]) rfl
    · skip
      refine ww_iload_n (i := 1) C dX3_isOfKind_14 rfl rfl 15 rfl ?_
      refine ww_iconst (v := 1) C dX3_isOfKind_15 (by decide) 16 rfl ?_
      refine ww_icmp_ne C 28 dX3_isOfKind_16 (by decide) 19 rfl (fun h_16 => ?_) (fun h_16 => ?_)
      · skip
        refine ww_iconst (v := 0) C dX3_isOfKind_28 (by decide) 29 rfl ?_
        exact ww_zret C hr rfl dX3_isOfKind_29 (by first | rw [s_isk, if_pos h_6] | rw [s_isk, if_neg h_6, if_pos h_11] | rw [s_isk, if_neg h_6, if_neg h_11, if_neg h_16] | rw [s_isk, if_neg h_6, if_neg h_11, if_pos h_16, if_pos h_21] | rw [s_isk, if_neg h_6, if_neg h_11, if_pos h_16, if_neg h_21]) rfl
      · skip
        refine ww_iload_n (i := 2) C dX3_isOfKind_19 rfl rfl 20 rfl ?_
        refine ww_iconst (v := 2) C dX3_isOfKind_20 (by decide) 21 rfl ?_
        refine ww_icmp_ne C 28 dX3_isOfKind_21 (by decide) 24 rfl (fun h_21 => ?_) (fun h_21 => ?_)
        · skip
          refine ww_iconst (v := 0) C dX3_isOfKind_28 (by decide) 29 rfl ?_
          exact ww_zret C hr rfl dX3_isOfKind_29 (by first | rw [s_isk, if_pos h_6] | rw [s_isk, if_neg h_6, if_pos h_11] | rw [s_isk, if_neg h_6, if_neg h_11, if_neg h_16] | rw [s_isk, if_neg h_6, if_neg h_11, if_pos h_16, if_pos h_21] | rw [s_isk, if_neg h_6, if_neg h_11, if_pos h_16, if_neg h_21]) rfl
        · skip
          refine ww_iconst (v := 1) C dX3_isOfKind_24 (by decide) 25 rfl ?_
          refine ww_goto C 29 dX3_isOfKind_25 (by decide) ?_
          exact ww_zret C hr rfl dX3_isOfKind_29 (by first | rw [s_isk, if_pos h_6] | rw [s_isk, if_neg h_6, if_pos h_11] | rw [s_isk, if_neg h_6, if_neg h_11, if_neg h_16] | rw [s_isk, if_neg h_6, if_neg h_11, if_pos h_16, if_pos h_21] | rw [s_isk, if_neg h_6, if_neg h_11, if_pos h_16, if_neg h_21]) rfl
def s_fa (ch : Int64) (p : Int32) : Int32 := (lushrI ch (4 * p)).toInt32 &&& 15
def s_wf (ch : Int64) (p f : Int32) : Int64 := ch ||| (f.toInt64 <<< ((4 * p).toInt64 &&& 63))
def s_daug (code d : Int32) : Nat → Int32
  | 0 => 0
  | k + 1 => s_daug code d k ||| (((code >>> ((4 * nI k + d) &&& 31)) &&& 1) <<< (nI k &&& 31))
def s_ofc1 (code : Int32) : Nat → Int64
  | 0 => (code &&& 65535).toInt64
  | k + 1 => s_wf (s_ofc1 code k) (4 + nI k) (s_daug code (nI k) 4)
def s_ofc2 (code : Int32) : Nat → Int64
  | 0 => s_ofc1 code 4
  | k + 1 => s_wf (s_ofc2 code k) (nI (8 + k)) (s_fa (s_ofc2 code k) (2 * (nI (8 + k) - 8)) ^^^ s_fa (s_ofc2 code k) (2 * (nI (8 + k) - 8) + 1))
def s_ofc (code : Int32) : Int64 := s_wf (s_ofc2 code 7) 15 (s_fa (s_ofc2 code 7) 14 ^^^ s_fa (s_ofc2 code 7) 0)
/-- how many of n places from a on have the figure -/
def s_seen (ch : Int64) (f : Int32) (a : Nat) : Nat → Int32
  | 0 => 0
  | k + 1 => if s_fa ch (nI (a + k)) = f then s_seen ch f a k + 1 else s_seen ch f a k
def s_wu1 (ch : Int64) (p : Int32) (b : Nat) : Nat → Int32
  | 0 => 0
  | j + 1 => if (s_fa ch (nI (b + j)) ^^^ s_fa ch p) &&& 1 = 0 then s_wu1 ch p b j ||| ((1 : Int32) <<< (nI (b + j) &&& 31)) else s_wu1 ch p b j
def s_wu (ch : Int64) (k : Nat) : Int32 := if k < 8 then 0 else s_wu1 ch (nI k) (2 * (k - 8)) 2
/-- THE POINT, places 14 down to 15 - k: met, and ends -/
def s_ep (ch : Int64) : Nat → Int32 × Int32
  | 0 => (16384, 0)
  | k + 1 => if ((s_ep ch k).1 >>> (nI (14 - k) &&& 31)) &&& 1 = 0 then s_ep ch k else ((s_ep ch k).1 ||| s_wu ch (14 - k), if s_wu ch (14 - k) = 0 then (s_ep ch k).2 ||| ((1 : Int32) <<< (nI (14 - k) &&& 31)) else (s_ep ch k).2)
theorem c_X2_figureAt (l : Launch) (Γ : Gm) {ch : Int64} {p0 : Int32}  : Ct l Γ yX2_figureAt cX2_figureAt 3 (some .int) 0 [.long ch, .int p0] [] (some (.int (s_fa ch p0))) [] := by
  refine Ct.of mi_X2_figureAt [some (.long ch), none, some (.int p0)] 0 rfl (Nat.le_of_ble_eq_true rfl) ?_
  intro p e s m args below meth c C hr
  refine ww_lload_n (i := 0) C dX2_figureAt_0 rfl rfl 1 rfl ?_
  refine ww_iconst (v := 4) C dX2_figureAt_1 (by decide) 2 rfl ?_
  refine ww_iload_n (i := 2) C dX2_figureAt_2 rfl rfl 3 rfl ?_
  refine ww_imul C dX2_figureAt_3 4 rfl ?_
  refine ww_lushr C dX2_figureAt_4 5 rfl ?_
  refine ww_l2i C dX2_figureAt_5 6 rfl ?_
  refine ww_bipush (v := 15) C dX2_figureAt_6 (by decide) 8 rfl ?_
  refine ww_iand C dX2_figureAt_8 9 rfl ?_
  exact ww_iret C hr dX2_figureAt_9 rfl rfl
theorem c_X2_withFigure (l : Launch) (Γ : Gm) {ch : Int64} {p0 f : Int32}  : Ct l Γ yX2_withFigure cX2_withFigure 4 (some .long) 0 [.long ch, .int p0, .int f] [] (some (.long (s_wf ch p0 f))) [] := by
  refine Ct.of mi_X2_withFigure [some (.long ch), none, some (.int p0), some (.int f)] 0 rfl (Nat.le_of_ble_eq_true rfl) ?_
  intro p e s m args below meth c C hr
  refine ww_lload_n (i := 0) C dX2_withFigure_0 rfl rfl 1 rfl ?_
  refine ww_iload_n (i := 3) C dX2_withFigure_1 rfl rfl 2 rfl ?_
  refine ww_i2l C dX2_withFigure_2 3 rfl ?_
  refine ww_iconst (v := 4) C dX2_withFigure_3 (by decide) 4 rfl ?_
  refine ww_iload_n (i := 2) C dX2_withFigure_4 rfl rfl 5 rfl ?_
  refine ww_imul C dX2_withFigure_5 6 rfl ?_
  refine ww_lshl C dX2_withFigure_6 7 rfl ?_
  refine ww_lor C dX2_withFigure_7 8 rfl ?_
  exact ww_lret C hr dX2_withFigure_8 rfl rfl
theorem c_X2_firstAbove (l : Launch) (Γ : Gm) {p0 : Int32}  : Ct l Γ yX2_firstAbove cX2_firstAbove 1 (some .int) 0 [.int p0] [] (some (.int (2 * (p0 - 8)))) [] := by
  refine Ct.of mi_X2_firstAbove [some (.int p0)] 0 rfl (Nat.le_of_ble_eq_true rfl) ?_
  intro p e s m args below meth c C hr
  refine ww_iconst (v := 2) C dX2_firstAbove_0 (by decide) 1 rfl ?_
  refine ww_iload_n (i := 0) C dX2_firstAbove_1 rfl rfl 2 rfl ?_
  refine ww_bipush (v := 8) C dX2_firstAbove_2 (by decide) 4 rfl ?_
  refine ww_isub C dX2_firstAbove_4 5 rfl ?_
  refine ww_imul C dX2_firstAbove_5 6 rfl ?_
  exact ww_iret C hr dX2_firstAbove_6 rfl rfl
theorem c_X2_daughterOf (l : Launch) (Γ : Gm) {code d : Int32}  : Ct l Γ yX2_daughterOf cX2_daughterOf 4 (some .int) 0 [.int code, .int d] [] (some (.int (s_daug code d 4))) [] := by
  refine Ct.of mi_X2_daughterOf [some (.int code), some (.int d), none, none] 2 rfl (Nat.le_of_ble_eq_true rfl) ?_
  intro p e s m args below meth c C hr
  refine ww_iconst (v := 0) C dX2_daughterOf_0 (by decide) 1 rfl ?_
  refine ww_istore_n (i := 2) C dX2_daughterOf_1 rfl (by decide) rfl 2 rfl ?_
  refine ww_iconst (v := 0) C dX2_daughterOf_2 (by decide) 3 rfl ?_
  refine ww_istore_n (i := 3) C dX2_daughterOf_3 rfl (by decide) rfl 4 rfl ?_
  refine ww_loop (fun k : Nat => 4 - k) (fun k => k ≤ 4) (fun _ => []) (fun k => [some (.int code), some (.int d), some (.int (s_daug code d k)), some (.int (nI k))]) (0 : Nat) (by decide) rfl rfl (fun k hk ih => ?_)
  try dsimp only at hk ih ⊢
  refine ww_iload_n (i := 3) C dX2_daughterOf_4 rfl rfl 5 rfl ?_
  refine ww_iconst (v := 4) C dX2_daughterOf_5 (by decide) 6 rfl ?_
  refine ww_icmp_ge C 29 dX2_daughterOf_6 (by decide) 9 rfl (fun h_6 => ?_) (fun h_6 => ?_)
  · skip
    obtain rfl : k = 4 := eqN (n := 4) h_6 hk (by decide)
    refine ww_iload_n (i := 2) C dX2_daughterOf_29 rfl rfl 30 rfl ?_
    exact ww_iret C hr dX2_daughterOf_30 rfl rfl
  · skip
    have hlt : k < 4 := ltN (n := 4) h_6 (by decide) (by omega)
    refine ww_iload_n (i := 2) C dX2_daughterOf_9 rfl rfl 10 rfl ?_
    refine ww_iload_n (i := 0) C dX2_daughterOf_10 rfl rfl 11 rfl ?_
    refine ww_iconst (v := 4) C dX2_daughterOf_11 (by decide) 12 rfl ?_
    refine ww_iload_n (i := 3) C dX2_daughterOf_12 rfl rfl 13 rfl ?_
    refine ww_imul C dX2_daughterOf_13 14 rfl ?_
    refine ww_iload_n (i := 1) C dX2_daughterOf_14 rfl rfl 15 rfl ?_
    refine ww_iadd C dX2_daughterOf_15 16 rfl ?_
    refine ww_ishr C dX2_daughterOf_16 17 rfl ?_
    refine ww_iconst (v := 1) C dX2_daughterOf_17 (by decide) 18 rfl ?_
    refine ww_iand C dX2_daughterOf_18 19 rfl ?_
    refine ww_iload_n (i := 3) C dX2_daughterOf_19 rfl rfl 20 rfl ?_
    refine ww_ishl C dX2_daughterOf_20 21 rfl ?_
    refine ww_ior C dX2_daughterOf_21 22 rfl ?_
    refine ww_istore_n (i := 2) C dX2_daughterOf_22 rfl (by decide) rfl 23 rfl ?_
    refine ww_iinc (y := 1) C dX2_daughterOf_23 rfl (by decide) (by decide) rfl 26 rfl ?_
    refine ww_goto C 4 dX2_daughterOf_26 (by decide) ?_
    exact ww_eq rfl (by rw [nI_succ]; rfl) rfl (ih (k + 1) (by omega) (by omega))
theorem c_X2_ofCode (l : Launch) (Γ : Gm) {code : Int32}  : Ct l Γ yX2_ofCode cX2_ofCode 5 (some .long) 1 [.int code] [] (some (.long (s_ofc code))) [] := by
  refine Ct.of mi_X2_ofCode [some (.int code), none, none, none, none] 4 rfl (Nat.le_of_ble_eq_true rfl) ?_
  intro p e s m args below meth c C hr
  refine ww_iload_n (i := 0) C dX2_ofCode_0 rfl rfl 1 rfl ?_
  refine ww_ldc C cn_X2_9 dX2_ofCode_1 3 rfl ?_
  refine ww_iand C dX2_ofCode_3 4 rfl ?_
  refine ww_i2l C dX2_ofCode_4 5 rfl ?_
  refine ww_lstore_n (i := 1) C dX2_ofCode_5 rfl (by decide) rfl 6 rfl ?_
  refine ww_iconst (v := 0) C dX2_ofCode_6 (by decide) 7 rfl ?_
  refine ww_istore_n (i := 3) C dX2_ofCode_7 rfl (by decide) rfl 8 rfl ?_
  refine ww_loop (fun k : Nat => 4 - k) (fun k => k ≤ 4) (fun _ => []) (fun k => [some (.int code), some (.long (s_ofc1 code k)), none, some (.int (nI k)), none]) (0 : Nat) (by decide) rfl rfl (fun k hk ih => ?_)
  try dsimp only at hk ih ⊢
  refine ww_iload_n (i := 3) C dX2_ofCode_8 rfl rfl 9 rfl ?_
  refine ww_iconst (v := 4) C dX2_ofCode_9 (by decide) 10 rfl ?_
  refine ww_icmp_ge C 32 dX2_ofCode_10 (by decide) 13 rfl (fun h_10 => ?_) (fun h_10 => ?_)
  · skip
    obtain rfl : k = 4 := eqN (n := 4) h_10 hk (by decide)
    refine ww_bipush (v := 8) C dX2_ofCode_32 (by decide) 34 rfl ?_
    refine ww_istore_n (i := 3) C dX2_ofCode_34 rfl (by decide) rfl 35 rfl ?_
    refine ww_lv (lv' := [some (.int code), some (.long (s_ofc1 code 4)), none, some (.int 8), none]) (lvle_same (lvle_same (lvle_same (lvle_same (lvle_none lvle_nil))))) ?_
    refine ww_loop (fun k : Nat => 7 - k) (fun k => k ≤ 7) (fun _ => []) (fun k => [some (.int code), some (.long (s_ofc2 code k)), none, some (.int (nI (8 + k))), none]) (0 : Nat) (by decide) rfl rfl (fun k hk ih => ?_)
    try dsimp only at hk ih ⊢
    refine ww_iload_n (i := 3) C dX2_ofCode_35 rfl rfl 36 rfl ?_
    refine ww_bipush (v := 14) C dX2_ofCode_36 (by decide) 38 rfl ?_
    refine ww_icmp_gt C 74 dX2_ofCode_38 (by decide) 41 rfl (fun h_38 => ?_) (fun h_38 => ?_)
    · skip
      obtain rfl : k = 7 := by have := (nI_ltI (a := 14) (by decide) (by omega)).mp h_38; omega
      refine ww_lload_n (i := 1) C dX2_ofCode_74 rfl rfl 75 rfl ?_
      refine ww_bipush (v := 15) C dX2_ofCode_75 (by decide) 77 rfl ?_
      refine ww_lload_n (i := 1) C dX2_ofCode_77 rfl rfl 78 rfl ?_
      refine ww_bipush (v := 14) C dX2_ofCode_78 (by decide) 80 rfl ?_
      refine ww_callS2p C (c_X2_figureAt l Γ) mi_X2_figureAt st_X2_figureAt ml_X2_24 dX2_ofCode_80 (Nat.le_of_ble_eq_true rfl) (Nat.le_of_ble_eq_true rfl) (Nat.le_of_ble_eq_true rfl) ⟨Nat.zero_le _, Nat.zero_le _⟩ [] rfl (by decide) 83 rfl ?_
      refine ww_lload_n (i := 1) C dX2_ofCode_83 rfl rfl 84 rfl ?_
      refine ww_iconst (v := 0) C dX2_ofCode_84 (by decide) 85 rfl ?_
      refine ww_callS2p C (c_X2_figureAt l Γ) mi_X2_figureAt st_X2_figureAt ml_X2_24 dX2_ofCode_85 (Nat.le_of_ble_eq_true rfl) (Nat.le_of_ble_eq_true rfl) (Nat.le_of_ble_eq_true rfl) ⟨Nat.zero_le _, Nat.zero_le _⟩ [] rfl (by decide) 88 rfl ?_
      refine ww_ixor C dX2_ofCode_88 89 rfl ?_
      refine ww_callS3p C (c_X2_withFigure l Γ) mi_X2_withFigure st_X2_withFigure ml_X2_16 dX2_ofCode_89 (Nat.le_of_ble_eq_true rfl) (Nat.le_of_ble_eq_true rfl) (Nat.le_of_ble_eq_true rfl) ⟨Nat.zero_le _, Nat.zero_le _⟩ [] rfl (by decide) 92 rfl ?_
      exact ww_lret C hr dX2_ofCode_92 rfl rfl
    · skip
      have hlt : k < 7 := Nat.lt_of_not_le fun q => h_38 ((nI_ltI (a := 14) (by decide) (by omega)).mpr (by omega))
      refine ww_iload_n (i := 3) C dX2_ofCode_41 rfl rfl 42 rfl ?_
      refine ww_callS1p C (c_X2_firstAbove l Γ) mi_X2_firstAbove st_X2_firstAbove ml_X2_20 dX2_ofCode_42 (Nat.le_of_ble_eq_true rfl) (Nat.le_of_ble_eq_true rfl) (Nat.le_of_ble_eq_true rfl) ⟨Nat.zero_le _, Nat.zero_le _⟩ [] rfl (by decide) 45 rfl ?_
      refine ww_istore C dX2_ofCode_45 (by decide) rfl 47 rfl ?_
      refine ww_lload_n (i := 1) C dX2_ofCode_47 rfl rfl 48 rfl ?_
      refine ww_iload_n (i := 3) C dX2_ofCode_48 rfl rfl 49 rfl ?_
      refine ww_lload_n (i := 1) C dX2_ofCode_49 rfl rfl 50 rfl ?_
      refine ww_iload C dX2_ofCode_50 rfl 52 rfl ?_
      refine ww_callS2p C (c_X2_figureAt l Γ) mi_X2_figureAt st_X2_figureAt ml_X2_24 dX2_ofCode_52 (Nat.le_of_ble_eq_true rfl) (Nat.le_of_ble_eq_true rfl) (Nat.le_of_ble_eq_true rfl) ⟨Nat.zero_le _, Nat.zero_le _⟩ [] rfl (by decide) 55 rfl ?_
      refine ww_lload_n (i := 1) C dX2_ofCode_55 rfl rfl 56 rfl ?_
      refine ww_iload C dX2_ofCode_56 rfl 58 rfl ?_
      refine ww_iconst (v := 1) C dX2_ofCode_58 (by decide) 59 rfl ?_
      refine ww_iadd C dX2_ofCode_59 60 rfl ?_
      refine ww_callS2p C (c_X2_figureAt l Γ) mi_X2_figureAt st_X2_figureAt ml_X2_24 dX2_ofCode_60 (Nat.le_of_ble_eq_true rfl) (Nat.le_of_ble_eq_true rfl) (Nat.le_of_ble_eq_true rfl) ⟨Nat.zero_le _, Nat.zero_le _⟩ [] rfl (by decide) 63 rfl ?_
      refine ww_ixor C dX2_ofCode_63 64 rfl ?_
      refine ww_callS3p C (c_X2_withFigure l Γ) mi_X2_withFigure st_X2_withFigure ml_X2_16 dX2_ofCode_64 (Nat.le_of_ble_eq_true rfl) (Nat.le_of_ble_eq_true rfl) (Nat.le_of_ble_eq_true rfl) ⟨Nat.zero_le _, Nat.zero_le _⟩ [] rfl (by decide) 67 rfl ?_
      refine ww_lstore_n (i := 1) C dX2_ofCode_67 rfl (by decide) rfl 68 rfl ?_
      refine ww_iinc (y := 1) C dX2_ofCode_68 rfl (by decide) (by decide) rfl 71 rfl ?_
      refine ww_goto C 35 dX2_ofCode_71 (by decide) ?_
      refine ww_lv (lv' := [some (.int code), some (.long (s_ofc2 code (k + 1))), none, some (.int (nI (8 + (k + 1)))), none]) ?_ (ih (k + 1) (by omega) (by omega))
      rw [show 8 + (k + 1) = 8 + k + 1 from rfl, nI_succ]
      exact (lvle_same (lvle_same (lvle_same (lvle_same (lvle_none lvle_nil)))))
  · skip
    have hlt : k < 4 := ltN (n := 4) h_10 (by decide) (by omega)
    refine ww_lload_n (i := 1) C dX2_ofCode_13 rfl rfl 14 rfl ?_
    refine ww_iconst (v := 4) C dX2_ofCode_14 (by decide) 15 rfl ?_
    refine ww_iload_n (i := 3) C dX2_ofCode_15 rfl rfl 16 rfl ?_
    refine ww_iadd C dX2_ofCode_16 17 rfl ?_
    refine ww_iload_n (i := 0) C dX2_ofCode_17 rfl rfl 18 rfl ?_
    refine ww_iload_n (i := 3) C dX2_ofCode_18 rfl rfl 19 rfl ?_
    refine ww_callS2p C (c_X2_daughterOf l Γ) mi_X2_daughterOf st_X2_daughterOf ml_X2_12 dX2_ofCode_19 (Nat.le_of_ble_eq_true rfl) (Nat.le_of_ble_eq_true rfl) (Nat.le_of_ble_eq_true rfl) ⟨Nat.zero_le _, Nat.zero_le _⟩ [] rfl (by decide) 22 rfl ?_
    refine ww_callS3p C (c_X2_withFigure l Γ) mi_X2_withFigure st_X2_withFigure ml_X2_16 dX2_ofCode_22 (Nat.le_of_ble_eq_true rfl) (Nat.le_of_ble_eq_true rfl) (Nat.le_of_ble_eq_true rfl) ⟨Nat.zero_le _, Nat.zero_le _⟩ [] rfl (by decide) 25 rfl ?_
    refine ww_lstore_n (i := 1) C dX2_ofCode_25 rfl (by decide) rfl 26 rfl ?_
    refine ww_iinc (y := 1) C dX2_ofCode_26 rfl (by decide) (by decide) rfl 29 rfl ?_
    refine ww_goto C 8 dX2_ofCode_29 (by decide) ?_
    exact ww_eq rfl (by rw [nI_succ]; rfl) rfl (ih (k + 1) (by omega) (by omega))
theorem c_X2_timesSeen (l : Launch) (Γ : Gm) {ch : Int64} {f : Int32} {a n : Nat} {b : Nat} (hb : b + 1 = a + n) (hn : b < 1000) : Ct l Γ yX2_timesSeen cX2_timesSeen 7 (some .int) 1 [.long ch, .int f, .int (nI a), .int (nI b)] [] (some (.int (s_seen ch f a n))) [] := by
  refine Ct.of mi_X2_timesSeen [some (.long ch), none, some (.int f), some (.int (nI a)), some (.int (nI b)), none, none] 2 rfl (Nat.le_of_ble_eq_true rfl) ?_
  intro p e s m args below meth c C hr
  refine ww_iconst (v := 0) C dX2_timesSeen_0 (by decide) 1 rfl ?_
  refine ww_istore C dX2_timesSeen_1 (by decide) rfl 3 rfl ?_
  refine ww_iload_n (i := 3) C dX2_timesSeen_3 rfl rfl 4 rfl ?_
  refine ww_istore C dX2_timesSeen_4 (by decide) rfl 6 rfl ?_
  refine ww_loop (fun k : Nat => n - k) (fun k => k ≤ n) (fun _ => []) (fun k => [some (.long ch), none, some (.int f), some (.int (nI a)), some (.int (nI b)), some (.int (s_seen ch f a k)), some (.int (nI (a + k)))]) (0 : Nat) (by omega) rfl rfl (fun k hk ih => ?_)
  try dsimp only at hk ih ⊢
  refine ww_iload C dX2_timesSeen_6 rfl 8 rfl ?_
  refine ww_iload C dX2_timesSeen_8 rfl 10 rfl ?_
  refine ww_icmp_gt C 32 dX2_timesSeen_10 (by decide) 13 rfl (fun h_10 => ?_) (fun h_10 => ?_)
  · skip
    obtain rfl : k = n := by have := (nI_ltI (by omega) (by omega)).mp h_10; omega
    refine ww_iload C dX2_timesSeen_32 rfl 34 rfl ?_
    exact ww_iret C hr dX2_timesSeen_34 rfl rfl
  · skip
    have hlt : k < n := Nat.lt_of_not_le fun q => h_10 ((nI_ltI (by omega) (by omega)).mpr (by omega))
    refine ww_lload_n (i := 0) C dX2_timesSeen_13 rfl rfl 14 rfl ?_
    refine ww_iload C dX2_timesSeen_14 rfl 16 rfl ?_
    refine ww_callS2p C (c_X2_figureAt l Γ) mi_X2_figureAt st_X2_figureAt ml_X2_24 dX2_timesSeen_16 (Nat.le_of_ble_eq_true rfl) (Nat.le_of_ble_eq_true rfl) (Nat.le_of_ble_eq_true rfl) ⟨Nat.zero_le _, Nat.zero_le _⟩ [] rfl (by decide) 19 rfl ?_
    refine ww_iload_n (i := 2) C dX2_timesSeen_19 rfl rfl 20 rfl ?_
    refine ww_icmp_ne C 26 dX2_timesSeen_20 (by decide) 23 rfl (fun h_20 => ?_) (fun h_20 => ?_)
    · skip
      refine ww_iinc (y := 1) C dX2_timesSeen_26 rfl (by decide) (by decide) rfl 29 rfl ?_
      refine ww_goto C 6 dX2_timesSeen_29 (by decide) ?_
      exact ww_eq rfl (by rw [show a + (k + 1) = a + k + 1 from rfl, nI_succ, s_seen]; simp [h_20]) rfl (ih (k + 1) (by omega) (by omega))
    · skip
      refine ww_iinc (y := 1) C dX2_timesSeen_23 rfl (by decide) (by decide) rfl 26 rfl ?_
      refine ww_iinc (y := 1) C dX2_timesSeen_26 rfl (by decide) (by decide) rfl 29 rfl ?_
      refine ww_goto C 6 dX2_timesSeen_29 (by decide) ?_
      exact ww_eq rfl (by rw [show a + (k + 1) = a + k + 1 from rfl, nI_succ, s_seen]; simp [h_20]) rfl (ih (k + 1) (by omega) (by omega))
theorem c_X2_wayUp (l : Launch) (Γ : Gm) {ch : Int64} {k : Nat} (hk : k < 15) : Ct l Γ yX2_wayUp cX2_wayUp 5 (some .int) 1 [.long ch, .int (nI k)] [] (some (.int (s_wu ch k))) [] := by
  refine Ct.of mi_X2_wayUp [some (.long ch), none, some (.int (nI k)), none, none] 2 rfl (Nat.le_of_ble_eq_true rfl) ?_
  intro p e s m args below meth c C hr
  refine ww_iconst (v := 0) C dX2_wayUp_0 (by decide) 1 rfl ?_
  refine ww_istore_n (i := 3) C dX2_wayUp_1 rfl (by decide) rfl 2 rfl ?_
  refine ww_iload_n (i := 2) C dX2_wayUp_2 rfl rfl 3 rfl ?_
  refine ww_bipush (v := 8) C dX2_wayUp_3 (by decide) 5 rfl ?_
  refine ww_icmp_lt C 55 dX2_wayUp_5 (by decide) 8 rfl (fun h_5 => ?_) (fun h_5 => ?_)
  · skip
    first
      | (have h8 : k < 8 := (nI_ltI (b := 8) (by omega) (by decide)).mp h_5)
      | (rw [eF, nI_1] at h_22; obtain rfl : j = 2 := by have := (nI_ltI (by omega) (by omega)).mp h_22; omega)
    refine ww_iload_n (i := 3) C dX2_wayUp_55 rfl rfl 56 rfl ?_
    exact ww_iret C hr dX2_wayUp_56 (by simp [s_wu, *]) rfl
  · skip
    have h8 : ¬ k < 8 := fun q => h_5 ((nI_ltI (b := 8) (by omega) (by decide)).mpr q)
    have eF : (2 : Int32) * (nI k - 8) = nI (2 * (k - 8)) := by
      rw [show (8 : Int32) = nI 8 from rfl, pk_sub (by omega), show (2 : Int32) = nI 2 from rfl, pk_mul]
    refine ww_iload_n (i := 2) C dX2_wayUp_8 rfl rfl 9 rfl ?_
    refine ww_callS1p C (c_X2_firstAbove l Γ) mi_X2_firstAbove st_X2_firstAbove ml_X2_20 dX2_wayUp_9 (Nat.le_of_ble_eq_true rfl) (Nat.le_of_ble_eq_true rfl) (Nat.le_of_ble_eq_true rfl) ⟨Nat.zero_le _, Nat.zero_le _⟩ [] rfl (by decide) 12 rfl ?_
    refine ww_istore C dX2_wayUp_12 (by decide) rfl 14 rfl ?_
    rw [eF]
    refine ww_loop (fun j : Nat => 2 - j) (fun j => j ≤ 2) (fun _ => []) (fun j => [some (.long ch), none, some (.int (nI k)), some (.int (s_wu1 ch (nI k) (2 * (k - 8)) j)), some (.int (nI (2 * (k - 8) + j)))]) (0 : Nat) (by omega) rfl rfl (fun j hj ih => ?_)
    try dsimp only at hj ih ⊢
    refine ww_iload C dX2_wayUp_14 rfl 16 rfl ?_
    refine ww_iload_n (i := 2) C dX2_wayUp_16 rfl rfl 17 rfl ?_
    refine ww_callS1p C (c_X2_firstAbove l Γ) mi_X2_firstAbove st_X2_firstAbove ml_X2_20 dX2_wayUp_17 (Nat.le_of_ble_eq_true rfl) (Nat.le_of_ble_eq_true rfl) (Nat.le_of_ble_eq_true rfl) ⟨Nat.zero_le _, Nat.zero_le _⟩ [] rfl (by decide) 20 rfl ?_
    refine ww_iconst (v := 1) C dX2_wayUp_20 (by decide) 21 rfl ?_
    refine ww_iadd C dX2_wayUp_21 22 rfl ?_
    refine ww_icmp_gt C 55 dX2_wayUp_22 (by decide) 25 rfl (fun h_22 => ?_) (fun h_22 => ?_)
    · skip
      first
        | (have h8 : k < 8 := (nI_ltI (b := 8) (by omega) (by decide)).mp h_5)
        | (rw [eF, nI_1] at h_22; obtain rfl : j = 2 := by have := (nI_ltI (by omega) (by omega)).mp h_22; omega)
      refine ww_iload_n (i := 3) C dX2_wayUp_55 rfl rfl 56 rfl ?_
      exact ww_iret C hr dX2_wayUp_56 (by simp [s_wu, *]) rfl
    · skip
      rw [eF, nI_1] at h_22
      have hlt : j < 2 := Nat.lt_of_not_le fun q => h_22 ((nI_ltI (by omega) (by omega)).mpr (by omega))
      refine ww_lload_n (i := 0) C dX2_wayUp_25 rfl rfl 26 rfl ?_
      refine ww_iload C dX2_wayUp_26 rfl 28 rfl ?_
      refine ww_callS2p C (c_X2_figureAt l Γ) mi_X2_figureAt st_X2_figureAt ml_X2_24 dX2_wayUp_28 (Nat.le_of_ble_eq_true rfl) (Nat.le_of_ble_eq_true rfl) (Nat.le_of_ble_eq_true rfl) ⟨Nat.zero_le _, Nat.zero_le _⟩ [] rfl (by decide) 31 rfl ?_
      refine ww_lload_n (i := 0) C dX2_wayUp_31 rfl rfl 32 rfl ?_
      refine ww_iload_n (i := 2) C dX2_wayUp_32 rfl rfl 33 rfl ?_
      refine ww_callS2p C (c_X2_figureAt l Γ) mi_X2_figureAt st_X2_figureAt ml_X2_24 dX2_wayUp_33 (Nat.le_of_ble_eq_true rfl) (Nat.le_of_ble_eq_true rfl) (Nat.le_of_ble_eq_true rfl) ⟨Nat.zero_le _, Nat.zero_le _⟩ [] rfl (by decide) 36 rfl ?_
      refine ww_ixor C dX2_wayUp_36 37 rfl ?_
      refine ww_iconst (v := 1) C dX2_wayUp_37 (by decide) 38 rfl ?_
      refine ww_iand C dX2_wayUp_38 39 rfl ?_
      refine ww_if_ne C 49 dX2_wayUp_39 (by decide) 42 rfl (fun h_39 => ?_) (fun h_39 => ?_)
      · skip
        refine ww_iinc (y := 1) C dX2_wayUp_49 rfl (by decide) (by decide) rfl 52 rfl ?_
        refine ww_goto C 14 dX2_wayUp_52 (by decide) ?_
        exact ww_eq rfl (by rw [show 2 * (k - 8) + (j + 1) = 2 * (k - 8) + j + 1 from rfl, nI_succ, s_wu1]; simp [h_39]) rfl (ih (j + 1) (by omega) (by omega))
      · skip
        refine ww_iload_n (i := 3) C dX2_wayUp_42 rfl rfl 43 rfl ?_
        refine ww_iconst (v := 1) C dX2_wayUp_43 (by decide) 44 rfl ?_
        refine ww_iload C dX2_wayUp_44 rfl 46 rfl ?_
        refine ww_ishl C dX2_wayUp_46 47 rfl ?_
        refine ww_ior C dX2_wayUp_47 48 rfl ?_
        refine ww_istore_n (i := 3) C dX2_wayUp_48 rfl (by decide) rfl 49 rfl ?_
        refine ww_iinc (y := 1) C dX2_wayUp_49 rfl (by decide) (by decide) rfl 52 rfl ?_
        refine ww_goto C 14 dX2_wayUp_52 (by decide) ?_
        exact ww_eq rfl (by rw [show 2 * (k - 8) + (j + 1) = 2 * (k - 8) + j + 1 from rfl, nI_succ, s_wu1]; simp [h_39]) rfl (ih (j + 1) (by omega) (by omega))
theorem c_X2_endsOfPoint (l : Launch) (Γ : Gm) {ch : Int64}  : Ct l Γ yX2_endsOfPoint cX2_endsOfPoint 6 (some .int) 2 [.long ch] [] (some (.int (s_ep ch 15).2)) [] := by
  refine Ct.of mi_X2_endsOfPoint [some (.long ch), none, none, none, none, none] 4 rfl (Nat.le_of_ble_eq_true rfl) ?_
  intro p e s m args below meth c C hr
  refine ww_sipush (v := 16384) C dX2_endsOfPoint_0 (by decide) 3 rfl ?_
  refine ww_istore_n (i := 2) C dX2_endsOfPoint_3 rfl (by decide) rfl 4 rfl ?_
  refine ww_iconst (v := 0) C dX2_endsOfPoint_4 (by decide) 5 rfl ?_
  refine ww_istore_n (i := 3) C dX2_endsOfPoint_5 rfl (by decide) rfl 6 rfl ?_
  refine ww_bipush (v := 14) C dX2_endsOfPoint_6 (by decide) 8 rfl ?_
  refine ww_istore C dX2_endsOfPoint_8 (by decide) rfl 10 rfl ?_
  refine ww_loop (fun k : Nat => 15 - k) (fun k => k ≤ 15) (fun _ => []) (fun k => [some (.long ch), none, some (.int (s_ep ch k).1), some (.int (s_ep ch k).2), some (.int (nI 14 - nI k)), none]) (0 : Nat) (by omega) rfl rfl (fun k hk ih => ?_)
  try dsimp only at hk ih ⊢
  refine ww_iload C dX2_endsOfPoint_10 rfl 12 rfl ?_
  refine ww_if_lt C 58 dX2_endsOfPoint_12 (by decide) 15 rfl (fun h_12 => ?_) (fun h_12 => ?_)
  · skip
    obtain rfl : k = 15 := by
      rcases Nat.lt_or_ge k 15 with q | q
      · rw [pk_sub (show k ≤ 14 by omega)] at h_12; exact absurd h_12 (nI_pos (by omega))
      · omega
    refine ww_iload_n (i := 3) C dX2_endsOfPoint_58 rfl rfl 59 rfl ?_
    exact ww_iret C hr dX2_endsOfPoint_59 rfl rfl
  · skip
    have hlt : k < 15 := Nat.lt_of_not_le fun q => h_12 (by obtain rfl : k = 15 := (by omega); decide)
    rw [pk_sub (show k ≤ 14 by omega)]
    refine ww_iload_n (i := 2) C dX2_endsOfPoint_15 rfl rfl 16 rfl ?_
    refine ww_iload C dX2_endsOfPoint_16 rfl 18 rfl ?_
    refine ww_ishr C dX2_endsOfPoint_18 19 rfl ?_
    refine ww_iconst (v := 1) C dX2_endsOfPoint_19 (by decide) 20 rfl ?_
    refine ww_iand C dX2_endsOfPoint_20 21 rfl ?_
    refine ww_if_ne C 27 dX2_endsOfPoint_21 (by decide) 24 rfl (fun h_21 => ?_) (fun h_21 => ?_)
    · skip
      refine ww_lload_n (i := 0) C dX2_endsOfPoint_27 rfl rfl 28 rfl ?_
      refine ww_iload C dX2_endsOfPoint_28 rfl 30 rfl ?_
      refine ww_callS2p C (c_X2_wayUp l Γ (by omega)) mi_X2_wayUp st_X2_wayUp ml_X2_30 dX2_endsOfPoint_30 (Nat.le_of_ble_eq_true rfl) (Nat.le_of_ble_eq_true rfl) (Nat.le_of_ble_eq_true rfl) ⟨Nat.zero_le _, Nat.zero_le _⟩ [] rfl (by decide) 33 rfl ?_
      refine ww_istore C dX2_endsOfPoint_33 (by decide) rfl 35 rfl ?_
      refine ww_iload_n (i := 2) C dX2_endsOfPoint_35 rfl rfl 36 rfl ?_
      refine ww_iload C dX2_endsOfPoint_36 rfl 38 rfl ?_
      refine ww_ior C dX2_endsOfPoint_38 39 rfl ?_
      refine ww_istore_n (i := 2) C dX2_endsOfPoint_39 rfl (by decide) rfl 40 rfl ?_
      refine ww_iload C dX2_endsOfPoint_40 rfl 42 rfl ?_
      refine ww_if_ne C 52 dX2_endsOfPoint_42 (by decide) 45 rfl (fun h_42 => ?_) (fun h_42 => ?_)
      · skip
        refine ww_iinc (y := (-1)) C dX2_endsOfPoint_52 rfl (by decide) (by decide) rfl 55 rfl ?_
        refine ww_goto C 10 dX2_endsOfPoint_55 (by decide) ?_
        refine ww_lv (lv' := [some (.long ch), none, some (.int (s_ep ch (k + 1)).1), some (.int (s_ep ch (k + 1)).2), some (.int (nI 14 - nI (k + 1))), none]) ?_ (ih (k + 1) (by omega) (by omega))
        have e9 : nI 14 - nI (k + 1) = nI (14 - k) + (-1) := by rw [nI_succ k, ← pk_sub (show k ≤ 14 by omega)]; exact ep_sub _ _
        rw [e9, s_ep]
        first
          | (rw [if_pos h_21]; exact (lvle_same (lvle_same (lvle_same (lvle_same (lvle_same (lvle_none lvle_nil)))))))
          | (rw [if_neg h_21, if_pos h_42]; exact (lvle_same (lvle_same (lvle_same (lvle_same (lvle_same (lvle_none lvle_nil)))))))
          | (rw [if_neg h_21, if_neg h_42]; exact (lvle_same (lvle_same (lvle_same (lvle_same (lvle_same (lvle_none lvle_nil)))))))
      · skip
        refine ww_iload_n (i := 3) C dX2_endsOfPoint_45 rfl rfl 46 rfl ?_
        refine ww_iconst (v := 1) C dX2_endsOfPoint_46 (by decide) 47 rfl ?_
        refine ww_iload C dX2_endsOfPoint_47 rfl 49 rfl ?_
        refine ww_ishl C dX2_endsOfPoint_49 50 rfl ?_
        refine ww_ior C dX2_endsOfPoint_50 51 rfl ?_
        refine ww_istore_n (i := 3) C dX2_endsOfPoint_51 rfl (by decide) rfl 52 rfl ?_
        refine ww_iinc (y := (-1)) C dX2_endsOfPoint_52 rfl (by decide) (by decide) rfl 55 rfl ?_
        refine ww_goto C 10 dX2_endsOfPoint_55 (by decide) ?_
        refine ww_lv (lv' := [some (.long ch), none, some (.int (s_ep ch (k + 1)).1), some (.int (s_ep ch (k + 1)).2), some (.int (nI 14 - nI (k + 1))), none]) ?_ (ih (k + 1) (by omega) (by omega))
        have e9 : nI 14 - nI (k + 1) = nI (14 - k) + (-1) := by rw [nI_succ k, ← pk_sub (show k ≤ 14 by omega)]; exact ep_sub _ _
        rw [e9, s_ep]
        first
          | (rw [if_pos h_21]; exact (lvle_same (lvle_same (lvle_same (lvle_same (lvle_same (lvle_none lvle_nil)))))))
          | (rw [if_neg h_21, if_pos h_42]; exact (lvle_same (lvle_same (lvle_same (lvle_same (lvle_same (lvle_none lvle_nil)))))))
          | (rw [if_neg h_21, if_neg h_42]; exact (lvle_same (lvle_same (lvle_same (lvle_same (lvle_same (lvle_none lvle_nil)))))))
    · skip
      refine ww_goto C 52 dX2_endsOfPoint_24 (by decide) ?_
      refine ww_iinc (y := (-1)) C dX2_endsOfPoint_52 rfl (by decide) (by decide) rfl 55 rfl ?_
      refine ww_goto C 10 dX2_endsOfPoint_55 (by decide) ?_
      refine ww_lv (lv' := [some (.long ch), none, some (.int (s_ep ch (k + 1)).1), some (.int (s_ep ch (k + 1)).2), some (.int (nI 14 - nI (k + 1))), none]) ?_ (ih (k + 1) (by omega) (by omega))
      have e9 : nI 14 - nI (k + 1) = nI (14 - k) + (-1) := by rw [nI_succ k, ← pk_sub (show k ≤ 14 by omega)]; exact ep_sub _ _
      rw [e9, s_ep]
      first
        | (rw [if_pos h_21]; exact (lvle_same (lvle_same (lvle_same (lvle_same (lvle_same (lvle_none lvle_nil)))))))
        | (rw [if_neg h_21, if_pos h_42]; exact (lvle_same (lvle_same (lvle_same (lvle_same (lvle_same (lvle_none lvle_nil)))))))
        | (rw [if_neg h_21, if_neg h_42]; exact (lvle_same (lvle_same (lvle_same (lvle_same (lvle_same (lvle_none lvle_nil)))))))
end
section
theorem in_of_lt {x : Int32} {u n : Nat} (h0 : ¬ x < 0) (h1 : ¬ nI u ≤ x) (hu : u ≤ n) (hn : n < 2 ^ 31) : vp_in x n := by
  obtain ⟨j, hj, e, -⟩ := pk_mu h0 h1 (by omega)
  rw [e]
  exact vp_in_nI (by omega) hn
def s_tb (by0 : Nat → Int32) (u : Nat) (x : Int32) : Int32 := if x < 0 then 0 else if nI u ≤ x then 0 else by0 x.toNatClampNeg
def s_apb (by0 : Nat → Int32) (u : Nat) (w : Int64) (k : Nat) : Nat → (Nat → Int32)
  | 0 => by0
  | j + 1 => upd (s_apb by0 u w k j) (u + j) ((lushrI w (8 * nI (k - 1 - j))).toInt32 &&& 255)
theorem c_X8_hasRoom (l : Launch) (Γ : Gm) {h0 hb u : Nat} {n : Int32}  : Ct l Γ yX8_hasRoom cX8_hasRoom 2 (some .boolean) 0 [.ref h0, .int n] [(h0, .inr (6, [.ref hb, .int (nI u)]))] (some (.int (bI (¬ 400 - nI u < n)))) [(h0, .inr (6, [.ref hb, .int (nI u)]))] := by
  refine Ct.of mi_X8_hasRoom [some (.ref h0), some (.int n)] 0 rfl (Nat.le_of_ble_eq_true rfl) ?_
  intro p e s m args below meth c C hr
  refine ww_iload_n (i := 1) C dX8_hasRoom_0 rfl rfl 1 rfl ?_
  refine ww_sipush (v := 400) C dX8_hasRoom_1 (by decide) 4 rfl ?_
  refine ww_aload_n (i := 0) C dX8_hasRoom_4 rfl rfl 5 rfl ?_
  refine ww_get C fe_X8_13 dX8_hasRoom_5 0 rfl rfl 8 rfl ?_
  refine ww_isub C dX8_hasRoom_8 9 rfl ?_
  refine ww_icmp_gt C 16 dX8_hasRoom_9 (by decide) 12 rfl (fun h_9 => ?_) (fun h_9 => ?_)
  · skip
    refine ww_iconst (v := 0) C dX8_hasRoom_16 (by decide) 17 rfl ?_
    exact ww_zret C hr rfl dX8_hasRoom_17 (by simp [bI, *]) rfl
  · skip
    refine ww_iconst (v := 1) C dX8_hasRoom_12 (by decide) 13 rfl ?_
    refine ww_goto C 17 dX8_hasRoom_13 (by decide) ?_
    exact ww_zret C hr rfl dX8_hasRoom_17 (by simp [bI, *]) rfl
theorem c_X8_byteAt (l : Launch) (Γ : Gm) {h0 hb u : Nat} {by0 : Nat → Int32} {x : Int32} (hu : u ≤ 400) : Ct l Γ yX8_byteAt cX8_byteAt 2 (some .int) 0 [.ref h0, .int x] [(h0, .inr (6, [.ref hb, .int (nI u)])), (hb, .inl (Γ.2.1, 400, .inl by0))] (some (.int (s_tb by0 u x))) [(h0, .inr (6, [.ref hb, .int (nI u)])), (hb, .inl (Γ.2.1, 400, .inl by0))] := by
  refine Ct.of mi_X8_byteAt [some (.ref h0), some (.int x)] 0 rfl (Nat.le_of_ble_eq_true rfl) ?_
  intro p e s m args below meth c C hr
  refine ww_iload_n (i := 1) C dX8_byteAt_0 rfl rfl 1 rfl ?_
  refine ww_if_lt C 21 dX8_byteAt_1 (by decide) 4 rfl (fun h_1 => ?_) (fun h_1 => ?_)
  · skip
    refine ww_iconst (v := 0) C dX8_byteAt_21 (by decide) 22 rfl ?_
    exact ww_iret C hr dX8_byteAt_22 (by simp [s_tb, *]) rfl
  · skip
    refine ww_iload_n (i := 1) C dX8_byteAt_4 rfl rfl 5 rfl ?_
    refine ww_aload_n (i := 0) C dX8_byteAt_5 rfl rfl 6 rfl ?_
    refine ww_get C fe_X8_13 dX8_byteAt_6 0 rfl rfl 9 rfl ?_
    refine ww_icmp_ge C 21 dX8_byteAt_9 (by decide) 12 rfl (fun h_9 => ?_) (fun h_9 => ?_)
    · skip
      refine ww_iconst (v := 0) C dX8_byteAt_21 (by decide) 22 rfl ?_
      exact ww_iret C hr dX8_byteAt_22 (by simp [s_tb, *]) rfl
    · skip
      refine ww_aload_n (i := 0) C dX8_byteAt_12 rfl rfl 13 rfl ?_
      refine ww_get C fe_X8_9 dX8_byteAt_13 0 rfl rfl 16 rfl ?_
      refine ww_iload_n (i := 1) C dX8_byteAt_16 rfl rfl 17 rfl ?_
      refine ww_iald C dX8_byteAt_17 1 rfl (in_of_lt h_1 h_9 hu (by decide)) 18 rfl ?_
      refine ww_goto C 22 dX8_byteAt_18 (by decide) ?_
      exact ww_iret C hr dX8_byteAt_22 (by simp [s_tb, *]) rfl
theorem c_X8_append (l : Launch) (Γ : Gm) {h0 hb u : Nat} {by0 : Nat → Int32} {w : Int64} {k : Nat} (h1 : 1 ≤ k) (h8 : k ≤ 8) (hu : u + k ≤ 400) : Ct l Γ yX8_append cX8_append 5 none 0 [.ref h0, .long w, .int (nI k)] [(h0, .inr (6, [.ref hb, .int (nI u)])), (hb, .inl (Γ.2.1, 400, .inl by0))] (none) [(h0, .inr (6, [.ref hb, .int (nI (u + k))])), (hb, .inl (Γ.2.1, 400, .inl (s_apb by0 u w k k)))] := by
  refine Ct.of mi_X8_append [some (.ref h0), some (.long w), none, some (.int (nI k)), none] 1 rfl (Nat.le_of_ble_eq_true rfl) ?_
  intro p e s m args below meth c C hr
  refine ww_iload_n (i := 3) C dX8_append_0 rfl rfl 1 rfl ?_
  refine ww_iconst (v := 1) C dX8_append_1 (by decide) 2 rfl ?_
  refine ww_isub C dX8_append_2 3 rfl ?_
  refine ww_istore C dX8_append_3 (by decide) rfl 5 rfl ?_
  have e1 : nI k - 1 = nI (k - 1) - nI 0 := by rw [show (1 : Int32) = nI 1 from rfl, pk_sub h1, pk_sub (Nat.zero_le _)]; rfl
  rw [e1]
  refine ww_loop (fun j : Nat => k - j) (fun j => j ≤ k) (fun j => [(h0, .inr (6, [.ref hb, .int (nI (u + j))])), (hb, .inl (Γ.2.1, 400, .inl (s_apb by0 u w k j)))]) (fun j => [some (.ref h0), some (.long w), none, some (.int (nI k)), some (.int (nI (k - 1) - nI j))]) (0 : Nat) (by omega) rfl rfl (fun j hj ih => ?_)
  try dsimp only at hj ih ⊢
  refine ww_iload C dX8_append_5 rfl 7 rfl ?_
  refine ww_if_lt C 57 dX8_append_7 (by decide) 10 rfl (fun h_7 => ?_) (fun h_7 => ?_)
  · skip
    obtain rfl : j = k := by
      rcases Nat.lt_or_ge j k with q | q
      · rw [pk_sub (show j ≤ k - 1 by omega)] at h_7; exact absurd h_7 (nI_pos (by omega))
      · omega
    exact ww_vret C hr dX8_append_57 rfl rfl
  · skip
    have hlt : j < k := Nat.lt_of_not_le fun q => h_7 (by rw [show j = k by omega]; have : nI (k - 1) - nI k < 0 := pk_sneg (by omega) (by omega); exact this)
    rw [pk_sub (show j ≤ k - 1 by omega)]
    refine ww_aload_n (i := 0) C dX8_append_10 rfl rfl 11 rfl ?_
    refine ww_get C fe_X8_13 dX8_append_11 0 rfl rfl 14 rfl ?_
    refine ww_sipush (v := 400) C dX8_append_14 (by decide) 17 rfl ?_
    refine ww_icmp_ge C 57 dX8_append_17 (by decide) 20 rfl (fun h_17 => ?_) (fun h_17 => ?_)
    · exact absurd h_17 (by rw [show (400 : Int32) = nI 400 from rfl, nI_leI (by decide) (by omega)]; omega)
    · skip
      refine ww_aload_n (i := 0) C dX8_append_20 rfl rfl 21 rfl ?_
      refine ww_get C fe_X8_9 dX8_append_21 0 rfl rfl 24 rfl ?_
      refine ww_aload_n (i := 0) C dX8_append_24 rfl rfl 25 rfl ?_
      refine ww_get C fe_X8_13 dX8_append_25 0 rfl rfl 28 rfl ?_
      refine ww_lload_n (i := 1) C dX8_append_28 rfl rfl 29 rfl ?_
      refine ww_bipush (v := 8) C dX8_append_29 (by decide) 31 rfl ?_
      refine ww_iload C dX8_append_31 rfl 33 rfl ?_
      refine ww_imul C dX8_append_33 34 rfl ?_
      refine ww_lushr C dX8_append_34 35 rfl ?_
      refine ww_l2i C dX8_append_35 36 rfl ?_
      refine ww_sipush (v := 255) C dX8_append_36 (by decide) 39 rfl ?_
      refine ww_iand C dX8_append_39 40 rfl ?_
      refine ww_iast C dX8_append_40 1 rfl (vp_in_nI (by omega) (by decide)) 41 rfl ?_
      refine ww_aload_n (i := 0) C dX8_append_41 rfl rfl 42 rfl ?_
      refine ww_dup C dX8_append_42 rfl 43 rfl ?_
      refine ww_get C fe_X8_13 dX8_append_43 0 rfl rfl 46 rfl ?_
      refine ww_iconst (v := 1) C dX8_append_46 (by decide) 47 rfl ?_
      refine ww_iadd C dX8_append_47 48 rfl ?_
      refine ww_put C fe_X8_13 rfl dX8_append_48 0 rfl rfl rfl (Nat.le_of_ble_eq_true rfl) 51 rfl ?_
      refine ww_iinc (y := (-1)) C dX8_append_51 rfl (by decide) (by decide) rfl 54 rfl ?_
      refine ww_goto C 5 dX8_append_54 (by decide) ?_
      have e9 : nI (k - 1) - nI (j + 1) = nI (k - 1 - j) + (-1) := by rw [nI_succ j, ← pk_sub (show j ≤ k - 1 by omega)]; exact ep_sub _ _
      refine ww_eq ?_ ?_ rfl (ih (j + 1) (by omega) (by omega))
      · rw [show u + (j + 1) = u + j + 1 from rfl, nI_succ (u + j), s_apb]
        have e8 : (nI (u + j)).toNatClampNeg = u + j := nI_clamp (by omega)
        simp only [e8]
        rfl
      · rw [e9]; rfl
abbrev s_has (sz : Nat) (fr n : Int32) : Prop := ¬ n < 0 ∧ ¬ fr < 0 ∧ ¬ nI sz - n < fr
theorem s_has_iff {sz : Nat} (hs : sz ≤ 60) {fr n : Int32} : s_has sz fr n ↔ ∃ a k : Nat, fr = nI a ∧ n = nI k ∧ a + k ≤ sz := by
  constructor
  · rintro ⟨h1, h2, h3⟩
    obtain ⟨k, hk, rfl⟩ := nI_of h1
    obtain ⟨a, ha, rfl⟩ := nI_of h2
    refine ⟨a, k, rfl, rfl, ?_⟩
    rw [Int32.lt_iff_toInt_lt, nI_toInt ha] at h3
    have e : (nI sz - nI k).toInt = (sz : Int) - k := by
      rw [Int32.toInt_sub, nI_toInt (by omega), nI_toInt hk]
      exact Int.bmod_eq_of_le (by omega) (by omega)
    rw [e] at h3
    omega
  · rintro ⟨a, k, rfl, rfl, h⟩
    refine ⟨nI_pos (by omega), nI_pos (by omega), ?_⟩
    rw [pk_sub (by omega)]
    exact nI_nlt (by omega) (by omega)
theorem s_has_n {sz a k : Nat} (hs : sz ≤ 60) (h : a + k ≤ sz) : s_has sz (nI a) (nI k) := (s_has_iff hs).mpr ⟨a, k, rfl, rfl, h⟩
def s_nar (lane v : Int32) : Int32 := if lane = 0 then v.toInt8.toInt32 else if lane = 1 then v.toInt16.toInt32 else v
def s_find (lane : Int32) (sz : Nat) (fr n : Int32) : Int32 := if lane = -1 then 1 else if s_has sz fr n then 0 else 2
def s_zf (it : Nat → Int32) (k : Nat) : Nat → Int32 := fun j => if j < k then 0 else it j
theorem s_zf_0 (it : Nat → Int32) : s_zf it 0 = it := rfl
theorem s_zf_s (it : Nat → Int32) (k : Nat) : upd (s_zf it k) k 0 = s_zf it (k + 1) := by
  funext j
  simp only [upd, s_zf]
  repeat' split
  all_goals first | rfl | omega
def s_within (it : Nat → Int32) (a : Nat) (lo hi : Int32) : Nat → Prop
  | 0 => True
  | j + 1 => s_within it a lo hi j ∧ ¬ it (a + j) < lo ∧ it (a + j) ≤ hi
theorem s_within_iff {it : Nat → Int32} {a : Nat} {lo hi : Int32} : ∀ {n : Nat}, s_within it a lo hi n ↔ ∀ j, j < n → ¬ it (a + j) < lo ∧ it (a + j) ≤ hi
  | 0 => ⟨fun _ j h => absurd h (Nat.not_lt_zero j), fun _ => trivial⟩
  | n + 1 => by
    rw [s_within, s_within_iff (n := n)]
    constructor
    · rintro ⟨h1, h2⟩ j hj
      rcases Nat.lt_or_ge j n with q | q
      · exact h1 j q
      · rw [show j = n by omega]; exact h2
    · intro h
      exact ⟨fun j hj => h j (by omega), h n (by omega)⟩
def s_odd (it : Nat → Int32) (a : Nat) : Nat → Int32
  | 0 => 0
  | k + 1 => s_odd it a k ||| ((it (a + k) &&& 1) <<< (nI k &&& 31))
def s_drw (it : Nat → Int32) (a : Nat) : Nat → Int64
  | 0 => 0
  | k + 1 => if it (a + k) = -1 then s_drw it a k else s_wf (s_drw it a k) (nI k) (it (a + k))
def s_unt (it : Nat → Int32) (a : Nat) : Nat → Int64
  | 0 => 0
  | k + 1 => if it (a + k) = -1 then s_unt it a k else s_wf (s_unt it a k) (nI k) 15
theorem c_X7_isLane (l : Launch) (Γ : Gm) {x : Int32}  : Ct l Γ yX7_isLane cX7_isLane 1 (some .boolean) 0 [.int x] [] (some (.int (bI (¬ x < 0 ∧ ¬ 2 < x)))) [] := by
  refine Ct.of mi_X7_isLane [some (.int x)] 0 rfl (Nat.le_of_ble_eq_true rfl) ?_
  intro p e s m args below meth c C hr
  refine ww_iload_n (i := 0) C dX7_isLane_0 rfl rfl 1 rfl ?_
  refine ww_if_lt C 13 dX7_isLane_1 (by decide) 4 rfl (fun h_1 => ?_) (fun h_1 => ?_)
  · skip
    refine ww_iconst (v := 0) C dX7_isLane_13 (by decide) 14 rfl ?_
    exact ww_zret C hr rfl dX7_isLane_14 (by simp [bI, *]) rfl
  · skip
    refine ww_iload_n (i := 0) C dX7_isLane_4 rfl rfl 5 rfl ?_
    refine ww_iconst (v := 2) C dX7_isLane_5 (by decide) 6 rfl ?_
    refine ww_icmp_gt C 13 dX7_isLane_6 (by decide) 9 rfl (fun h_6 => ?_) (fun h_6 => ?_)
    · skip
      refine ww_iconst (v := 0) C dX7_isLane_13 (by decide) 14 rfl ?_
      exact ww_zret C hr rfl dX7_isLane_14 (by simp [bI, *]) rfl
    · skip
      refine ww_iconst (v := 1) C dX7_isLane_9 (by decide) 10 rfl ?_
      refine ww_goto C 14 dX7_isLane_10 (by decide) ?_
      exact ww_zret C hr rfl dX7_isLane_14 (by simp [bI, *]) rfl
theorem c_X7_isMissing (l : Launch) (Γ : Gm) {h0 hi sz : Nat} {lane : Int32}  : Ct l Γ yX7_isMissing cX7_isMissing 1 (some .boolean) 0 [.ref h0] [(h0, .inr (5, [.ref hi, .int lane, .int (nI sz)]))] (some (.int (bI (lane = -1)))) [(h0, .inr (5, [.ref hi, .int lane, .int (nI sz)]))] := by
  refine Ct.of mi_X7_isMissing [some (.ref h0)] 0 rfl (Nat.le_of_ble_eq_true rfl) ?_
  intro p e s m args below meth c C hr
  refine ww_aload_n (i := 0) C dX7_isMissing_0 rfl rfl 1 rfl ?_
  refine ww_get C fe_X7_15 dX7_isMissing_1 0 rfl rfl 4 rfl ?_
  refine ww_iconst (v := (-1)) C dX7_isMissing_4 (by decide) 5 rfl ?_
  refine ww_icmp_ne C 12 dX7_isMissing_5 (by decide) 8 rfl (fun h_5 => ?_) (fun h_5 => ?_)
  · skip
    refine ww_iconst (v := 0) C dX7_isMissing_12 (by decide) 13 rfl ?_
    exact ww_zret C hr rfl dX7_isMissing_13 (by simp [bI, *]) rfl
  · skip
    refine ww_iconst (v := 1) C dX7_isMissing_8 (by decide) 9 rfl ?_
    refine ww_goto C 13 dX7_isMissing_9 (by decide) ?_
    exact ww_zret C hr rfl dX7_isMissing_13 (by simp [bI, *]) rfl
theorem c_X7_hasItems (l : Launch) (Γ : Gm) {h0 hi sz : Nat} {lane fr n : Int32}  : Ct l Γ yX7_hasItems cX7_hasItems 3 (some .boolean) 0 [.ref h0, .int fr, .int n] [(h0, .inr (5, [.ref hi, .int lane, .int (nI sz)]))] (some (.int (bI (s_has sz fr n)))) [(h0, .inr (5, [.ref hi, .int lane, .int (nI sz)]))] := by
  refine Ct.of mi_X7_hasItems [some (.ref h0), some (.int fr), some (.int n)] 0 rfl (Nat.le_of_ble_eq_true rfl) ?_
  intro p e s m args below meth c C hr
  refine ww_iload_n (i := 2) C dX7_hasItems_0 rfl rfl 1 rfl ?_
  refine ww_if_lt C 22 dX7_hasItems_1 (by decide) 4 rfl (fun h_1 => ?_) (fun h_1 => ?_)
  · skip
    refine ww_iconst (v := 0) C dX7_hasItems_22 (by decide) 23 rfl ?_
    exact ww_zret C hr rfl dX7_hasItems_23 (by simp [bI, *]) rfl
  · skip
    refine ww_iload_n (i := 1) C dX7_hasItems_4 rfl rfl 5 rfl ?_
    refine ww_if_lt C 22 dX7_hasItems_5 (by decide) 8 rfl (fun h_5 => ?_) (fun h_5 => ?_)
    · skip
      refine ww_iconst (v := 0) C dX7_hasItems_22 (by decide) 23 rfl ?_
      exact ww_zret C hr rfl dX7_hasItems_23 (by simp [bI, *]) rfl
    · skip
      refine ww_iload_n (i := 1) C dX7_hasItems_8 rfl rfl 9 rfl ?_
      refine ww_aload_n (i := 0) C dX7_hasItems_9 rfl rfl 10 rfl ?_
      refine ww_get C fe_X7_19 dX7_hasItems_10 0 rfl rfl 13 rfl ?_
      refine ww_iload_n (i := 2) C dX7_hasItems_13 rfl rfl 14 rfl ?_
      refine ww_isub C dX7_hasItems_14 15 rfl ?_
      refine ww_icmp_gt C 22 dX7_hasItems_15 (by decide) 18 rfl (fun h_15 => ?_) (fun h_15 => ?_)
      · skip
        refine ww_iconst (v := 0) C dX7_hasItems_22 (by decide) 23 rfl ?_
        exact ww_zret C hr rfl dX7_hasItems_23 (by simp [bI, *]) rfl
      · skip
        refine ww_iconst (v := 1) C dX7_hasItems_18 (by decide) 19 rfl ?_
        refine ww_goto C 23 dX7_hasItems_19 (by decide) ?_
        exact ww_zret C hr rfl dX7_hasItems_23 (by simp [bI, *]) rfl
theorem c_X7_findingOf (l : Launch) (Γ : Gm) {h0 hi sz : Nat} {lane fr n : Int32}  : Ct l Γ yX7_findingOf cX7_findingOf 3 (some .int) 1 [.ref h0, .int fr, .int n] [(h0, .inr (5, [.ref hi, .int lane, .int (nI sz)]))] (some (.int (s_find lane sz fr n))) [(h0, .inr (5, [.ref hi, .int lane, .int (nI sz)]))] := by
  refine Ct.of mi_X7_findingOf [some (.ref h0), some (.int fr), some (.int n)] 0 rfl (Nat.le_of_ble_eq_true rfl) ?_
  intro p e s m args below meth c C hr
  refine ww_aload_n (i := 0) C dX7_findingOf_0 rfl rfl 1 rfl ?_
  refine ww_callV0p C (c_X7_isMissing l Γ) mi_X7_isMissing im_X7_isMissing se_X7_isMissing ml_X7_22 dX7_findingOf_1 0 rfl rfl rfl (Nat.le_of_ble_eq_true rfl) (Nat.le_of_ble_eq_true rfl) (Nat.le_of_ble_eq_true rfl) ⟨Nat.zero_le _, Nat.zero_le _⟩ [0] rfl (by decide) 4 rfl ?_
  refine ww_if_eq C 9 dX7_findingOf_4 (by decide) 7 rfl (fun h_4 => ?_) (fun h_4 => ?_)
  · skip
    refine ww_aload_n (i := 0) C dX7_findingOf_9 rfl rfl 10 rfl ?_
    refine ww_iload_n (i := 1) C dX7_findingOf_10 rfl rfl 11 rfl ?_
    refine ww_iload_n (i := 2) C dX7_findingOf_11 rfl rfl 12 rfl ?_
    refine ww_callV2p C (c_X7_hasItems l Γ) mi_X7_hasItems im_X7_hasItems se_X7_hasItems ml_X7_26 dX7_findingOf_12 0 rfl rfl rfl (Nat.le_of_ble_eq_true rfl) (Nat.le_of_ble_eq_true rfl) (Nat.le_of_ble_eq_true rfl) ⟨Nat.zero_le _, Nat.zero_le _⟩ [0] rfl (by decide) 15 rfl ?_
    refine ww_if_eq C 22 dX7_findingOf_15 (by decide) 18 rfl (fun h_15 => ?_) (fun h_15 => ?_)
    · skip
      refine ww_iconst (v := 2) C dX7_findingOf_22 (by decide) 23 rfl ?_
      exact ww_iret C hr dX7_findingOf_23 (by first | rw [s_find, if_neg (bI_e0 h_4), if_neg (bI_e0 h_15)] | rw [s_find, if_neg (bI_e0 h_4), if_pos (bI_n0 h_15)]) rfl
    · skip
      refine ww_iconst (v := 0) C dX7_findingOf_18 (by decide) 19 rfl ?_
      refine ww_goto C 23 dX7_findingOf_19 (by decide) ?_
      exact ww_iret C hr dX7_findingOf_23 (by first | rw [s_find, if_neg (bI_e0 h_4), if_neg (bI_e0 h_15)] | rw [s_find, if_neg (bI_e0 h_4), if_pos (bI_n0 h_15)]) rfl
  · skip
    refine ww_iconst (v := 1) C dX7_findingOf_7 (by decide) 8 rfl ?_
    exact ww_iret C hr dX7_findingOf_8 (by rw [s_find, if_pos (bI_n0 h_4)]) rfl
theorem c_X7_narrowed (l : Launch) (Γ : Gm) {h0 hi sz : Nat} {lane v : Int32}  : Ct l Γ yX7_narrowed cX7_narrowed 2 (some .int) 0 [.ref h0, .int v] [(h0, .inr (5, [.ref hi, .int lane, .int (nI sz)]))] (some (.int (s_nar lane v))) [(h0, .inr (5, [.ref hi, .int lane, .int (nI sz)]))] := by
  refine Ct.of mi_X7_narrowed [some (.ref h0), some (.int v)] 0 rfl (Nat.le_of_ble_eq_true rfl) ?_
  intro p e s m args below meth c C hr
  refine ww_aload_n (i := 0) C dX7_narrowed_0 rfl rfl 1 rfl ?_
  refine ww_get C fe_X7_15 dX7_narrowed_1 0 rfl rfl 4 rfl ?_
  refine ww_if_ne C 10 dX7_narrowed_4 (by decide) 7 rfl (fun h_4 => ?_) (fun h_4 => ?_)
  · skip
    refine ww_aload_n (i := 0) C dX7_narrowed_10 rfl rfl 11 rfl ?_
    refine ww_get C fe_X7_15 dX7_narrowed_11 0 rfl rfl 14 rfl ?_
    refine ww_iconst (v := 1) C dX7_narrowed_14 (by decide) 15 rfl ?_
    refine ww_icmp_ne C 23 dX7_narrowed_15 (by decide) 18 rfl (fun h_15 => ?_) (fun h_15 => ?_)
    · skip
      refine ww_iload_n (i := 1) C dX7_narrowed_23 rfl rfl 24 rfl ?_
      exact ww_iret C hr dX7_narrowed_24 (by simp [s_nar, *]) rfl
    · skip
      refine ww_iload_n (i := 1) C dX7_narrowed_18 rfl rfl 19 rfl ?_
      refine ww_i2s C dX7_narrowed_19 20 rfl ?_
      refine ww_goto C 24 dX7_narrowed_20 (by decide) ?_
      exact ww_iret C hr dX7_narrowed_24 (by simp [s_nar, *]) rfl
  · skip
    refine ww_iload_n (i := 1) C dX7_narrowed_7 rfl rfl 8 rfl ?_
    refine ww_i2b C dX7_narrowed_8 9 rfl ?_
    exact ww_iret C hr dX7_narrowed_9 (by simp [s_nar, *]) rfl
theorem c_X7_put (l : Launch) (Γ : Gm) {h0 hi sz a : Nat} {lane v : Int32} {it : Nat → Int32} (ha : a < sz) (hs : sz ≤ 60) : Ct l Γ yX7_put cX7_put 3 (some .int) 1 [.ref h0, .int (nI a), .int v] [(h0, .inr (5, [.ref hi, .int lane, .int (nI sz)])), (hi, .inl (Γ.2.1, 60, .inl it))] (some (.int (s_nar lane v))) [(h0, .inr (5, [.ref hi, .int lane, .int (nI sz)])), (hi, .inl (Γ.2.1, 60, .inl (upd it a (s_nar lane v))))] := by
  refine Ct.of mi_X7_put [some (.ref h0), some (.int (nI a)), some (.int v)] 0 rfl (Nat.le_of_ble_eq_true rfl) ?_
  intro p e s m args below meth c C hr
  refine ww_aload_n (i := 0) C dX7_put_0 rfl rfl 1 rfl ?_
  refine ww_iload_n (i := 1) C dX7_put_1 rfl rfl 2 rfl ?_
  refine ww_iconst (v := 1) C dX7_put_2 (by decide) 3 rfl ?_
  refine ww_callV2p C (c_X7_hasItems l Γ) mi_X7_hasItems im_X7_hasItems se_X7_hasItems ml_X7_26 dX7_put_3 0 rfl rfl rfl (Nat.le_of_ble_eq_true rfl) (Nat.le_of_ble_eq_true rfl) (Nat.le_of_ble_eq_true rfl) ⟨Nat.zero_le _, Nat.zero_le _⟩ [0] rfl (by decide) 6 rfl ?_
  refine ww_if_ne C 12 dX7_put_6 (by decide) 9 rfl (fun h_6 => ?_) (fun h_6 => ?_)
  · skip
    refine ww_aload_n (i := 0) C dX7_put_12 rfl rfl 13 rfl ?_
    refine ww_get C fe_X7_11 dX7_put_13 0 rfl rfl 16 rfl ?_
    refine ww_iload_n (i := 1) C dX7_put_16 rfl rfl 17 rfl ?_
    refine ww_aload_n (i := 0) C dX7_put_17 rfl rfl 18 rfl ?_
    refine ww_iload_n (i := 2) C dX7_put_18 rfl rfl 19 rfl ?_
    refine ww_callV1p C (c_X7_narrowed l Γ) mi_X7_narrowed im_X7_narrowed se_X7_narrowed ml_X7_31 dX7_put_19 0 rfl rfl rfl (Nat.le_of_ble_eq_true rfl) (Nat.le_of_ble_eq_true rfl) (Nat.le_of_ble_eq_true rfl) ⟨Nat.zero_le _, Nat.zero_le _⟩ [0] rfl (by decide) 22 rfl ?_
    refine ww_iast C dX7_put_22 1 rfl (vp_in_nI (by omega) (by decide)) 23 rfl ?_
    refine ww_aload_n (i := 0) C dX7_put_23 rfl rfl 24 rfl ?_
    refine ww_get C fe_X7_11 dX7_put_24 0 rfl rfl 27 rfl ?_
    refine ww_iload_n (i := 1) C dX7_put_27 rfl rfl 28 rfl ?_
    refine ww_iald C dX7_put_28 1 rfl (vp_in_nI (by omega) (by decide)) 29 rfl ?_
    exact ww_iret C hr dX7_put_29 (by rw [nI_clamp (by omega), pk_us]) (by rw [nI_clamp (by omega)]; rfl)
  · exact absurd (s_has_n (k := 1) hs (by omega)) (bI_e0 h_6)
theorem c_X7_begin (l : Launch) (Γ : Gm) {h0 hi sz n : Nat} {lane lane0 : Int32} {it : Nat → Int32}  : Ct l Γ yX7_begin cX7_begin 4 none 0 [.ref h0, .int lane, .int (nI n)] [(h0, .inr (5, [.ref hi, .int lane0, .int (nI sz)])), (hi, .inl (Γ.2.1, 60, .inl it))] (none) [(h0, .inr (5, [.ref hi, .int lane, .int (nI n)])), (hi, .inl (Γ.2.1, 60, .inl (s_zf it 60)))] := by
  refine Ct.of mi_X7_begin [some (.ref h0), some (.int lane), some (.int (nI n)), none] 1 rfl (Nat.le_of_ble_eq_true rfl) ?_
  intro p e s m args below meth c C hr
  refine ww_aload_n (i := 0) C dX7_begin_0 rfl rfl 1 rfl ?_
  refine ww_iload_n (i := 1) C dX7_begin_1 rfl rfl 2 rfl ?_
  refine ww_put C fe_X7_15 rfl dX7_begin_2 0 rfl rfl rfl (Nat.le_of_ble_eq_true rfl) 5 rfl ?_
  refine ww_aload_n (i := 0) C dX7_begin_5 rfl rfl 6 rfl ?_
  refine ww_iload_n (i := 2) C dX7_begin_6 rfl rfl 7 rfl ?_
  refine ww_put C fe_X7_19 rfl dX7_begin_7 0 rfl rfl rfl (Nat.le_of_ble_eq_true rfl) 10 rfl ?_
  refine ww_iconst (v := 0) C dX7_begin_10 (by decide) 11 rfl ?_
  refine ww_istore_n (i := 3) C dX7_begin_11 rfl (by decide) rfl 12 rfl ?_
  refine ww_loop (fun j : Nat => 60 - j) (fun j => j ≤ 60) (fun j => [(h0, .inr (5, [.ref hi, .int lane, .int (nI n)])), (hi, .inl (Γ.2.1, 60, .inl (s_zf it j)))]) (fun j => [some (.ref h0), some (.int lane), some (.int (nI n)), some (.int (nI j))]) (0 : Nat) (by omega) rfl rfl (fun j hj ih => ?_)
  try dsimp only at hj ih ⊢
  refine ww_iload_n (i := 3) C dX7_begin_12 rfl rfl 13 rfl ?_
  refine ww_bipush (v := 60) C dX7_begin_13 (by decide) 15 rfl ?_
  refine ww_icmp_ge C 31 dX7_begin_15 (by decide) 18 rfl (fun h_15 => ?_) (fun h_15 => ?_)
  · skip
    obtain rfl : j = 60 := eqN (n := 60) h_15 hj (by decide)
    exact ww_vret C hr dX7_begin_31 rfl rfl
  · skip
    have hlt : j < 60 := ltN (n := 60) h_15 (by decide) (by omega)
    refine ww_aload_n (i := 0) C dX7_begin_18 rfl rfl 19 rfl ?_
    refine ww_get C fe_X7_11 dX7_begin_19 0 rfl rfl 22 rfl ?_
    refine ww_iload_n (i := 3) C dX7_begin_22 rfl rfl 23 rfl ?_
    refine ww_iconst (v := 0) C dX7_begin_23 (by decide) 24 rfl ?_
    refine ww_iast C dX7_begin_24 1 rfl (vp_in_nI hlt (by decide)) 25 rfl ?_
    refine ww_iinc (y := 1) C dX7_begin_25 rfl (by decide) (by decide) rfl 28 rfl ?_
    refine ww_goto C 12 dX7_begin_28 (by decide) ?_
    exact ww_eq (by rw [← s_zf_s]; simp only [nI_clamp (show j < 2 ^ 31 by omega)]; rfl) (by rw [nI_succ j]; rfl) rfl (ih (j + 1) (by omega) (by omega))
theorem c_X7_forget (l : Launch) (Γ : Gm) {h0 hi sz : Nat} {lane : Int32}  : Ct l Γ yX7_forget cX7_forget 1 none 0 [.ref h0] [(h0, .inr (5, [.ref hi, .int lane, .int (nI sz)]))] (none) [(h0, .inr (5, [.ref hi, .int (-1), .int (nI 0)]))] := by
  refine Ct.of mi_X7_forget [some (.ref h0)] 0 rfl (Nat.le_of_ble_eq_true rfl) ?_
  intro p e s m args below meth c C hr
  refine ww_aload_n (i := 0) C dX7_forget_0 rfl rfl 1 rfl ?_
  refine ww_iconst (v := (-1)) C dX7_forget_1 (by decide) 2 rfl ?_
  refine ww_put C fe_X7_15 rfl dX7_forget_2 0 rfl rfl rfl (Nat.le_of_ble_eq_true rfl) 5 rfl ?_
  refine ww_aload_n (i := 0) C dX7_forget_5 rfl rfl 6 rfl ?_
  refine ww_iconst (v := 0) C dX7_forget_6 (by decide) 7 rfl ?_
  refine ww_put C fe_X7_19 rfl dX7_forget_7 0 rfl rfl rfl (Nat.le_of_ble_eq_true rfl) 10 rfl ?_
  exact ww_vret C hr dX7_forget_10 rfl rfl
theorem c_X7_areWithin (l : Launch) (Γ : Gm) {h0 hi sz a k : Nat} {lane lo hi9 : Int32} {it : Nat → Int32} (hak : a + k ≤ sz) (hs : sz ≤ 60) {r : Int32} (hr1 : s_within it a lo hi9 k → r = 1) (hr0 : ¬ s_within it a lo hi9 k → r = 0) : Ct l Γ yX7_areWithin cX7_areWithin 6 (some .boolean) 1 [.ref h0, .int (nI a), .int (nI k), .int lo, .int hi9] [(h0, .inr (5, [.ref hi, .int lane, .int (nI sz)])), (hi, .inl (Γ.2.1, 60, .inl it))] (some (.int r)) [(h0, .inr (5, [.ref hi, .int lane, .int (nI sz)])), (hi, .inl (Γ.2.1, 60, .inl it))] := by
  refine Ct.of mi_X7_areWithin [some (.ref h0), some (.int (nI a)), some (.int (nI k)), some (.int lo), some (.int hi9), none] 1 rfl (Nat.le_of_ble_eq_true rfl) ?_
  intro p e s m args below meth c C hr
  refine ww_aload_n (i := 0) C dX7_areWithin_0 rfl rfl 1 rfl ?_
  refine ww_iload_n (i := 1) C dX7_areWithin_1 rfl rfl 2 rfl ?_
  refine ww_iload_n (i := 2) C dX7_areWithin_2 rfl rfl 3 rfl ?_
  refine ww_callV2p C (c_X7_hasItems l Γ) mi_X7_hasItems im_X7_hasItems se_X7_hasItems ml_X7_26 dX7_areWithin_3 0 rfl rfl rfl (Nat.le_of_ble_eq_true rfl) (Nat.le_of_ble_eq_true rfl) (Nat.le_of_ble_eq_true rfl) ⟨Nat.zero_le _, Nat.zero_le _⟩ [0] rfl (by decide) 6 rfl ?_
  refine ww_if_ne C 11 dX7_areWithin_6 (by decide) 9 rfl (fun h_6 => ?_) (fun h_6 => ?_)
  · skip
    refine ww_iconst (v := 0) C dX7_areWithin_11 (by decide) 12 rfl ?_
    refine ww_istore C dX7_areWithin_12 (by decide) rfl 14 rfl ?_
    refine ww_loop (fun j : Nat => k - j) (fun j => j ≤ k ∧ s_within it a lo hi9 j) (fun _ => [(h0, .inr (5, [.ref hi, .int lane, .int (nI sz)])), (hi, .inl (Γ.2.1, 60, .inl it))]) (fun j => [some (.ref h0), some (.int (nI a)), some (.int (nI k)), some (.int lo), some (.int hi9), some (.int (nI j))]) (0 : Nat) ⟨Nat.zero_le _, trivial⟩ rfl rfl (fun j hj ih => ?_)
    obtain ⟨hj, hw⟩ := hj
    try dsimp only at hj ih ⊢
    refine ww_iload C dX7_areWithin_14 rfl 16 rfl ?_
    refine ww_iload_n (i := 2) C dX7_areWithin_16 rfl rfl 17 rfl ?_
    refine ww_icmp_ge C 55 dX7_areWithin_17 (by decide) 20 rfl (fun h_17 => ?_) (fun h_17 => ?_)
    · skip
      obtain rfl : j = k := eqN h_17 hj (by omega)
      obtain rfl := hr1 hw
      refine ww_iconst (v := 1) C dX7_areWithin_55 (by decide) 56 rfl ?_
      exact ww_zret C hr rfl dX7_areWithin_56 rfl rfl
    · skip
      have hlt : j < k := ltN h_17 (by omega) (by omega)
      have ec : (nI a + nI j).toNatClampNeg = a + j := by rw [nI_add]; exact nI_clamp (by omega)
      refine ww_aload_n (i := 0) C dX7_areWithin_20 rfl rfl 21 rfl ?_
      refine ww_get C fe_X7_11 dX7_areWithin_21 0 rfl rfl 24 rfl ?_
      refine ww_iload_n (i := 1) C dX7_areWithin_24 rfl rfl 25 rfl ?_
      refine ww_iload C dX7_areWithin_25 rfl 27 rfl ?_
      refine ww_iadd C dX7_areWithin_27 28 rfl ?_
      refine ww_iald C dX7_areWithin_28 1 rfl (by rw [nI_add]; exact vp_in_nI (by omega) (by decide)) 29 rfl ?_
      rw [ec]
      refine ww_iload_n (i := 3) C dX7_areWithin_29 rfl rfl 30 rfl ?_
      refine ww_icmp_lt C 47 dX7_areWithin_30 (by decide) 33 rfl (fun h_30 => ?_) (fun h_30 => ?_)
      · skip
        have hz : ¬ s_within it a lo hi9 k := fun q => by
          have := s_within_iff.mp q j hlt
          first
            | exact this.1 h_30
            | exact h_44 this.2
        obtain rfl := hr0 hz
        refine ww_iconst (v := 0) C dX7_areWithin_47 (by decide) 48 rfl ?_
        exact ww_zret C hr rfl dX7_areWithin_48 rfl rfl
      · skip
        refine ww_aload_n (i := 0) C dX7_areWithin_33 rfl rfl 34 rfl ?_
        refine ww_get C fe_X7_11 dX7_areWithin_34 0 rfl rfl 37 rfl ?_
        refine ww_iload_n (i := 1) C dX7_areWithin_37 rfl rfl 38 rfl ?_
        refine ww_iload C dX7_areWithin_38 rfl 40 rfl ?_
        refine ww_iadd C dX7_areWithin_40 41 rfl ?_
        refine ww_iald C dX7_areWithin_41 1 rfl (by rw [nI_add]; exact vp_in_nI (by omega) (by decide)) 42 rfl ?_
        rw [ec]
        refine ww_iload C dX7_areWithin_42 rfl 44 rfl ?_
        refine ww_icmp_le C 49 dX7_areWithin_44 (by decide) 47 rfl (fun h_44 => ?_) (fun h_44 => ?_)
        · skip
          refine ww_iinc (y := 1) C dX7_areWithin_49 rfl (by decide) (by decide) rfl 52 rfl ?_
          refine ww_goto C 14 dX7_areWithin_52 (by decide) ?_
          exact ww_eq rfl (by rw [nI_succ j]; rfl) rfl (ih (j + 1) ⟨by omega, hw, h_30, h_44⟩ (by omega))
        · skip
          have hz : ¬ s_within it a lo hi9 k := fun q => by
            have := s_within_iff.mp q j hlt
            first
              | exact this.1 h_30
              | exact h_44 this.2
          obtain rfl := hr0 hz
          refine ww_iconst (v := 0) C dX7_areWithin_47 (by decide) 48 rfl ?_
          exact ww_zret C hr rfl dX7_areWithin_48 rfl rfl
  · exact absurd (s_has_n hs hak) (bI_e0 h_6)
theorem c_X7_oddOnes (l : Launch) (Γ : Gm) {h0 hi sz a : Nat} {lane : Int32} {it : Nat → Int32} (ha : a + 16 ≤ sz) (hs : sz ≤ 60) : Ct l Γ yX7_oddOnes cX7_oddOnes 4 (some .int) 1 [.ref h0, .int (nI a)] [(h0, .inr (5, [.ref hi, .int lane, .int (nI sz)])), (hi, .inl (Γ.2.1, 60, .inl it))] (some (.int (s_odd it a 16))) [(h0, .inr (5, [.ref hi, .int lane, .int (nI sz)])), (hi, .inl (Γ.2.1, 60, .inl it))] := by
  refine Ct.of mi_X7_oddOnes [some (.ref h0), some (.int (nI a)), none, none] 2 rfl (Nat.le_of_ble_eq_true rfl) ?_
  intro p e s m args below meth c C hr
  refine ww_iconst (v := 0) C dX7_oddOnes_0 (by decide) 1 rfl ?_
  refine ww_istore_n (i := 2) C dX7_oddOnes_1 rfl (by decide) rfl 2 rfl ?_
  refine ww_aload_n (i := 0) C dX7_oddOnes_2 rfl rfl 3 rfl ?_
  refine ww_iload_n (i := 1) C dX7_oddOnes_3 rfl rfl 4 rfl ?_
  refine ww_bipush (v := 16) C dX7_oddOnes_4 (by decide) 6 rfl ?_
  refine ww_callV2p C (c_X7_hasItems l Γ) mi_X7_hasItems im_X7_hasItems se_X7_hasItems ml_X7_26 dX7_oddOnes_6 0 rfl rfl rfl (Nat.le_of_ble_eq_true rfl) (Nat.le_of_ble_eq_true rfl) (Nat.le_of_ble_eq_true rfl) ⟨Nat.zero_le _, Nat.zero_le _⟩ [0] rfl (by decide) 9 rfl ?_
  refine ww_if_eq C 41 dX7_oddOnes_9 (by decide) 12 rfl (fun h_9 => ?_) (fun h_9 => ?_)
  · exact absurd (s_has_n (k := 16) hs ha) (bI_e0 h_9)
  · skip
    refine ww_iconst (v := 0) C dX7_oddOnes_12 (by decide) 13 rfl ?_
    refine ww_istore_n (i := 3) C dX7_oddOnes_13 rfl (by decide) rfl 14 rfl ?_
    refine ww_loop (fun j : Nat => 16 - j) (fun j => j ≤ 16) (fun _ => [(h0, .inr (5, [.ref hi, .int lane, .int (nI sz)])), (hi, .inl (Γ.2.1, 60, .inl it))]) (fun j => [some (.ref h0), some (.int (nI a)), some (.int (s_odd it a j)), some (.int (nI j))]) (0 : Nat) (Nat.zero_le _) rfl rfl (fun j hj ih => ?_)
    try dsimp only at hj ih ⊢
    refine ww_iload_n (i := 3) C dX7_oddOnes_14 rfl rfl 15 rfl ?_
    refine ww_bipush (v := 16) C dX7_oddOnes_15 (by decide) 17 rfl ?_
    refine ww_icmp_ge C 41 dX7_oddOnes_17 (by decide) 20 rfl (fun h_17 => ?_) (fun h_17 => ?_)
    · skip
      obtain rfl : j = 16 := eqN (n := 16) h_17 hj (by decide)
      refine ww_iload_n (i := 2) C dX7_oddOnes_41 rfl rfl 42 rfl ?_
      exact ww_iret C hr dX7_oddOnes_42 rfl rfl
    · skip
      have hlt : j < 16 := ltN (n := 16) h_17 (by decide) (by omega)
      have ec : (nI a + nI j).toNatClampNeg = a + j := by rw [nI_add]; exact nI_clamp (by omega)
      refine ww_iload_n (i := 2) C dX7_oddOnes_20 rfl rfl 21 rfl ?_
      refine ww_aload_n (i := 0) C dX7_oddOnes_21 rfl rfl 22 rfl ?_
      refine ww_get C fe_X7_11 dX7_oddOnes_22 0 rfl rfl 25 rfl ?_
      refine ww_iload_n (i := 1) C dX7_oddOnes_25 rfl rfl 26 rfl ?_
      refine ww_iload_n (i := 3) C dX7_oddOnes_26 rfl rfl 27 rfl ?_
      refine ww_iadd C dX7_oddOnes_27 28 rfl ?_
      refine ww_iald C dX7_oddOnes_28 1 rfl (by rw [nI_add]; exact vp_in_nI (by omega) (by decide)) 29 rfl ?_
      rw [ec]
      refine ww_iconst (v := 1) C dX7_oddOnes_29 (by decide) 30 rfl ?_
      refine ww_iand C dX7_oddOnes_30 31 rfl ?_
      refine ww_iload_n (i := 3) C dX7_oddOnes_31 rfl rfl 32 rfl ?_
      refine ww_ishl C dX7_oddOnes_32 33 rfl ?_
      refine ww_ior C dX7_oddOnes_33 34 rfl ?_
      refine ww_istore_n (i := 2) C dX7_oddOnes_34 rfl (by decide) rfl 35 rfl ?_
      refine ww_iinc (y := 1) C dX7_oddOnes_35 rfl (by decide) (by decide) rfl 38 rfl ?_
      refine ww_goto C 14 dX7_oddOnes_38 (by decide) ?_
      exact ww_eq rfl (by rw [nI_succ j]; rfl) rfl (ih (j + 1) (by omega) (by omega))
theorem c_X7_drawnRows (l : Launch) (Γ : Gm) {h0 hi sz a : Nat} {lane : Int32} {it : Nat → Int32} (ha : a + 16 ≤ sz) (hs : sz ≤ 60) : Ct l Γ yX7_drawnRows cX7_drawnRows 5 (some .long) 1 [.ref h0, .int (nI a)] [(h0, .inr (5, [.ref hi, .int lane, .int (nI sz)])), (hi, .inl (Γ.2.1, 60, .inl it))] (some (.long (s_drw it a 16))) [(h0, .inr (5, [.ref hi, .int lane, .int (nI sz)])), (hi, .inl (Γ.2.1, 60, .inl it))] := by
  refine Ct.of mi_X7_drawnRows [some (.ref h0), some (.int (nI a)), none, none, none] 3 rfl (Nat.le_of_ble_eq_true rfl) ?_
  intro p e s m args below meth c C hr
  refine ww_lconst (v := 0) C dX7_drawnRows_0 (by decide) 1 rfl ?_
  refine ww_lstore_n (i := 2) C dX7_drawnRows_1 rfl (by decide) rfl 2 rfl ?_
  refine ww_aload_n (i := 0) C dX7_drawnRows_2 rfl rfl 3 rfl ?_
  refine ww_iload_n (i := 1) C dX7_drawnRows_3 rfl rfl 4 rfl ?_
  refine ww_bipush (v := 16) C dX7_drawnRows_4 (by decide) 6 rfl ?_
  refine ww_callV2p C (c_X7_hasItems l Γ) mi_X7_hasItems im_X7_hasItems se_X7_hasItems ml_X7_26 dX7_drawnRows_6 0 rfl rfl rfl (Nat.le_of_ble_eq_true rfl) (Nat.le_of_ble_eq_true rfl) (Nat.le_of_ble_eq_true rfl) ⟨Nat.zero_le _, Nat.zero_le _⟩ [0] rfl (by decide) 9 rfl ?_
  refine ww_if_eq C 61 dX7_drawnRows_9 (by decide) 12 rfl (fun h_9 => ?_) (fun h_9 => ?_)
  · exact absurd (s_has_n (k := 16) hs ha) (bI_e0 h_9)
  · skip
    refine ww_iconst (v := 0) C dX7_drawnRows_12 (by decide) 13 rfl ?_
    refine ww_istore C dX7_drawnRows_13 (by decide) rfl 15 rfl ?_
    refine ww_loop (fun j : Nat => 16 - j) (fun j => j ≤ 16) (fun _ => [(h0, .inr (5, [.ref hi, .int lane, .int (nI sz)])), (hi, .inl (Γ.2.1, 60, .inl it))]) (fun j => [some (.ref h0), some (.int (nI a)), some (.long (s_drw it a j)), none, some (.int (nI j))]) (0 : Nat) (Nat.zero_le _) rfl rfl (fun j hj ih => ?_)
    try dsimp only at hj ih ⊢
    refine ww_iload C dX7_drawnRows_15 rfl 17 rfl ?_
    refine ww_bipush (v := 16) C dX7_drawnRows_17 (by decide) 19 rfl ?_
    refine ww_icmp_ge C 61 dX7_drawnRows_19 (by decide) 22 rfl (fun h_19 => ?_) (fun h_19 => ?_)
    · skip
      obtain rfl : j = 16 := eqN (n := 16) h_19 hj (by decide)
      refine ww_lload_n (i := 2) C dX7_drawnRows_61 rfl rfl 62 rfl ?_
      exact ww_lret C hr dX7_drawnRows_62 rfl rfl
    · skip
      have hlt : j < 16 := ltN (n := 16) h_19 (by decide) (by omega)
      have ec : (nI a + nI j).toNatClampNeg = a + j := by rw [nI_add]; exact nI_clamp (by omega)
      refine ww_aload_n (i := 0) C dX7_drawnRows_22 rfl rfl 23 rfl ?_
      refine ww_get C fe_X7_11 dX7_drawnRows_23 0 rfl rfl 26 rfl ?_
      refine ww_iload_n (i := 1) C dX7_drawnRows_26 rfl rfl 27 rfl ?_
      refine ww_iload C dX7_drawnRows_27 rfl 29 rfl ?_
      refine ww_iadd C dX7_drawnRows_29 30 rfl ?_
      refine ww_iald C dX7_drawnRows_30 1 rfl (by rw [nI_add]; exact vp_in_nI (by omega) (by decide)) 31 rfl ?_
      rw [ec]
      refine ww_iconst (v := (-1)) C dX7_drawnRows_31 (by decide) 32 rfl ?_
      refine ww_icmp_ne C 39 dX7_drawnRows_32 (by decide) 35 rfl (fun h_32 => ?_) (fun h_32 => ?_)
      · skip
        refine ww_lload_n (i := 2) C dX7_drawnRows_39 rfl rfl 40 rfl ?_
        refine ww_iload C dX7_drawnRows_40 rfl 42 rfl ?_
        refine ww_aload_n (i := 0) C dX7_drawnRows_42 rfl rfl 43 rfl ?_
        refine ww_get C fe_X7_11 dX7_drawnRows_43 0 rfl rfl 46 rfl ?_
        refine ww_iload_n (i := 1) C dX7_drawnRows_46 rfl rfl 47 rfl ?_
        refine ww_iload C dX7_drawnRows_47 rfl 49 rfl ?_
        refine ww_iadd C dX7_drawnRows_49 50 rfl ?_
        refine ww_iald C dX7_drawnRows_50 1 rfl (by rw [nI_add]; exact vp_in_nI (by omega) (by decide)) 51 rfl ?_
        rw [ec]
        refine ww_callS3p C (c_X2_withFigure l Γ) mi_X2_withFigure st_X2_withFigure ml_X7_35 dX7_drawnRows_51 (Nat.le_of_ble_eq_true rfl) (Nat.le_of_ble_eq_true rfl) (Nat.le_of_ble_eq_true rfl) ⟨Nat.zero_le _, Nat.zero_le _⟩ [] rfl (by decide) 54 rfl ?_
        refine ww_lstore_n (i := 2) C dX7_drawnRows_54 rfl (by decide) rfl 55 rfl ?_
        refine ww_iinc (y := 1) C dX7_drawnRows_55 rfl (by decide) (by decide) rfl 58 rfl ?_
        refine ww_goto C 15 dX7_drawnRows_58 (by decide) ?_
        exact ww_eq rfl (by rw [nI_succ j, s_drw]; first | (rw [if_pos h_32]; rfl) | (rw [if_neg h_32]; rfl)) rfl (ih (j + 1) (by omega) (by omega))
      · skip
        refine ww_lload_n (i := 2) C dX7_drawnRows_35 rfl rfl 36 rfl ?_
        refine ww_goto C 54 dX7_drawnRows_36 (by decide) ?_
        refine ww_lstore_n (i := 2) C dX7_drawnRows_54 rfl (by decide) rfl 55 rfl ?_
        refine ww_iinc (y := 1) C dX7_drawnRows_55 rfl (by decide) (by decide) rfl 58 rfl ?_
        refine ww_goto C 15 dX7_drawnRows_58 (by decide) ?_
        exact ww_eq rfl (by rw [nI_succ j, s_drw]; first | (rw [if_pos h_32]; rfl) | (rw [if_neg h_32]; rfl)) rfl (ih (j + 1) (by omega) (by omega))
theorem c_X7_untornRows (l : Launch) (Γ : Gm) {h0 hi sz a : Nat} {lane : Int32} {it : Nat → Int32} (ha : a + 16 ≤ sz) (hs : sz ≤ 60) : Ct l Γ yX7_untornRows cX7_untornRows 5 (some .long) 1 [.ref h0, .int (nI a)] [(h0, .inr (5, [.ref hi, .int lane, .int (nI sz)])), (hi, .inl (Γ.2.1, 60, .inl it))] (some (.long (s_unt it a 16))) [(h0, .inr (5, [.ref hi, .int lane, .int (nI sz)])), (hi, .inl (Γ.2.1, 60, .inl it))] := by
  refine Ct.of mi_X7_untornRows [some (.ref h0), some (.int (nI a)), none, none, none] 3 rfl (Nat.le_of_ble_eq_true rfl) ?_
  intro p e s m args below meth c C hr
  refine ww_lconst (v := 0) C dX7_untornRows_0 (by decide) 1 rfl ?_
  refine ww_lstore_n (i := 2) C dX7_untornRows_1 rfl (by decide) rfl 2 rfl ?_
  refine ww_aload_n (i := 0) C dX7_untornRows_2 rfl rfl 3 rfl ?_
  refine ww_iload_n (i := 1) C dX7_untornRows_3 rfl rfl 4 rfl ?_
  refine ww_bipush (v := 16) C dX7_untornRows_4 (by decide) 6 rfl ?_
  refine ww_callV2p C (c_X7_hasItems l Γ) mi_X7_hasItems im_X7_hasItems se_X7_hasItems ml_X7_26 dX7_untornRows_6 0 rfl rfl rfl (Nat.le_of_ble_eq_true rfl) (Nat.le_of_ble_eq_true rfl) (Nat.le_of_ble_eq_true rfl) ⟨Nat.zero_le _, Nat.zero_le _⟩ [0] rfl (by decide) 9 rfl ?_
  refine ww_if_eq C 54 dX7_untornRows_9 (by decide) 12 rfl (fun h_9 => ?_) (fun h_9 => ?_)
  · exact absurd (s_has_n (k := 16) hs ha) (bI_e0 h_9)
  · skip
    refine ww_iconst (v := 0) C dX7_untornRows_12 (by decide) 13 rfl ?_
    refine ww_istore C dX7_untornRows_13 (by decide) rfl 15 rfl ?_
    refine ww_loop (fun j : Nat => 16 - j) (fun j => j ≤ 16) (fun _ => [(h0, .inr (5, [.ref hi, .int lane, .int (nI sz)])), (hi, .inl (Γ.2.1, 60, .inl it))]) (fun j => [some (.ref h0), some (.int (nI a)), some (.long (s_unt it a j)), none, some (.int (nI j))]) (0 : Nat) (Nat.zero_le _) rfl rfl (fun j hj ih => ?_)
    try dsimp only at hj ih ⊢
    refine ww_iload C dX7_untornRows_15 rfl 17 rfl ?_
    refine ww_bipush (v := 16) C dX7_untornRows_17 (by decide) 19 rfl ?_
    refine ww_icmp_ge C 54 dX7_untornRows_19 (by decide) 22 rfl (fun h_19 => ?_) (fun h_19 => ?_)
    · skip
      obtain rfl : j = 16 := eqN (n := 16) h_19 hj (by decide)
      refine ww_lload_n (i := 2) C dX7_untornRows_54 rfl rfl 55 rfl ?_
      exact ww_lret C hr dX7_untornRows_55 rfl rfl
    · skip
      have hlt : j < 16 := ltN (n := 16) h_19 (by decide) (by omega)
      have ec : (nI a + nI j).toNatClampNeg = a + j := by rw [nI_add]; exact nI_clamp (by omega)
      refine ww_aload_n (i := 0) C dX7_untornRows_22 rfl rfl 23 rfl ?_
      refine ww_get C fe_X7_11 dX7_untornRows_23 0 rfl rfl 26 rfl ?_
      refine ww_iload_n (i := 1) C dX7_untornRows_26 rfl rfl 27 rfl ?_
      refine ww_iload C dX7_untornRows_27 rfl 29 rfl ?_
      refine ww_iadd C dX7_untornRows_29 30 rfl ?_
      refine ww_iald C dX7_untornRows_30 1 rfl (by rw [nI_add]; exact vp_in_nI (by omega) (by decide)) 31 rfl ?_
      rw [ec]
      refine ww_iconst (v := (-1)) C dX7_untornRows_31 (by decide) 32 rfl ?_
      refine ww_icmp_ne C 39 dX7_untornRows_32 (by decide) 35 rfl (fun h_32 => ?_) (fun h_32 => ?_)
      · skip
        refine ww_lload_n (i := 2) C dX7_untornRows_39 rfl rfl 40 rfl ?_
        refine ww_iload C dX7_untornRows_40 rfl 42 rfl ?_
        refine ww_bipush (v := 15) C dX7_untornRows_42 (by decide) 44 rfl ?_
        refine ww_callS3p C (c_X2_withFigure l Γ) mi_X2_withFigure st_X2_withFigure ml_X7_35 dX7_untornRows_44 (Nat.le_of_ble_eq_true rfl) (Nat.le_of_ble_eq_true rfl) (Nat.le_of_ble_eq_true rfl) ⟨Nat.zero_le _, Nat.zero_le _⟩ [] rfl (by decide) 47 rfl ?_
        refine ww_lstore_n (i := 2) C dX7_untornRows_47 rfl (by decide) rfl 48 rfl ?_
        refine ww_iinc (y := 1) C dX7_untornRows_48 rfl (by decide) (by decide) rfl 51 rfl ?_
        refine ww_goto C 15 dX7_untornRows_51 (by decide) ?_
        exact ww_eq rfl (by rw [nI_succ j, s_unt]; first | (rw [if_pos h_32]; rfl) | (rw [if_neg h_32]; rfl)) rfl (ih (j + 1) (by omega) (by omega))
      · skip
        refine ww_lload_n (i := 2) C dX7_untornRows_35 rfl rfl 36 rfl ?_
        refine ww_goto C 47 dX7_untornRows_36 (by decide) ?_
        refine ww_lstore_n (i := 2) C dX7_untornRows_47 rfl (by decide) rfl 48 rfl ?_
        refine ww_iinc (y := 1) C dX7_untornRows_48 rfl (by decide) (by decide) rfl 51 rfl ?_
        refine ww_goto C 15 dX7_untornRows_51 (by decide) ?_
        exact ww_eq rfl (by rw [nI_succ j, s_unt]; first | (rw [if_pos h_32]; rfl) | (rw [if_neg h_32]; rfl)) rfl (ih (j + 1) (by omega) (by omega))
end
