section Zj_01_tbl
-- ===== PART A: goes FIRST, ahead of the names: the tables' words, and 'selects' of the private methods out of them =====
/-- a private method of a class that the tables say can be made, by its rows of tables_1 -/
def lw_okq (q : MethodName × Nat) : Prop := (q.1.cls ≠ "java/lang/invoke/MethodHandle" ∧ q.1.cls ≠ "java/lang/invoke/VarHandle") ∧ Cond.instantiable q.1.cls q.2 ∈ tables_1 ∧ Cond.privateMethod q.1 ∈ tables_1 ∧ Cond.instanceMethod q.1 ∈ tables_1
theorem lw_p0 : lw_okq (⟨"NoZeroWithin$Tape", "goOn", "()V"⟩, 9) := ⟨⟨by decide +kernel, by decide +kernel⟩, List.mem_of_getElem? (i := 44) (by decide +kernel), List.mem_of_getElem? (i := 240) (by decide +kernel), List.mem_of_getElem? (i := 241) (by decide +kernel)⟩
theorem lw_p1 : lw_okq (⟨"NoZeroWithin$Tape", "byteAt", "(I)I"⟩, 9) := ⟨⟨by decide +kernel, by decide +kernel⟩, List.mem_of_getElem? (i := 44) (by decide +kernel), List.mem_of_getElem? (i := 244) (by decide +kernel), List.mem_of_getElem? (i := 245) (by decide +kernel)⟩
theorem lw_p2 : lw_okq (⟨"NoZeroWithin$Tape", "wordToken", "()I"⟩, 9) := ⟨⟨by decide +kernel, by decide +kernel⟩, List.mem_of_getElem? (i := 44) (by decide +kernel), List.mem_of_getElem? (i := 254) (by decide +kernel), List.mem_of_getElem? (i := 255) (by decide +kernel)⟩
theorem lw_p3 : lw_okq (⟨"NoZeroWithin$Tape", "isWord", "(Ljava/lang/String;)Z"⟩, 9) := ⟨⟨by decide +kernel, by decide +kernel⟩, List.mem_of_getElem? (i := 44) (by decide +kernel), List.mem_of_getElem? (i := 259) (by decide +kernel), List.mem_of_getElem? (i := 260) (by decide +kernel)⟩
theorem lw_p4 : lw_okq (⟨"NoZeroWithin$Tape", "numberToken", "()I"⟩, 9) := ⟨⟨by decide +kernel, by decide +kernel⟩, List.mem_of_getElem? (i := 44) (by decide +kernel), List.mem_of_getElem? (i := 325) (by decide +kernel), List.mem_of_getElem? (i := 326) (by decide +kernel)⟩
theorem lw_p5 : lw_okq (⟨"NoZeroWithin$Tape", "isPart", "(I)Z"⟩, 9) := ⟨⟨by decide +kernel, by decide +kernel⟩, List.mem_of_getElem? (i := 44) (by decide +kernel), List.mem_of_getElem? (i := 332) (by decide +kernel), List.mem_of_getElem? (i := 333) (by decide +kernel)⟩
theorem lw_p6 : lw_okq (⟨"NoZeroWithin$Tape", "isNext", "(I)Z"⟩, 9) := ⟨⟨by decide +kernel, by decide +kernel⟩, List.mem_of_getElem? (i := 44) (by decide +kernel), List.mem_of_getElem? (i := 336) (by decide +kernel), List.mem_of_getElem? (i := 337) (by decide +kernel)⟩
theorem lw_p7 : lw_okq (⟨"NoZeroWithin$Tape", "isE", "(I)Z"⟩, 9) := ⟨⟨by decide +kernel, by decide +kernel⟩, List.mem_of_getElem? (i := 44) (by decide +kernel), List.mem_of_getElem? (i := 340) (by decide +kernel), List.mem_of_getElem? (i := 341) (by decide +kernel)⟩
theorem lw_p8 : lw_okq (⟨"NoZeroWithin$Tape", "isAnd", "(I)Z"⟩, 9) := ⟨⟨by decide +kernel, by decide +kernel⟩, List.mem_of_getElem? (i := 44) (by decide +kernel), List.mem_of_getElem? (i := 344) (by decide +kernel), List.mem_of_getElem? (i := 345) (by decide +kernel)⟩
theorem lw_p9 : lw_okq (⟨"NoZeroWithin$Tape", "isNot", "(I)Z"⟩, 9) := ⟨⟨by decide +kernel, by decide +kernel⟩, List.mem_of_getElem? (i := 44) (by decide +kernel), List.mem_of_getElem? (i := 348) (by decide +kernel), List.mem_of_getElem? (i := 349) (by decide +kernel)⟩
theorem lw_p10 : lw_okq (⟨"NoZeroWithin$Tape", "put", "(I)V"⟩, 9) := ⟨⟨by decide +kernel, by decide +kernel⟩, List.mem_of_getElem? (i := 44) (by decide +kernel), List.mem_of_getElem? (i := 352) (by decide +kernel), List.mem_of_getElem? (i := 353) (by decide +kernel)⟩
theorem lw_p11 : lw_okq (⟨"NoZeroWithin$Tape", "isSum", "(I)Z"⟩, 9) := ⟨⟨by decide +kernel, by decide +kernel⟩, List.mem_of_getElem? (i := 44) (by decide +kernel), List.mem_of_getElem? (i := 356) (by decide +kernel), List.mem_of_getElem? (i := 357) (by decide +kernel)⟩
theorem lw_p12 : lw_okq (⟨"NoZeroWithin$Tape", "isTerm", "(I)Z"⟩, 9) := ⟨⟨by decide +kernel, by decide +kernel⟩, List.mem_of_getElem? (i := 44) (by decide +kernel), List.mem_of_getElem? (i := 360) (by decide +kernel), List.mem_of_getElem? (i := 361) (by decide +kernel)⟩
theorem lw_p13 : lw_okq (⟨"NoZeroWithin$Tape", "isOne", "(I)Z"⟩, 9) := ⟨⟨by decide +kernel, by decide +kernel⟩, List.mem_of_getElem? (i := 44) (by decide +kernel), List.mem_of_getElem? (i := 364) (by decide +kernel), List.mem_of_getElem? (i := 365) (by decide +kernel)⟩
theorem lw_p14 : lw_okq (⟨"NoZeroWithin", "isClerk", "(I)Z"⟩, 14) := ⟨⟨by decide +kernel, by decide +kernel⟩, List.mem_of_getElem? (i := 18) (by decide +kernel), List.mem_of_getElem? (i := 411) (by decide +kernel), List.mem_of_getElem? (i := 412) (by decide +kernel)⟩
theorem lw_p15 : lw_okq (⟨"NoZeroWithin", "handOf", "(I)LNoZeroWithin$Hand;"⟩, 14) := ⟨⟨by decide +kernel, by decide +kernel⟩, List.mem_of_getElem? (i := 18) (by decide +kernel), List.mem_of_getElem? (i := 419) (by decide +kernel), List.mem_of_getElem? (i := 420) (by decide +kernel)⟩
def lw_privs_1 : List (MethodName × Nat) := [(⟨"NoZeroWithin$Tape", "goOn", "()V"⟩, 9), (⟨"NoZeroWithin$Tape", "byteAt", "(I)I"⟩, 9), (⟨"NoZeroWithin$Tape", "wordToken", "()I"⟩, 9), (⟨"NoZeroWithin$Tape", "isWord", "(Ljava/lang/String;)Z"⟩, 9), (⟨"NoZeroWithin$Tape", "numberToken", "()I"⟩, 9), (⟨"NoZeroWithin$Tape", "isPart", "(I)Z"⟩, 9), (⟨"NoZeroWithin$Tape", "isNext", "(I)Z"⟩, 9), (⟨"NoZeroWithin$Tape", "isE", "(I)Z"⟩, 9), (⟨"NoZeroWithin$Tape", "isAnd", "(I)Z"⟩, 9), (⟨"NoZeroWithin$Tape", "isNot", "(I)Z"⟩, 9), (⟨"NoZeroWithin$Tape", "put", "(I)V"⟩, 9), (⟨"NoZeroWithin$Tape", "isSum", "(I)Z"⟩, 9), (⟨"NoZeroWithin$Tape", "isTerm", "(I)Z"⟩, 9), (⟨"NoZeroWithin$Tape", "isOne", "(I)Z"⟩, 9), (⟨"NoZeroWithin", "isClerk", "(I)Z"⟩, 14), (⟨"NoZeroWithin", "handOf", "(I)LNoZeroWithin$Hand;"⟩, 14)]
theorem lw_r1 : ∀ q ∈ lw_privs_1, lw_okq q := List.forall_mem_cons.mpr ⟨lw_p0, List.forall_mem_cons.mpr ⟨lw_p1, List.forall_mem_cons.mpr ⟨lw_p2, List.forall_mem_cons.mpr ⟨lw_p3, List.forall_mem_cons.mpr ⟨lw_p4, List.forall_mem_cons.mpr ⟨lw_p5, List.forall_mem_cons.mpr ⟨lw_p6, List.forall_mem_cons.mpr ⟨lw_p7, List.forall_mem_cons.mpr ⟨lw_p8, List.forall_mem_cons.mpr ⟨lw_p9, List.forall_mem_cons.mpr ⟨lw_p10, List.forall_mem_cons.mpr ⟨lw_p11, List.forall_mem_cons.mpr ⟨lw_p12, List.forall_mem_cons.mpr ⟨lw_p13, List.forall_mem_cons.mpr ⟨lw_p14, List.forall_mem_cons.mpr ⟨lw_p15, fun _ h => absurd h List.not_mem_nil⟩⟩⟩⟩⟩⟩⟩⟩⟩⟩⟩⟩⟩⟩⟩⟩
theorem lw_p16 : lw_okq (⟨"NoZeroWithin", "textAt", "(I)LNoZeroWithin$Text;"⟩, 14) := ⟨⟨by decide +kernel, by decide +kernel⟩, List.mem_of_getElem? (i := 18) (by decide +kernel), List.mem_of_getElem? (i := 427) (by decide +kernel), List.mem_of_getElem? (i := 428) (by decide +kernel)⟩
theorem lw_p17 : lw_okq (⟨"NoZeroWithin$Hand", "turnRow", "()V"⟩, 6) := ⟨⟨by decide +kernel, by decide +kernel⟩, List.mem_of_getElem? (i := 120) (by decide +kernel), List.mem_of_getElem? (i := 489) (by decide +kernel), List.mem_of_getElem? (i := 490) (by decide +kernel)⟩
theorem lw_p18 : lw_okq (⟨"NoZeroWithin", "refusalOfBook", "(I)I"⟩, 14) := ⟨⟨by decide +kernel, by decide +kernel⟩, List.mem_of_getElem? (i := 18) (by decide +kernel), List.mem_of_getElem? (i := 544) (by decide +kernel), List.mem_of_getElem? (i := 545) (by decide +kernel)⟩
theorem lw_p19 : lw_okq (⟨"NoZeroWithin", "refusalOfSheet", "(I)I"⟩, 14) := ⟨⟨by decide +kernel, by decide +kernel⟩, List.mem_of_getElem? (i := 18) (by decide +kernel), List.mem_of_getElem? (i := 548) (by decide +kernel), List.mem_of_getElem? (i := 549) (by decide +kernel)⟩
theorem lw_p20 : lw_okq (⟨"NoZeroWithin", "sheetAt", "(I)LNoZeroWithin$Sheet;"⟩, 14) := ⟨⟨by decide +kernel, by decide +kernel⟩, List.mem_of_getElem? (i := 18) (by decide +kernel), List.mem_of_getElem? (i := 555) (by decide +kernel), List.mem_of_getElem? (i := 556) (by decide +kernel)⟩
theorem lw_p21 : lw_okq (⟨"NoZeroWithin", "refusalOfBookBy", "(II)I"⟩, 14) := ⟨⟨by decide +kernel, by decide +kernel⟩, List.mem_of_getElem? (i := 18) (by decide +kernel), List.mem_of_getElem? (i := 595) (by decide +kernel), List.mem_of_getElem? (i := 596) (by decide +kernel)⟩
theorem lw_p22 : lw_okq (⟨"NoZeroWithin$Debts", "lower", "(III)V"⟩, 2) := ⟨⟨by decide +kernel, by decide +kernel⟩, List.mem_of_getElem? (i := 80) (by decide +kernel), List.mem_of_getElem? (i := 676) (by decide +kernel), List.mem_of_getElem? (i := 677) (by decide +kernel)⟩
theorem lw_p23 : lw_okq (⟨"NoZeroWithin$Debts", "clearThree", "(III)I"⟩, 2) := ⟨⟨by decide +kernel, by decide +kernel⟩, List.mem_of_getElem? (i := 80) (by decide +kernel), List.mem_of_getElem? (i := 685) (by decide +kernel), List.mem_of_getElem? (i := 686) (by decide +kernel)⟩
theorem lw_p24 : lw_okq (⟨"NoZeroWithin", "refusalOfRowsBy", "(II)I"⟩, 14) := ⟨⟨by decide +kernel, by decide +kernel⟩, List.mem_of_getElem? (i := 18) (by decide +kernel), List.mem_of_getElem? (i := 734) (by decide +kernel), List.mem_of_getElem? (i := 735) (by decide +kernel)⟩
theorem lw_p25 : lw_okq (⟨"NoZeroWithin", "refusalOfRows", "(I)I"⟩, 14) := ⟨⟨by decide +kernel, by decide +kernel⟩, List.mem_of_getElem? (i := 18) (by decide +kernel), List.mem_of_getElem? (i := 738) (by decide +kernel), List.mem_of_getElem? (i := 739) (by decide +kernel)⟩
theorem lw_p26 : lw_okq (⟨"NoZeroWithinModel", "next", "()V"⟩, 35) := ⟨⟨by decide +kernel, by decide +kernel⟩, List.mem_of_getElem? (i := 881) (by decide +kernel), List.mem_of_getElem? (i := 891) (by decide +kernel), List.mem_of_getElem? (i := 892) (by decide +kernel)⟩
theorem lw_p27 : lw_okq (⟨"NoZeroWithinModel", "wordFrom", "(II)I"⟩, 35) := ⟨⟨by decide +kernel, by decide +kernel⟩, List.mem_of_getElem? (i := 881) (by decide +kernel), List.mem_of_getElem? (i := 898) (by decide +kernel), List.mem_of_getElem? (i := 899) (by decide +kernel)⟩
theorem lw_p28 : lw_okq (⟨"NoZeroWithinModel", "eRead", "()Z"⟩, 35) := ⟨⟨by decide +kernel, by decide +kernel⟩, List.mem_of_getElem? (i := 881) (by decide +kernel), List.mem_of_getElem? (i := 902) (by decide +kernel), List.mem_of_getElem? (i := 903) (by decide +kernel)⟩
theorem lw_p29 : lw_okq (⟨"NoZeroWithinModel", "puts", "(I)V"⟩, 35) := ⟨⟨by decide +kernel, by decide +kernel⟩, List.mem_of_getElem? (i := 881) (by decide +kernel), List.mem_of_getElem? (i := 907) (by decide +kernel), List.mem_of_getElem? (i := 908) (by decide +kernel)⟩
theorem lw_p30 : lw_okq (⟨"NoZeroWithinModel", "unwinds", "(I)V"⟩, 35) := ⟨⟨by decide +kernel, by decide +kernel⟩, List.mem_of_getElem? (i := 881) (by decide +kernel), List.mem_of_getElem? (i := 911) (by decide +kernel), List.mem_of_getElem? (i := 912) (by decide +kernel)⟩
theorem lw_p31 : lw_okq (⟨"NoZeroWithinModel", "opensOne", "(I)Z"⟩, 35) := ⟨⟨by decide +kernel, by decide +kernel⟩, List.mem_of_getElem? (i := 881) (by decide +kernel), List.mem_of_getElem? (i := 918) (by decide +kernel), List.mem_of_getElem? (i := 919) (by decide +kernel)⟩
def lw_privs_2 : List (MethodName × Nat) := [(⟨"NoZeroWithin", "textAt", "(I)LNoZeroWithin$Text;"⟩, 14), (⟨"NoZeroWithin$Hand", "turnRow", "()V"⟩, 6), (⟨"NoZeroWithin", "refusalOfBook", "(I)I"⟩, 14), (⟨"NoZeroWithin", "refusalOfSheet", "(I)I"⟩, 14), (⟨"NoZeroWithin", "sheetAt", "(I)LNoZeroWithin$Sheet;"⟩, 14), (⟨"NoZeroWithin", "refusalOfBookBy", "(II)I"⟩, 14), (⟨"NoZeroWithin$Debts", "lower", "(III)V"⟩, 2), (⟨"NoZeroWithin$Debts", "clearThree", "(III)I"⟩, 2), (⟨"NoZeroWithin", "refusalOfRowsBy", "(II)I"⟩, 14), (⟨"NoZeroWithin", "refusalOfRows", "(I)I"⟩, 14), (⟨"NoZeroWithinModel", "next", "()V"⟩, 35), (⟨"NoZeroWithinModel", "wordFrom", "(II)I"⟩, 35), (⟨"NoZeroWithinModel", "eRead", "()Z"⟩, 35), (⟨"NoZeroWithinModel", "puts", "(I)V"⟩, 35), (⟨"NoZeroWithinModel", "unwinds", "(I)V"⟩, 35), (⟨"NoZeroWithinModel", "opensOne", "(I)Z"⟩, 35)]
theorem lw_r2 : ∀ q ∈ lw_privs_2, lw_okq q := List.forall_mem_cons.mpr ⟨lw_p16, List.forall_mem_cons.mpr ⟨lw_p17, List.forall_mem_cons.mpr ⟨lw_p18, List.forall_mem_cons.mpr ⟨lw_p19, List.forall_mem_cons.mpr ⟨lw_p20, List.forall_mem_cons.mpr ⟨lw_p21, List.forall_mem_cons.mpr ⟨lw_p22, List.forall_mem_cons.mpr ⟨lw_p23, List.forall_mem_cons.mpr ⟨lw_p24, List.forall_mem_cons.mpr ⟨lw_p25, List.forall_mem_cons.mpr ⟨lw_p26, List.forall_mem_cons.mpr ⟨lw_p27, List.forall_mem_cons.mpr ⟨lw_p28, List.forall_mem_cons.mpr ⟨lw_p29, List.forall_mem_cons.mpr ⟨lw_p30, List.forall_mem_cons.mpr ⟨lw_p31, fun _ h => absurd h List.not_mem_nil⟩⟩⟩⟩⟩⟩⟩⟩⟩⟩⟩⟩⟩⟩⟩⟩
theorem lw_p32 : lw_okq (⟨"NoZeroWithinModel", "holds", "(I)V"⟩, 35) := ⟨⟨by decide +kernel, by decide +kernel⟩, List.mem_of_getElem? (i := 881) (by decide +kernel), List.mem_of_getElem? (i := 922) (by decide +kernel), List.mem_of_getElem? (i := 923) (by decide +kernel)⟩
theorem lw_p33 : lw_okq (⟨"NoZeroWithinModel", "signOf", "()I"⟩, 35) := ⟨⟨by decide +kernel, by decide +kernel⟩, List.mem_of_getElem? (i := 881) (by decide +kernel), List.mem_of_getElem? (i := 926) (by decide +kernel), List.mem_of_getElem? (i := 927) (by decide +kernel)⟩
theorem lw_p34 : lw_okq (⟨"NoZeroWithinModel", "between", "(I)Z"⟩, 35) := ⟨⟨by decide +kernel, by decide +kernel⟩, List.mem_of_getElem? (i := 881) (by decide +kernel), List.mem_of_getElem? (i := 930) (by decide +kernel), List.mem_of_getElem? (i := 931) (by decide +kernel)⟩
theorem lw_p35 : lw_okq (⟨"NoZeroWithinModel", "isClerk", "(I)Z"⟩, 35) := ⟨⟨by decide +kernel, by decide +kernel⟩, List.mem_of_getElem? (i := 881) (by decide +kernel), List.mem_of_getElem? (i := 1067) (by decide +kernel), List.mem_of_getElem? (i := 1068) (by decide +kernel)⟩
theorem lw_p36 : lw_okq (⟨"NoZeroWithinModel", "asksOf", "(IIII)I"⟩, 35) := ⟨⟨by decide +kernel, by decide +kernel⟩, List.mem_of_getElem? (i := 881) (by decide +kernel), List.mem_of_getElem? (i := 1075) (by decide +kernel), List.mem_of_getElem? (i := 1076) (by decide +kernel)⟩
theorem lw_p37 : lw_okq (⟨"NoZeroWithinModel", "says", "(I)I"⟩, 35) := ⟨⟨by decide +kernel, by decide +kernel⟩, List.mem_of_getElem? (i := 881) (by decide +kernel), List.mem_of_getElem? (i := 1079) (by decide +kernel), List.mem_of_getElem? (i := 1080) (by decide +kernel)⟩
theorem lw_p38 : lw_okq (⟨"NoZeroWithinModel", "figuresOf", "(I)I"⟩, 35) := ⟨⟨by decide +kernel, by decide +kernel⟩, List.mem_of_getElem? (i := 881) (by decide +kernel), List.mem_of_getElem? (i := 1097) (by decide +kernel), List.mem_of_getElem? (i := 1098) (by decide +kernel)⟩
theorem lw_p39 : lw_okq (⟨"NoZeroWithinModel", "isTurned", "(I)Z"⟩, 35) := ⟨⟨by decide +kernel, by decide +kernel⟩, List.mem_of_getElem? (i := 881) (by decide +kernel), List.mem_of_getElem? (i := 1101) (by decide +kernel), List.mem_of_getElem? (i := 1102) (by decide +kernel)⟩
theorem lw_p40 : lw_okq (⟨"NoZeroWithinModel", "writes", "(II)V"⟩, 35) := ⟨⟨by decide +kernel, by decide +kernel⟩, List.mem_of_getElem? (i := 881) (by decide +kernel), List.mem_of_getElem? (i := 1109) (by decide +kernel), List.mem_of_getElem? (i := 1110) (by decide +kernel)⟩
theorem lw_p41 : lw_okq (⟨"NoZeroWithinModel", "makesOf", "(II)I"⟩, 35) := ⟨⟨by decide +kernel, by decide +kernel⟩, List.mem_of_getElem? (i := 881) (by decide +kernel), List.mem_of_getElem? (i := 1113) (by decide +kernel), List.mem_of_getElem? (i := 1114) (by decide +kernel)⟩
theorem lw_p42 : lw_okq (⟨"NoZeroWithinModel", "turnsFigures", "()V"⟩, 35) := ⟨⟨by decide +kernel, by decide +kernel⟩, List.mem_of_getElem? (i := 881) (by decide +kernel), List.mem_of_getElem? (i := 1117) (by decide +kernel), List.mem_of_getElem? (i := 1118) (by decide +kernel)⟩
theorem lw_p43 : lw_okq (⟨"NoZeroWithinModel", "readsBy", "(IZ)J"⟩, 35) := ⟨⟨by decide +kernel, by decide +kernel⟩, List.mem_of_getElem? (i := 881) (by decide +kernel), List.mem_of_getElem? (i := 1127) (by decide +kernel), List.mem_of_getElem? (i := 1128) (by decide +kernel)⟩
theorem lw_p44 : lw_okq (⟨"NoZeroWithinModel", "plainOf", "(II)J"⟩, 35) := ⟨⟨by decide +kernel, by decide +kernel⟩, List.mem_of_getElem? (i := 881) (by decide +kernel), List.mem_of_getElem? (i := 1136) (by decide +kernel), List.mem_of_getElem? (i := 1137) (by decide +kernel)⟩
theorem lw_p45 : lw_okq (⟨"NoZeroWithinModel", "addsOf", "(III)J"⟩, 35) := ⟨⟨by decide +kernel, by decide +kernel⟩, List.mem_of_getElem? (i := 881) (by decide +kernel), List.mem_of_getElem? (i := 1144) (by decide +kernel), List.mem_of_getElem? (i := 1145) (by decide +kernel)⟩
theorem lw_p46 : lw_okq (⟨"NoZeroWithinModel", "bookWrong", "(I)I"⟩, 35) := ⟨⟨by decide +kernel, by decide +kernel⟩, List.mem_of_getElem? (i := 881) (by decide +kernel), List.mem_of_getElem? (i := 1160) (by decide +kernel), List.mem_of_getElem? (i := 1161) (by decide +kernel)⟩
theorem lw_p47 : lw_okq (⟨"NoZeroWithinModel", "hisBook", "(II)J"⟩, 35) := ⟨⟨by decide +kernel, by decide +kernel⟩, List.mem_of_getElem? (i := 881) (by decide +kernel), List.mem_of_getElem? (i := 1164) (by decide +kernel), List.mem_of_getElem? (i := 1165) (by decide +kernel)⟩
def lw_privs_3 : List (MethodName × Nat) := [(⟨"NoZeroWithinModel", "holds", "(I)V"⟩, 35), (⟨"NoZeroWithinModel", "signOf", "()I"⟩, 35), (⟨"NoZeroWithinModel", "between", "(I)Z"⟩, 35), (⟨"NoZeroWithinModel", "isClerk", "(I)Z"⟩, 35), (⟨"NoZeroWithinModel", "asksOf", "(IIII)I"⟩, 35), (⟨"NoZeroWithinModel", "says", "(I)I"⟩, 35), (⟨"NoZeroWithinModel", "figuresOf", "(I)I"⟩, 35), (⟨"NoZeroWithinModel", "isTurned", "(I)Z"⟩, 35), (⟨"NoZeroWithinModel", "writes", "(II)V"⟩, 35), (⟨"NoZeroWithinModel", "makesOf", "(II)I"⟩, 35), (⟨"NoZeroWithinModel", "turnsFigures", "()V"⟩, 35), (⟨"NoZeroWithinModel", "readsBy", "(IZ)J"⟩, 35), (⟨"NoZeroWithinModel", "plainOf", "(II)J"⟩, 35), (⟨"NoZeroWithinModel", "addsOf", "(III)J"⟩, 35), (⟨"NoZeroWithinModel", "bookWrong", "(I)I"⟩, 35), (⟨"NoZeroWithinModel", "hisBook", "(II)J"⟩, 35)]
theorem lw_r3 : ∀ q ∈ lw_privs_3, lw_okq q := List.forall_mem_cons.mpr ⟨lw_p32, List.forall_mem_cons.mpr ⟨lw_p33, List.forall_mem_cons.mpr ⟨lw_p34, List.forall_mem_cons.mpr ⟨lw_p35, List.forall_mem_cons.mpr ⟨lw_p36, List.forall_mem_cons.mpr ⟨lw_p37, List.forall_mem_cons.mpr ⟨lw_p38, List.forall_mem_cons.mpr ⟨lw_p39, List.forall_mem_cons.mpr ⟨lw_p40, List.forall_mem_cons.mpr ⟨lw_p41, List.forall_mem_cons.mpr ⟨lw_p42, List.forall_mem_cons.mpr ⟨lw_p43, List.forall_mem_cons.mpr ⟨lw_p44, List.forall_mem_cons.mpr ⟨lw_p45, List.forall_mem_cons.mpr ⟨lw_p46, List.forall_mem_cons.mpr ⟨lw_p47, fun _ h => absurd h List.not_mem_nil⟩⟩⟩⟩⟩⟩⟩⟩⟩⟩⟩⟩⟩⟩⟩⟩
theorem lw_p48 : lw_okq (⟨"NoZeroWithinModel", "ourBook", "(I)J"⟩, 35) := ⟨⟨by decide +kernel, by decide +kernel⟩, List.mem_of_getElem? (i := 881) (by decide +kernel), List.mem_of_getElem? (i := 1168) (by decide +kernel), List.mem_of_getElem? (i := 1169) (by decide +kernel)⟩
theorem lw_p49 : lw_okq (⟨"NoZeroWithinModel", "slipped", "(II)I"⟩, 35) := ⟨⟨by decide +kernel, by decide +kernel⟩, List.mem_of_getElem? (i := 881) (by decide +kernel), List.mem_of_getElem? (i := 1189) (by decide +kernel), List.mem_of_getElem? (i := 1190) (by decide +kernel)⟩
theorem lw_p50 : lw_okq (⟨"NoZeroWithinModel", "figuresAll", "(II)I"⟩, 35) := ⟨⟨by decide +kernel, by decide +kernel⟩, List.mem_of_getElem? (i := 881) (by decide +kernel), List.mem_of_getElem? (i := 1203) (by decide +kernel), List.mem_of_getElem? (i := 1204) (by decide +kernel)⟩
theorem lw_p51 : lw_okq (⟨"NoZeroWithinModel", "ringsNow", "()I"⟩, 35) := ⟨⟨by decide +kernel, by decide +kernel⟩, List.mem_of_getElem? (i := 881) (by decide +kernel), List.mem_of_getElem? (i := 1226) (by decide +kernel), List.mem_of_getElem? (i := 1227) (by decide +kernel)⟩
theorem lw_p52 : lw_okq (⟨"NoZeroWithinModel", "reachedFrom", "(I)I"⟩, 35) := ⟨⟨by decide +kernel, by decide +kernel⟩, List.mem_of_getElem? (i := 881) (by decide +kernel), List.mem_of_getElem? (i := 1230) (by decide +kernel), List.mem_of_getElem? (i := 1231) (by decide +kernel)⟩
theorem lw_p53 : lw_okq (⟨"NoZeroWithinModel", "lastFigure", "(II)I"⟩, 35) := ⟨⟨by decide +kernel, by decide +kernel⟩, List.mem_of_getElem? (i := 881) (by decide +kernel), List.mem_of_getElem? (i := 1270) (by decide +kernel), List.mem_of_getElem? (i := 1271) (by decide +kernel)⟩
theorem lw_p54 : lw_okq (⟨"NoZeroWithinModel", "toldWrong", "(II)I"⟩, 35) := ⟨⟨by decide +kernel, by decide +kernel⟩, List.mem_of_getElem? (i := 881) (by decide +kernel), List.mem_of_getElem? (i := 1278) (by decide +kernel), List.mem_of_getElem? (i := 1279) (by decide +kernel)⟩
theorem lw_p55 : lw_okq (⟨"NoZeroWithinModel", "sheetWrong", "(I)I"⟩, 35) := ⟨⟨by decide +kernel, by decide +kernel⟩, List.mem_of_getElem? (i := 881) (by decide +kernel), List.mem_of_getElem? (i := 1282) (by decide +kernel), List.mem_of_getElem? (i := 1283) (by decide +kernel)⟩
theorem lw_p56 : lw_okq (⟨"NoZeroWithinModel", "unlike", "(II)I"⟩, 35) := ⟨⟨by decide +kernel, by decide +kernel⟩, List.mem_of_getElem? (i := 881) (by decide +kernel), List.mem_of_getElem? (i := 1286) (by decide +kernel), List.mem_of_getElem? (i := 1287) (by decide +kernel)⟩
theorem lw_p57 : lw_okq (⟨"NoZeroWithinModel", "slipsBy", "(III)J"⟩, 35) := ⟨⟨by decide +kernel, by decide +kernel⟩, List.mem_of_getElem? (i := 881) (by decide +kernel), List.mem_of_getElem? (i := 1312) (by decide +kernel), List.mem_of_getElem? (i := 1313) (by decide +kernel)⟩
def lw_privs_4 : List (MethodName × Nat) := [(⟨"NoZeroWithinModel", "ourBook", "(I)J"⟩, 35), (⟨"NoZeroWithinModel", "slipped", "(II)I"⟩, 35), (⟨"NoZeroWithinModel", "figuresAll", "(II)I"⟩, 35), (⟨"NoZeroWithinModel", "ringsNow", "()I"⟩, 35), (⟨"NoZeroWithinModel", "reachedFrom", "(I)I"⟩, 35), (⟨"NoZeroWithinModel", "lastFigure", "(II)I"⟩, 35), (⟨"NoZeroWithinModel", "toldWrong", "(II)I"⟩, 35), (⟨"NoZeroWithinModel", "sheetWrong", "(I)I"⟩, 35), (⟨"NoZeroWithinModel", "unlike", "(II)I"⟩, 35), (⟨"NoZeroWithinModel", "slipsBy", "(III)J"⟩, 35)]
theorem lw_r4 : ∀ q ∈ lw_privs_4, lw_okq q := List.forall_mem_cons.mpr ⟨lw_p48, List.forall_mem_cons.mpr ⟨lw_p49, List.forall_mem_cons.mpr ⟨lw_p50, List.forall_mem_cons.mpr ⟨lw_p51, List.forall_mem_cons.mpr ⟨lw_p52, List.forall_mem_cons.mpr ⟨lw_p53, List.forall_mem_cons.mpr ⟨lw_p54, List.forall_mem_cons.mpr ⟨lw_p55, List.forall_mem_cons.mpr ⟨lw_p56, List.forall_mem_cons.mpr ⟨lw_p57, fun _ h => absurd h List.not_mem_nil⟩⟩⟩⟩⟩⟩⟩⟩⟩⟩
def lw_privs : List (MethodName × Nat) := lw_privs_1 ++ (lw_privs_2 ++ (lw_privs_3 ++ (lw_privs_4)))
def lw_tbl : List Cond := k2_sels lw_privs ++ tables_1
theorem lw_privs_ok : ∀ q ∈ lw_privs, lw_okq q := by
  show ∀ q ∈ lw_privs_1 ++ (lw_privs_2 ++ (lw_privs_3 ++ (lw_privs_4))), lw_okq q
  exact List.forall_mem_append.mpr ⟨lw_r1, List.forall_mem_append.mpr ⟨lw_r2, List.forall_mem_append.mpr ⟨lw_r3, lw_r4⟩⟩⟩
end Zj_01_tbl
section Zj_02_names
def RX0 : String := "NoZeroWithin$Debts"
def TX0 : u_T := fun k => match k with
  | 0 => ("NoZeroWithin$Debts", "owed", "[I", true)
  | _ => ("NoZeroWithin$Debts", "reach", "[I", true)
def tyX0 : Nat → FieldType := fun k => match k with
  | 0 => .array .int
  | _ => .array .int
abbrev wsX00 : List Cond := u_ws RX0 TX0 2
theorem nmX0 : ∀ a, a < 2 → ∀ b, b < 2 → a ≠ b → (TX0 a).2.1 ≠ (TX0 b).2.1 := by decide +kernel
theorem tyX0_ok : ∀ k, k < 2 → parseFieldDescriptor (TX0 k).2.2.1 = some (tyX0 k) := by decide +kernel
abbrev cX0_init : ByteArray := prog_2_method_1_code
def yX0_init : MethodName := ⟨RX0, "<init>", "()V"⟩
abbrev cX0_of : ByteArray := prog_2_method_2_code
def yX0_of : MethodName := ⟨RX0, "of", "(II)I"⟩
abbrev cX0_become : ByteArray := prog_2_method_3_code
def yX0_become : MethodName := ⟨RX0, "become", "(III)V"⟩
abbrev cX0_allOf : ByteArray := prog_2_method_4_code
def yX0_allOf : MethodName := ⟨RX0, "allOf", "(I)I"⟩
abbrev cX0_ringBits : ByteArray := prog_2_method_5_code
def yX0_ringBits : MethodName := ⟨RX0, "ringBits", "()I"⟩
abbrev cX0_ringFolkWithout : ByteArray := prog_2_method_6_code
def yX0_ringFolkWithout : MethodName := ⟨RX0, "ringFolkWithout", "(II)I"⟩
abbrev cX0_clearPairs : ByteArray := prog_2_method_7_code
def yX0_clearPairs : MethodName := ⟨RX0, "clearPairs", "()I"⟩
abbrev cX0_clearThrees : ByteArray := prog_2_method_8_code
def yX0_clearThrees : MethodName := ⟨RX0, "clearThrees", "()I"⟩
abbrev cX0_clearThree : ByteArray := prog_2_method_9_code
def yX0_clearThree : MethodName := ⟨RX0, "clearThree", "(III)I"⟩
abbrev cX0_lower : ByteArray := prog_2_method_10_code
def yX0_lower : MethodName := ⟨RX0, "lower", "(III)V"⟩
abbrev cX0_copyTo : ByteArray := prog_2_method_11_code
def yX0_copyTo : MethodName := ⟨RX0, "copyTo", "(LNoZeroWithin$Debts;)V"⟩
def RX1 : String := "NoZeroWithin$Hand"
def TX1 : u_T := fun k => match k with
  | 0 => ("NoZeroWithin$Hand", "kind", "I", false)
  | 1 => ("NoZeroWithin$Hand", "law", "LNoZeroWithin$Text;", false)
  | 2 => ("NoZeroWithin$Hand", "names", "[I", true)
  | 3 => ("NoZeroWithin$Hand", "stack", "[I", true)
  | 4 => ("NoZeroWithin$Hand", "row", "[I", true)
  | _ => ("NoZeroWithin$Hand", "many", "I", false)
def tyX1 : Nat → FieldType := fun k => match k with
  | 0 => .int
  | 1 => .object "NoZeroWithin$Text"
  | 2 => .array .int
  | 3 => .array .int
  | 4 => .array .int
  | _ => .int
abbrev wsX10 : List Cond := u_ws RX1 TX1 6
theorem nmX1 : ∀ a, a < 6 → ∀ b, b < 6 → a ≠ b → (TX1 a).2.1 ≠ (TX1 b).2.1 := by decide +kernel
theorem tyX1_ok : ∀ k, k < 6 → parseFieldDescriptor (TX1 k).2.2.1 = some (tyX1 k) := by decide +kernel
abbrev cX1_init : ByteArray := prog_3_method_1_code
def yX1_init : MethodName := ⟨RX1, "<init>", "(LNoZeroWithin$Text;)V"⟩
abbrev cX1_become : ByteArray := prog_3_method_2_code
def yX1_become : MethodName := ⟨RX1, "become", "(III)V"⟩
abbrev cX1_liveBy : ByteArray := prog_3_method_3_code
def yX1_liveBy : MethodName := ⟨RX1, "liveBy", "(IILNoZeroWithin$Text;)V"⟩
abbrev cX1_figures : ByteArray := prog_3_method_4_code
def yX1_figures : MethodName := ⟨RX1, "figures", "()I"⟩
abbrev cX1_isTurned : ByteArray := prog_3_method_5_code
def yX1_isTurned : MethodName := ⟨RX1, "isTurned", "()Z"⟩
abbrev cX1_says : ByteArray := prog_3_method_6_code
def yX1_says : MethodName := ⟨RX1, "says", "(III)I"⟩
abbrev cX1_makes : ByteArray := prog_3_method_7_code
def yX1_makes : MethodName := ⟨RX1, "makes", "(I)I"⟩
abbrev cX1_write : ByteArray := prog_3_method_8_code
def yX1_write : MethodName := ⟨RX1, "write", "(I)V"⟩
abbrev cX1_turnRow : ByteArray := prog_3_method_9_code
def yX1_turnRow : MethodName := ⟨RX1, "turnRow", "()V"⟩
abbrev cX1_many : ByteArray := prog_3_method_10_code
def yX1_many : MethodName := ⟨RX1, "many", "()I"⟩
abbrev cX1_written : ByteArray := prog_3_method_11_code
def yX1_written : MethodName := ⟨RX1, "written", "(I)I"⟩
abbrev cX1_slipAt : ByteArray := prog_3_method_12_code
def yX1_slipAt : MethodName := ⟨RX1, "slipAt", "(I)V"⟩
abbrev cX1_putBack : ByteArray := prog_3_method_13_code
def yX1_putBack : MethodName := ⟨RX1, "putBack", "(II)V"⟩
abbrev cX1_slipByLots : ByteArray := prog_3_method_14_code
def yX1_slipByLots : MethodName := ⟨RX1, "slipByLots", "(II)V"⟩
abbrev cX1_readWith : ByteArray := prog_3_method_15_code
def yX1_readWith : MethodName := ⟨RX1, "readWith", "(IZ)J"⟩
abbrev cX1_readHimself : ByteArray := prog_3_method_16_code
def yX1_readHimself : MethodName := ⟨RX1, "readHimself", "()J"⟩
abbrev cX1_readPlainly : ByteArray := prog_3_method_17_code
def yX1_readPlainly : MethodName := ⟨RX1, "readPlainly", "()J"⟩
def RX2 : String := "NoZeroWithin$Image"
def TX2 : u_T := fun k => match k with
  | 0 => ("NoZeroWithin$Image", "there", "Z", false)
  | 1 => ("NoZeroWithin$Image", "base", "I", false)
  | 2 => ("NoZeroWithin$Image", "year", "I", false)
  | 3 => ("NoZeroWithin$Image", "clerks", "I", false)
  | 4 => ("NoZeroWithin$Image", "lawNumber", "I", false)
  | _ => ("NoZeroWithin$Image", "debts", "LNoZeroWithin$Debts;", true)
def tyX2 : Nat → FieldType := fun k => match k with
  | 0 => .boolean
  | 1 => .int
  | 2 => .int
  | 3 => .int
  | 4 => .int
  | _ => .object "NoZeroWithin$Debts"
abbrev wsX20 : List Cond := u_ws RX2 TX2 6
theorem nmX2 : ∀ a, a < 6 → ∀ b, b < 6 → a ≠ b → (TX2 a).2.1 ≠ (TX2 b).2.1 := by decide +kernel
theorem tyX2_ok : ∀ k, k < 6 → parseFieldDescriptor (TX2 k).2.2.1 = some (tyX2 k) := by decide +kernel
abbrev cX2_init : ByteArray := prog_4_method_1_code
def yX2_init : MethodName := ⟨RX2, "<init>", "()V"⟩
abbrev cX2_keep : ByteArray := prog_4_method_2_code
def yX2_keep : MethodName := ⟨RX2, "keep", "(IIIILNoZeroWithin$Debts;)V"⟩
abbrev cX2_restore : ByteArray := prog_4_method_3_code
def yX2_restore : MethodName := ⟨RX2, "restore", "(LNoZeroWithin$Debts;)V"⟩
abbrev cX2_isThere : ByteArray := prog_4_method_4_code
def yX2_isThere : MethodName := ⟨RX2, "isThere", "()Z"⟩
abbrev cX2_base : ByteArray := prog_4_method_5_code
def yX2_base : MethodName := ⟨RX2, "base", "()I"⟩
abbrev cX2_year : ByteArray := prog_4_method_6_code
def yX2_year : MethodName := ⟨RX2, "year", "()I"⟩
abbrev cX2_clerks : ByteArray := prog_4_method_7_code
def yX2_clerks : MethodName := ⟨RX2, "clerks", "()I"⟩
abbrev cX2_lawNumber : ByteArray := prog_4_method_8_code
def yX2_lawNumber : MethodName := ⟨RX2, "lawNumber", "()I"⟩
def RX3 : String := "NoZeroWithin$Sheet"
def TX3 : u_T := fun k => match k with
  | 0 => ("NoZeroWithin$Sheet", "numbers", "[I", true)
  | 1 => ("NoZeroWithin$Sheet", "sort", "I", false)
  | _ => ("NoZeroWithin$Sheet", "size", "I", false)
def tyX3 : Nat → FieldType := fun k => match k with
  | 0 => .array .int
  | 1 => .int
  | _ => .int
abbrev wsX30 : List Cond := u_ws RX3 TX3 3
theorem nmX3 : ∀ a, a < 3 → ∀ b, b < 3 → a ≠ b → (TX3 a).2.1 ≠ (TX3 b).2.1 := by decide +kernel
theorem tyX3_ok : ∀ k, k < 3 → parseFieldDescriptor (TX3 k).2.2.1 = some (tyX3 k) := by decide +kernel
abbrev cX3_init : ByteArray := prog_5_method_1_code
def yX3_init : MethodName := ⟨RX3, "<init>", "()V"⟩
abbrev cX3_become : ByteArray := prog_5_method_2_code
def yX3_become : MethodName := ⟨RX3, "become", "(II)V"⟩
abbrev cX3_isMissing : ByteArray := prog_5_method_3_code
def yX3_isMissing : MethodName := ⟨RX3, "isMissing", "()Z"⟩
abbrev cX3_sort : ByteArray := prog_5_method_4_code
def yX3_sort : MethodName := ⟨RX3, "sort", "()I"⟩
abbrev cX3_size : ByteArray := prog_5_method_5_code
def yX3_size : MethodName := ⟨RX3, "size", "()I"⟩
abbrev cX3_has : ByteArray := prog_5_method_6_code
def yX3_has : MethodName := ⟨RX3, "has", "(I)Z"⟩
abbrev cX3_hasRun : ByteArray := prog_5_method_7_code
def yX3_hasRun : MethodName := ⟨RX3, "hasRun", "(II)Z"⟩
abbrev cX3_at : ByteArray := prog_5_method_8_code
def yX3_at : MethodName := ⟨RX3, "at", "(I)I"⟩
abbrev cX3_store : ByteArray := prog_5_method_9_code
def yX3_store : MethodName := ⟨RX3, "store", "(II)V"⟩
abbrev cX3_copyTo : ByteArray := prog_5_method_10_code
def yX3_copyTo : MethodName := ⟨RX3, "copyTo", "(LNoZeroWithin$Sheet;III)V"⟩
def RX4 : String := "NoZeroWithin$Tape"
def TX4 : u_T := fun k => match k with
  | 0 => ("NoZeroWithin$Tape", "bytes", "[I", true)
  | 1 => ("NoZeroWithin$Tape", "size", "I", false)
  | 2 => ("NoZeroWithin$Tape", "at", "I", false)
  | 3 => ("NoZeroWithin$Tape", "next", "I", false)
  | 4 => ("NoZeroWithin$Tape", "token", "I", false)
  | 5 => ("NoZeroWithin$Tape", "code", "[I", true)
  | 6 => ("NoZeroWithin$Tape", "codeSize", "I", false)
  | 7 => ("NoZeroWithin$Tape", "slipsAt", "I", false)
  | _ => ("NoZeroWithin$Tape", "costsAt", "I", false)
def tyX4 : Nat → FieldType := fun k => match k with
  | 0 => .array .int
  | 1 => .int
  | 2 => .int
  | 3 => .int
  | 4 => .int
  | 5 => .array .int
  | 6 => .int
  | 7 => .int
  | _ => .int
abbrev wsX40 : List Cond := u_ws RX4 TX4 9
theorem nmX4 : ∀ a, a < 9 → ∀ b, b < 9 → a ≠ b → (TX4 a).2.1 ≠ (TX4 b).2.1 := by decide +kernel
theorem tyX4_ok : ∀ k, k < 9 → parseFieldDescriptor (TX4 k).2.2.1 = some (tyX4 k) := by decide +kernel
abbrev cX4_init : ByteArray := prog_6_method_1_code
def yX4_init : MethodName := ⟨RX4, "<init>", "()V"⟩
abbrev cX4_size : ByteArray := prog_6_method_2_code
def yX4_size : MethodName := ⟨RX4, "size", "()I"⟩
abbrev cX4_append : ByteArray := prog_6_method_3_code
def yX4_append : MethodName := ⟨RX4, "append", "(I)V"⟩
abbrev cX4_becomeEmpty : ByteArray := prog_6_method_4_code
def yX4_becomeEmpty : MethodName := ⟨RX4, "becomeEmpty", "()V"⟩
abbrev cX4_isText : ByteArray := prog_6_method_5_code
def yX4_isText : MethodName := ⟨RX4, "isText", "()Z"⟩
abbrev cX4_faultPlace : ByteArray := prog_6_method_6_code
def yX4_faultPlace : MethodName := ⟨RX4, "faultPlace", "()I"⟩
abbrev cX4_result : ByteArray := prog_6_method_7_code
def yX4_result : MethodName := ⟨RX4, "result", "()LNoZeroWithin$Text;"⟩
abbrev cX4_isPart : ByteArray := prog_6_method_8_code
def yX4_isPart : MethodName := ⟨RX4, "isPart", "(I)Z"⟩
abbrev cX4_isNext : ByteArray := prog_6_method_9_code
def yX4_isNext : MethodName := ⟨RX4, "isNext", "(I)Z"⟩
abbrev cX4_isE : ByteArray := prog_6_method_10_code
def yX4_isE : MethodName := ⟨RX4, "isE", "(I)Z"⟩
abbrev cX4_isAnd : ByteArray := prog_6_method_11_code
def yX4_isAnd : MethodName := ⟨RX4, "isAnd", "(I)Z"⟩
abbrev cX4_isNot : ByteArray := prog_6_method_12_code
def yX4_isNot : MethodName := ⟨RX4, "isNot", "(I)Z"⟩
abbrev cX4_isSum : ByteArray := prog_6_method_13_code
def yX4_isSum : MethodName := ⟨RX4, "isSum", "(I)Z"⟩
abbrev cX4_isTerm : ByteArray := prog_6_method_14_code
def yX4_isTerm : MethodName := ⟨RX4, "isTerm", "(I)Z"⟩
abbrev cX4_isOne : ByteArray := prog_6_method_15_code
def yX4_isOne : MethodName := ⟨RX4, "isOne", "(I)Z"⟩
abbrev cX4_put : ByteArray := prog_6_method_16_code
def yX4_put : MethodName := ⟨RX4, "put", "(I)V"⟩
abbrev cX4_goOn : ByteArray := prog_6_method_17_code
def yX4_goOn : MethodName := ⟨RX4, "goOn", "()V"⟩
abbrev cX4_wordToken : ByteArray := prog_6_method_18_code
def yX4_wordToken : MethodName := ⟨RX4, "wordToken", "()I"⟩
abbrev cX4_isWord : ByteArray := prog_6_method_19_code
def yX4_isWord : MethodName := ⟨RX4, "isWord", "(Ljava/lang/String;)Z"⟩
abbrev cX4_numberToken : ByteArray := prog_6_method_20_code
def yX4_numberToken : MethodName := ⟨RX4, "numberToken", "()I"⟩
abbrev cX4_signToken : ByteArray := prog_6_method_21_code
def yX4_signToken : MethodName := ⟨RX4, "signToken", "(I)I"⟩
abbrev cX4_byteAt : ByteArray := prog_6_method_22_code
def yX4_byteAt : MethodName := ⟨RX4, "byteAt", "(I)I"⟩
abbrev cX4_isBlank : ByteArray := prog_6_method_23_code
def yX4_isBlank : MethodName := ⟨RX4, "isBlank", "(I)Z"⟩
abbrev cX4_isLetter : ByteArray := prog_6_method_24_code
def yX4_isLetter : MethodName := ⟨RX4, "isLetter", "(I)Z"⟩
abbrev cX4_isDigit : ByteArray := prog_6_method_25_code
def yX4_isDigit : MethodName := ⟨RX4, "isDigit", "(I)Z"⟩
def RX5 : String := "NoZeroWithin$Text"
def TX5 : u_T := fun k => match k with
  | 0 => ("NoZeroWithin$Text", "code", "[I", true)
  | 1 => ("NoZeroWithin$Text", "slipsAt", "I", true)
  | _ => ("NoZeroWithin$Text", "costsAt", "I", true)
def tyX5 : Nat → FieldType := fun k => match k with
  | 0 => .array .int
  | 1 => .int
  | _ => .int
abbrev wsX50 : List Cond := u_ws RX5 TX5 3
theorem nmX5 : ∀ a, a < 3 → ∀ b, b < 3 → a ≠ b → (TX5 a).2.1 ≠ (TX5 b).2.1 := by decide +kernel
theorem tyX5_ok : ∀ k, k < 3 → parseFieldDescriptor (TX5 k).2.2.1 = some (tyX5 k) := by decide +kernel
abbrev cX5_init : ByteArray := prog_7_method_1_code
def yX5_init : MethodName := ⟨RX5, "<init>", "([III)V"⟩
abbrev cX5_reckon : ByteArray := prog_7_method_2_code
def yX5_reckon : MethodName := ⟨RX5, "reckon", "(I[I[I)I"⟩
abbrev cX5_nameValue : ByteArray := prog_7_method_3_code
def yX5_nameValue : MethodName := ⟨RX5, "nameValue", "(I[I)I"⟩
abbrev cX5_joined : ByteArray := prog_7_method_4_code
def yX5_joined : MethodName := ⟨RX5, "joined", "(III)I"⟩
def RX6 : String := "NoZeroWithin"
def TX6 : u_T := fun k => match k with
  | 0 => ("NoZeroWithin", "base", "I", false)
  | 1 => ("NoZeroWithin", "year", "I", false)
  | 2 => ("NoZeroWithin", "clerks", "I", false)
  | 3 => ("NoZeroWithin", "kindOf", "[I", true)
  | 4 => ("NoZeroWithin", "moreOf", "[I", true)
  | 5 => ("NoZeroWithin", "firstText", "LNoZeroWithin$Text;", true)
  | 6 => ("NoZeroWithin", "texts", "[LNoZeroWithin$Text;", true)
  | 7 => ("NoZeroWithin", "textCount", "I", false)
  | 8 => ("NoZeroWithin", "lawNumber", "I", false)
  | 9 => ("NoZeroWithin", "tape", "LNoZeroWithin$Tape;", true)
  | 10 => ("NoZeroWithin", "sheets", "[LNoZeroWithin$Sheet;", true)
  | 11 => ("NoZeroWithin", "debts", "LNoZeroWithin$Debts;", true)
  | 12 => ("NoZeroWithin", "kept", "LNoZeroWithin$Image;", true)
  | _ => ("NoZeroWithin", "hand", "LNoZeroWithin$Hand;", true)
def tyX6 : Nat → FieldType := fun k => match k with
  | 0 => .int
  | 1 => .int
  | 2 => .int
  | 3 => .array .int
  | 4 => .array .int
  | 5 => .object "NoZeroWithin$Text"
  | 6 => .array (.object "NoZeroWithin$Text")
  | 7 => .int
  | 8 => .int
  | 9 => .object "NoZeroWithin$Tape"
  | 10 => .array (.object "NoZeroWithin$Sheet")
  | 11 => .object "NoZeroWithin$Debts"
  | 12 => .object "NoZeroWithin$Image"
  | _ => .object "NoZeroWithin$Hand"
abbrev wsX60 : List Cond := u_ws RX6 TX6 14
theorem nmX6 : ∀ a, a < 14 → ∀ b, b < 14 → a ≠ b → (TX6 a).2.1 ≠ (TX6 b).2.1 := by decide +kernel
theorem tyX6_ok : ∀ k, k < 14 → parseFieldDescriptor (TX6 k).2.2.1 = some (tyX6 k) := by decide +kernel
abbrev cX6_init : ByteArray := prog_1_method_1_code
def yX6_init : MethodName := ⟨RX6, "<init>", "()V"⟩
abbrev cX6_count : ByteArray := prog_1_method_2_code
def yX6_count : MethodName := ⟨RX6, "count", "(I)I"⟩
abbrev cX6_set : ByteArray := prog_1_method_3_code
def yX6_set : MethodName := ⟨RX6, "set", "(II)I"⟩
abbrev cX6_feed : ByteArray := prog_1_method_4_code
def yX6_feed : MethodName := ⟨RX6, "feed", "(IIIIII)I"⟩
abbrev cX6_text : ByteArray := prog_1_method_5_code
def yX6_text : MethodName := ⟨RX6, "text", "()I"⟩
abbrev cX6_force : ByteArray := prog_1_method_6_code
def yX6_force : MethodName := ⟨RX6, "force", "(I)I"⟩
abbrev cX6_asks : ByteArray := prog_1_method_7_code
def yX6_asks : MethodName := ⟨RX6, "asks", "(IIII)I"⟩
abbrev cX6_clerk : ByteArray := prog_1_method_8_code
def yX6_clerk : MethodName := ⟨RX6, "clerk", "(II)I"⟩
abbrev cX6_told : ByteArray := prog_1_method_9_code
def yX6_told : MethodName := ⟨RX6, "told", "(II)I"⟩
abbrev cX6_figure : ByteArray := prog_1_method_10_code
def yX6_figure : MethodName := ⟨RX6, "figure", "(III)I"⟩
abbrev cX6_reads : ByteArray := prog_1_method_11_code
def yX6_reads : MethodName := ⟨RX6, "reads", "(II)J"⟩
abbrev cX6_plain : ByteArray := prog_1_method_12_code
def yX6_plain : MethodName := ⟨RX6, "plain", "(II)J"⟩
abbrev cX6_adds : ByteArray := prog_1_method_13_code
def yX6_adds : MethodName := ⟨RX6, "adds", "(III)J"⟩
abbrev cX6_apart : ByteArray := prog_1_method_14_code
def yX6_apart : MethodName := ⟨RX6, "apart", "(III)I"⟩
abbrev cX6_book : ByteArray := prog_1_method_15_code
def yX6_book : MethodName := ⟨RX6, "book", "(III)J"⟩
abbrev cX6_who : ByteArray := prog_1_method_16_code
def yX6_who : MethodName := ⟨RX6, "who", "(II)J"⟩
abbrev cX6_smuggled : ByteArray := prog_1_method_17_code
def yX6_smuggled : MethodName := ⟨RX6, "smuggled", "(III)J"⟩
abbrev cX6_slip : ByteArray := prog_1_method_18_code
def yX6_slip : MethodName := ⟨RX6, "slip", "(III)J"⟩
abbrev cX6_sure : ByteArray := prog_1_method_19_code
def yX6_sure : MethodName := ⟨RX6, "sure", "(II)J"⟩
abbrev cX6_shortest : ByteArray := prog_1_method_20_code
def yX6_shortest : MethodName := ⟨RX6, "shortest", "(III)I"⟩
abbrev cX6_figuresFor : ByteArray := prog_1_method_21_code
def yX6_figuresFor : MethodName := ⟨RX6, "figuresFor", "(LNoZeroWithin$Sheet;LNoZeroWithin$Hand;)I"⟩
abbrev cX6_madeOf : ByteArray := prog_1_method_22_code
def yX6_madeOf : MethodName := ⟨RX6, "madeOf", "(LNoZeroWithin$Sheet;LNoZeroWithin$Hand;)J"⟩
abbrev cX6_oursOf : ByteArray := prog_1_method_23_code
def yX6_oursOf : MethodName := ⟨RX6, "oursOf", "(LNoZeroWithin$Sheet;)J"⟩
abbrev cX6_refusalOfBook : ByteArray := prog_1_method_24_code
def yX6_refusalOfBook : MethodName := ⟨RX6, "refusalOfBook", "(I)I"⟩
abbrev cX6_refusalOfBookBy : ByteArray := prog_1_method_25_code
def yX6_refusalOfBookBy : MethodName := ⟨RX6, "refusalOfBookBy", "(II)I"⟩
abbrev cX6_lend : ByteArray := prog_1_method_26_code
def yX6_lend : MethodName := ⟨RX6, "lend", "(III)I"⟩
abbrev cX6_debt : ByteArray := prog_1_method_27_code
def yX6_debt : MethodName := ⟨RX6, "debt", "(II)I"⟩
abbrev cX6_pay : ByteArray := prog_1_method_28_code
def yX6_pay : MethodName := ⟨RX6, "pay", "(III)I"⟩
abbrev cX6_rings : ByteArray := prog_1_method_29_code
def yX6_rings : MethodName := ⟨RX6, "rings", "()I"⟩
abbrev cX6_clear : ByteArray := prog_1_method_30_code
def yX6_clear : MethodName := ⟨RX6, "clear", "()I"⟩
abbrev cX6_forgive : ByteArray := prog_1_method_31_code
def yX6_forgive : MethodName := ⟨RX6, "forgive", "(I)I"⟩
abbrev cX6_span : ByteArray := prog_1_method_32_code
def yX6_span : MethodName := ⟨RX6, "span", "(II)I"⟩
abbrev cX6_behind : ByteArray := prog_1_method_33_code
def yX6_behind : MethodName := ⟨RX6, "behind", "(II)I"⟩
abbrev cX6_alike : ByteArray := prog_1_method_34_code
def yX6_alike : MethodName := ⟨RX6, "alike", "(III)I"⟩
abbrev cX6_lastFigureOf : ByteArray := prog_1_method_35_code
def yX6_lastFigureOf : MethodName := ⟨RX6, "lastFigureOf", "(LNoZeroWithin$Hand;I)I"⟩
abbrev cX6_placeOfYear : ByteArray := prog_1_method_36_code
def yX6_placeOfYear : MethodName := ⟨RX6, "placeOfYear", "(I)I"⟩
abbrev cX6_yearAtPlace : ByteArray := prog_1_method_37_code
def yX6_yearAtPlace : MethodName := ⟨RX6, "yearAtPlace", "(I)I"⟩
abbrev cX6_judge : ByteArray := prog_1_method_38_code
def yX6_judge : MethodName := ⟨RX6, "judge", "(II)I"⟩
abbrev cX6_kinds : ByteArray := prog_1_method_39_code
def yX6_kinds : MethodName := ⟨RX6, "kinds", "(III)I"⟩
abbrev cX6_whose : ByteArray := prog_1_method_40_code
def yX6_whose : MethodName := ⟨RX6, "whose", "(I)I"⟩
abbrev cX6_laws : ByteArray := prog_1_method_41_code
def yX6_laws : MethodName := ⟨RX6, "laws", "(II)I"⟩
abbrev cX6_film : ByteArray := prog_1_method_42_code
def yX6_film : MethodName := ⟨RX6, "film", "(IIII)I"⟩
abbrev cX6_bitOf : ByteArray := prog_1_method_43_code
def yX6_bitOf : MethodName := ⟨RX6, "bitOf", "(ILNoZeroWithin$Sheet;LNoZeroWithin$Hand;)I"⟩
abbrev cX6_firstOtherwise : ByteArray := prog_1_method_44_code
def yX6_firstOtherwise : MethodName := ⟨RX6, "firstOtherwise", "(LNoZeroWithin$Sheet;LNoZeroWithin$Hand;)I"⟩
abbrev cX6_refusalOfRows : ByteArray := prog_1_method_45_code
def yX6_refusalOfRows : MethodName := ⟨RX6, "refusalOfRows", "(I)I"⟩
abbrev cX6_refusalOfRowsBy : ByteArray := prog_1_method_46_code
def yX6_refusalOfRowsBy : MethodName := ⟨RX6, "refusalOfRowsBy", "(II)I"⟩
abbrev cX6_drawn : ByteArray := prog_1_method_47_code
def yX6_drawn : MethodName := ⟨RX6, "drawn", "(III)J"⟩
abbrev cX6_odds : ByteArray := prog_1_method_48_code
def yX6_odds : MethodName := ⟨RX6, "odds", "(IIIII)J"⟩
abbrev cX6_commonDivisor : ByteArray := prog_1_method_49_code
def yX6_commonDivisor : MethodName := ⟨RX6, "commonDivisor", "(II)I"⟩
abbrev cX6_image : ByteArray := prog_1_method_50_code
def yX6_image : MethodName := ⟨RX6, "image", "()I"⟩
abbrev cX6_back : ByteArray := prog_1_method_51_code
def yX6_back : MethodName := ⟨RX6, "back", "()I"⟩
abbrev cX6_sheet : ByteArray := prog_1_method_52_code
def yX6_sheet : MethodName := ⟨RX6, "sheet", "(III)I"⟩
abbrev cX6_cell : ByteArray := prog_1_method_53_code
def yX6_cell : MethodName := ⟨RX6, "cell", "(III)I"⟩
abbrev cX6_copy : ByteArray := prog_1_method_54_code
def yX6_copy : MethodName := ⟨RX6, "copy", "(IIIII)I"⟩
abbrev cX6_clerksBy : ByteArray := prog_1_method_55_code
def yX6_clerksBy : MethodName := ⟨RX6, "clerksBy", "(IIII)I"⟩
abbrev cX6_taken : ByteArray := prog_1_method_56_code
def yX6_taken : MethodName := ⟨RX6, "taken", "(II)I"⟩
abbrev cX6_isWithin : ByteArray := prog_1_method_57_code
def yX6_isWithin : MethodName := ⟨RX6, "isWithin", "(III)Z"⟩
abbrev cX6_isNumber : ByteArray := prog_1_method_58_code
def yX6_isNumber : MethodName := ⟨RX6, "isNumber", "(I)Z"⟩
abbrev cX6_isByte : ByteArray := prog_1_method_59_code
def yX6_isByte : MethodName := ⟨RX6, "isByte", "(I)Z"⟩
abbrev cX6_isTwofold : ByteArray := prog_1_method_60_code
def yX6_isTwofold : MethodName := ⟨RX6, "isTwofold", "(I)Z"⟩
abbrev cX6_isYear : ByteArray := prog_1_method_61_code
def yX6_isYear : MethodName := ⟨RX6, "isYear", "(I)Z"⟩
abbrev cX6_isFolk : ByteArray := prog_1_method_62_code
def yX6_isFolk : MethodName := ⟨RX6, "isFolk", "(I)Z"⟩
abbrev cX6_areTwoFolk : ByteArray := prog_1_method_63_code
def yX6_areTwoFolk : MethodName := ⟨RX6, "areTwoFolk", "(II)Z"⟩
abbrev cX6_isSheet : ByteArray := prog_1_method_64_code
def yX6_isSheet : MethodName := ⟨RX6, "isSheet", "(I)Z"⟩
abbrev cX6_isClerk : ByteArray := prog_1_method_65_code
def yX6_isClerk : MethodName := ⟨RX6, "isClerk", "(I)Z"⟩
abbrev cX6_isOfKind : ByteArray := prog_1_method_66_code
def yX6_isOfKind : MethodName := ⟨RX6, "isOfKind", "(II)Z"⟩
abbrev cX6_refusalOfSheet : ByteArray := prog_1_method_67_code
def yX6_refusalOfSheet : MethodName := ⟨RX6, "refusalOfSheet", "(I)I"⟩
abbrev cX6_sheetAt : ByteArray := prog_1_method_68_code
def yX6_sheetAt : MethodName := ⟨RX6, "sheetAt", "(I)LNoZeroWithin$Sheet;"⟩
abbrev cX6_textAt : ByteArray := prog_1_method_69_code
def yX6_textAt : MethodName := ⟨RX6, "textAt", "(I)LNoZeroWithin$Text;"⟩
abbrev cX6_handOf : ByteArray := prog_1_method_70_code
def yX6_handOf : MethodName := ⟨RX6, "handOf", "(I)LNoZeroWithin$Hand;"⟩
def RX7 : String := "NoZeroWithinModel"
def TX7 : u_T := fun k => match k with
  | 0 => ("NoZeroWithinModel", "base0", "I", false)
  | 1 => ("NoZeroWithinModel", "year0", "I", false)
  | 2 => ("NoZeroWithinModel", "clerks", "I", false)
  | 3 => ("NoZeroWithinModel", "kind", "[I", true)
  | 4 => ("NoZeroWithinModel", "moreOf", "[I", true)
  | 5 => ("NoZeroWithinModel", "owes", "[I", true)
  | 6 => ("NoZeroWithinModel", "tape", "[I", true)
  | 7 => ("NoZeroWithinModel", "taped", "I", false)
  | 8 => ("NoZeroWithinModel", "codes", "[I", true)
  | 9 => ("NoZeroWithinModel", "starts", "[I", true)
  | 10 => ("NoZeroWithinModel", "texts", "I", false)
  | 11 => ("NoZeroWithinModel", "rule", "I", false)
  | 12 => ("NoZeroWithinModel", "hasImage", "Z", false)
  | 13 => ("NoZeroWithinModel", "imageClerks", "I", false)
  | 14 => ("NoZeroWithinModel", "imageBase", "I", false)
  | 15 => ("NoZeroWithinModel", "imageYear", "I", false)
  | 16 => ("NoZeroWithinModel", "imageRule", "I", false)
  | 17 => ("NoZeroWithinModel", "imageOwes", "[I", true)
  | 18 => ("NoZeroWithinModel", "sheetSort", "[I", true)
  | 19 => ("NoZeroWithinModel", "sheetSize", "[I", true)
  | 20 => ("NoZeroWithinModel", "cells", "[I", true)
  | 21 => ("NoZeroWithinModel", "law", "[I", true)
  | 22 => ("NoZeroWithinModel", "at", "I", false)
  | 23 => ("NoZeroWithinModel", "begun", "I", false)
  | 24 => ("NoZeroWithinModel", "token", "I", false)
  | 25 => ("NoZeroWithinModel", "value", "I", false)
  | 26 => ("NoZeroWithinModel", "words", "[I", true)
  | 27 => ("NoZeroWithinModel", "held", "[I", true)
  | 28 => ("NoZeroWithinModel", "heldMany", "I", false)
  | 29 => ("NoZeroWithinModel", "opens", "I", false)
  | 30 => ("NoZeroWithinModel", "out", "I", false)
  | 31 => ("NoZeroWithinModel", "stack", "[I", true)
  | 32 => ("NoZeroWithinModel", "named", "[I", true)
  | 33 => ("NoZeroWithinModel", "figures", "[I", true)
  | _ => ("NoZeroWithinModel", "figureMany", "I", false)
def tyX7 : Nat → FieldType := fun k => match k with
  | 0 => .int
  | 1 => .int
  | 2 => .int
  | 3 => .array .int
  | 4 => .array .int
  | 5 => .array .int
  | 6 => .array .int
  | 7 => .int
  | 8 => .array .int
  | 9 => .array .int
  | 10 => .int
  | 11 => .int
  | 12 => .boolean
  | 13 => .int
  | 14 => .int
  | 15 => .int
  | 16 => .int
  | 17 => .array .int
  | 18 => .array .int
  | 19 => .array .int
  | 20 => .array .int
  | 21 => .array .int
  | 22 => .int
  | 23 => .int
  | 24 => .int
  | 25 => .int
  | 26 => .array .int
  | 27 => .array .int
  | 28 => .int
  | 29 => .int
  | 30 => .int
  | 31 => .array .int
  | 32 => .array .int
  | 33 => .array .int
  | _ => .int
abbrev wsX70 : List Cond := u_ws RX7 TX7 35
theorem nmX7 : ∀ a, a < 35 → ∀ b, b < 35 → a ≠ b → (TX7 a).2.1 ≠ (TX7 b).2.1 := by decide +kernel
theorem tyX7_ok : ∀ k, k < 35 → parseFieldDescriptor (TX7 k).2.2.1 = some (tyX7 k) := by decide +kernel
abbrev cX7_init : ByteArray := prog_9_method_1_code
def yX7_init : MethodName := ⟨RX7, "<init>", "()V"⟩
abbrev cX7_in : ByteArray := prog_9_method_3_code
def yX7_in : MethodName := ⟨RX7, "in", "(III)Z"⟩
abbrev cX7_within : ByteArray := prog_9_method_4_code
def yX7_within : MethodName := ⟨RX7, "within", "(III)I"⟩
abbrev cX7_far : ByteArray := prog_9_method_5_code
def yX7_far : MethodName := ⟨RX7, "far", "(JJ)J"⟩
abbrev cX7_ones : ByteArray := prog_9_method_6_code
def yX7_ones : MethodName := ⟨RX7, "ones", "(I)I"⟩
abbrev cX7_isClerk : ByteArray := prog_9_method_7_code
def yX7_isClerk : MethodName := ⟨RX7, "isClerk", "(I)Z"⟩
abbrev cX7_isNumber : ByteArray := prog_9_method_8_code
def yX7_isNumber : MethodName := ⟨RX7, "isNumber", "(I)Z"⟩
abbrev cX7_count : ByteArray := prog_9_method_9_code
def yX7_count : MethodName := ⟨RX7, "count", "(I)I"⟩
abbrev cX7_isYear : ByteArray := prog_9_method_10_code
def yX7_isYear : MethodName := ⟨RX7, "isYear", "(I)Z"⟩
abbrev cX7_set : ByteArray := prog_9_method_11_code
def yX7_set : MethodName := ⟨RX7, "set", "(II)I"⟩
abbrev cX7_isByte : ByteArray := prog_9_method_12_code
def yX7_isByte : MethodName := ⟨RX7, "isByte", "(I)Z"⟩
abbrev cX7_feed : ByteArray := prog_9_method_13_code
def yX7_feed : MethodName := ⟨RX7, "feed", "(IIIIII)I"⟩
abbrev cX7_wordFrom : ByteArray := prog_9_method_14_code
def yX7_wordFrom : MethodName := ⟨RX7, "wordFrom", "(II)I"⟩
abbrev cX7_next : ByteArray := prog_9_method_15_code
def yX7_next : MethodName := ⟨RX7, "next", "()V"⟩
abbrev cX7_rank : ByteArray := prog_9_method_16_code
def yX7_rank : MethodName := ⟨RX7, "rank", "(I)I"⟩
abbrev cX7_puts : ByteArray := prog_9_method_17_code
def yX7_puts : MethodName := ⟨RX7, "puts", "(I)V"⟩
abbrev cX7_unwinds : ByteArray := prog_9_method_18_code
def yX7_unwinds : MethodName := ⟨RX7, "unwinds", "(I)V"⟩
abbrev cX7_holds : ByteArray := prog_9_method_19_code
def yX7_holds : MethodName := ⟨RX7, "holds", "(I)V"⟩
abbrev cX7_opensOne : ByteArray := prog_9_method_20_code
def yX7_opensOne : MethodName := ⟨RX7, "opensOne", "(I)Z"⟩
abbrev cX7_between : ByteArray := prog_9_method_21_code
def yX7_between : MethodName := ⟨RX7, "between", "(I)Z"⟩
abbrev cX7_signOf : ByteArray := prog_9_method_22_code
def yX7_signOf : MethodName := ⟨RX7, "signOf", "()I"⟩
abbrev cX7_eRead : ByteArray := prog_9_method_23_code
def yX7_eRead : MethodName := ⟨RX7, "eRead", "()Z"⟩
abbrev cX7_text : ByteArray := prog_9_method_24_code
def yX7_text : MethodName := ⟨RX7, "text", "()I"⟩
abbrev cX7_two : ByteArray := prog_9_method_25_code
def yX7_two : MethodName := ⟨RX7, "two", "(III)I"⟩
abbrev cX7_says : ByteArray := prog_9_method_26_code
def yX7_says : MethodName := ⟨RX7, "says", "(I)I"⟩
abbrev cX7_force : ByteArray := prog_9_method_27_code
def yX7_force : MethodName := ⟨RX7, "force", "(I)I"⟩
abbrev cX7_asksOf : ByteArray := prog_9_method_28_code
def yX7_asksOf : MethodName := ⟨RX7, "asksOf", "(IIII)I"⟩
abbrev cX7_asks : ByteArray := prog_9_method_29_code
def yX7_asks : MethodName := ⟨RX7, "asks", "(IIII)I"⟩
abbrev cX7_clerk : ByteArray := prog_9_method_30_code
def yX7_clerk : MethodName := ⟨RX7, "clerk", "(II)I"⟩
abbrev cX7_figuresOf : ByteArray := prog_9_method_31_code
def yX7_figuresOf : MethodName := ⟨RX7, "figuresOf", "(I)I"⟩
abbrev cX7_isTurned : ByteArray := prog_9_method_32_code
def yX7_isTurned : MethodName := ⟨RX7, "isTurned", "(I)Z"⟩
abbrev cX7_makesOf : ByteArray := prog_9_method_33_code
def yX7_makesOf : MethodName := ⟨RX7, "makesOf", "(II)I"⟩
abbrev cX7_told : ByteArray := prog_9_method_34_code
def yX7_told : MethodName := ⟨RX7, "told", "(II)I"⟩
abbrev cX7_turnsFigures : ByteArray := prog_9_method_35_code
def yX7_turnsFigures : MethodName := ⟨RX7, "turnsFigures", "()V"⟩
abbrev cX7_writes : ByteArray := prog_9_method_36_code
def yX7_writes : MethodName := ⟨RX7, "writes", "(II)V"⟩
abbrev cX7_readsBy : ByteArray := prog_9_method_37_code
def yX7_readsBy : MethodName := ⟨RX7, "readsBy", "(IZ)J"⟩
abbrev cX7_figure : ByteArray := prog_9_method_38_code
def yX7_figure : MethodName := ⟨RX7, "figure", "(III)I"⟩
abbrev cX7_reads : ByteArray := prog_9_method_39_code
def yX7_reads : MethodName := ⟨RX7, "reads", "(II)J"⟩
abbrev cX7_plainOf : ByteArray := prog_9_method_40_code
def yX7_plainOf : MethodName := ⟨RX7, "plainOf", "(II)J"⟩
abbrev cX7_plain : ByteArray := prog_9_method_41_code
def yX7_plain : MethodName := ⟨RX7, "plain", "(II)J"⟩
abbrev cX7_addsOf : ByteArray := prog_9_method_42_code
def yX7_addsOf : MethodName := ⟨RX7, "addsOf", "(III)J"⟩
abbrev cX7_adds : ByteArray := prog_9_method_43_code
def yX7_adds : MethodName := ⟨RX7, "adds", "(III)J"⟩
abbrev cX7_apart : ByteArray := prog_9_method_44_code
def yX7_apart : MethodName := ⟨RX7, "apart", "(III)I"⟩
abbrev cX7_bookWrong : ByteArray := prog_9_method_45_code
def yX7_bookWrong : MethodName := ⟨RX7, "bookWrong", "(I)I"⟩
abbrev cX7_hisBook : ByteArray := prog_9_method_46_code
def yX7_hisBook : MethodName := ⟨RX7, "hisBook", "(II)J"⟩
abbrev cX7_ourBook : ByteArray := prog_9_method_47_code
def yX7_ourBook : MethodName := ⟨RX7, "ourBook", "(I)J"⟩
abbrev cX7_great : ByteArray := prog_9_method_48_code
def yX7_great : MethodName := ⟨RX7, "great", "(J)I"⟩
abbrev cX7_book : ByteArray := prog_9_method_49_code
def yX7_book : MethodName := ⟨RX7, "book", "(III)J"⟩
abbrev cX7_who : ByteArray := prog_9_method_50_code
def yX7_who : MethodName := ⟨RX7, "who", "(II)J"⟩
abbrev cX7_smuggled : ByteArray := prog_9_method_51_code
def yX7_smuggled : MethodName := ⟨RX7, "smuggled", "(III)J"⟩
abbrev cX7_slipped : ByteArray := prog_9_method_52_code
def yX7_slipped : MethodName := ⟨RX7, "slipped", "(II)I"⟩
abbrev cX7_slip : ByteArray := prog_9_method_53_code
def yX7_slip : MethodName := ⟨RX7, "slip", "(III)J"⟩
abbrev cX7_sure : ByteArray := prog_9_method_54_code
def yX7_sure : MethodName := ⟨RX7, "sure", "(II)J"⟩
abbrev cX7_figuresAll : ByteArray := prog_9_method_55_code
def yX7_figuresAll : MethodName := ⟨RX7, "figuresAll", "(II)I"⟩
abbrev cX7_shortest : ByteArray := prog_9_method_56_code
def yX7_shortest : MethodName := ⟨RX7, "shortest", "(III)I"⟩
abbrev cX7_areFolk : ByteArray := prog_9_method_57_code
def yX7_areFolk : MethodName := ⟨RX7, "areFolk", "(II)Z"⟩
abbrev cX7_lend : ByteArray := prog_9_method_58_code
def yX7_lend : MethodName := ⟨RX7, "lend", "(III)I"⟩
abbrev cX7_debt : ByteArray := prog_9_method_59_code
def yX7_debt : MethodName := ⟨RX7, "debt", "(II)I"⟩
abbrev cX7_pay : ByteArray := prog_9_method_60_code
def yX7_pay : MethodName := ⟨RX7, "pay", "(III)I"⟩
abbrev cX7_reachedFrom : ByteArray := prog_9_method_61_code
def yX7_reachedFrom : MethodName := ⟨RX7, "reachedFrom", "(I)I"⟩
abbrev cX7_ringsNow : ByteArray := prog_9_method_62_code
def yX7_ringsNow : MethodName := ⟨RX7, "ringsNow", "()I"⟩
abbrev cX7_rings : ByteArray := prog_9_method_63_code
def yX7_rings : MethodName := ⟨RX7, "rings", "()I"⟩
abbrev cX7_least : ByteArray := prog_9_method_64_code
def yX7_least : MethodName := ⟨RX7, "least", "(II)I"⟩
abbrev cX7_clear : ByteArray := prog_9_method_65_code
def yX7_clear : MethodName := ⟨RX7, "clear", "()I"⟩
abbrev cX7_forgive : ByteArray := prog_9_method_66_code
def yX7_forgive : MethodName := ⟨RX7, "forgive", "(I)I"⟩
abbrev cX7_asIfZero : ByteArray := prog_9_method_67_code
def yX7_asIfZero : MethodName := ⟨RX7, "asIfZero", "(I)I"⟩
abbrev cX7_asYear : ByteArray := prog_9_method_68_code
def yX7_asYear : MethodName := ⟨RX7, "asYear", "(I)I"⟩
abbrev cX7_span : ByteArray := prog_9_method_69_code
def yX7_span : MethodName := ⟨RX7, "span", "(II)I"⟩
abbrev cX7_behind : ByteArray := prog_9_method_70_code
def yX7_behind : MethodName := ⟨RX7, "behind", "(II)I"⟩
abbrev cX7_lastFigure : ByteArray := prog_9_method_71_code
def yX7_lastFigure : MethodName := ⟨RX7, "lastFigure", "(II)I"⟩
abbrev cX7_alike : ByteArray := prog_9_method_72_code
def yX7_alike : MethodName := ⟨RX7, "alike", "(III)I"⟩
abbrev cX7_sheetWrong : ByteArray := prog_9_method_73_code
def yX7_sheetWrong : MethodName := ⟨RX7, "sheetWrong", "(I)I"⟩
abbrev cX7_toldWrong : ByteArray := prog_9_method_74_code
def yX7_toldWrong : MethodName := ⟨RX7, "toldWrong", "(II)I"⟩
abbrev cX7_unlike : ByteArray := prog_9_method_75_code
def yX7_unlike : MethodName := ⟨RX7, "unlike", "(II)I"⟩
abbrev cX7_judge : ByteArray := prog_9_method_76_code
def yX7_judge : MethodName := ⟨RX7, "judge", "(II)I"⟩
abbrev cX7_kinds : ByteArray := prog_9_method_77_code
def yX7_kinds : MethodName := ⟨RX7, "kinds", "(III)I"⟩
abbrev cX7_whose : ByteArray := prog_9_method_78_code
def yX7_whose : MethodName := ⟨RX7, "whose", "(I)I"⟩
abbrev cX7_laws : ByteArray := prog_9_method_79_code
def yX7_laws : MethodName := ⟨RX7, "laws", "(II)I"⟩
abbrev cX7_film : ByteArray := prog_9_method_80_code
def yX7_film : MethodName := ⟨RX7, "film", "(IIII)I"⟩
abbrev cX7_slipsBy : ByteArray := prog_9_method_81_code
def yX7_slipsBy : MethodName := ⟨RX7, "slipsBy", "(III)J"⟩
abbrev cX7_drawn : ByteArray := prog_9_method_82_code
def yX7_drawn : MethodName := ⟨RX7, "drawn", "(III)J"⟩
abbrev cX7_lowest : ByteArray := prog_9_method_83_code
def yX7_lowest : MethodName := ⟨RX7, "lowest", "(JJI)J"⟩
abbrev cX7_odds : ByteArray := prog_9_method_84_code
def yX7_odds : MethodName := ⟨RX7, "odds", "(IIIII)J"⟩
abbrev cX7_image : ByteArray := prog_9_method_85_code
def yX7_image : MethodName := ⟨RX7, "image", "()I"⟩
abbrev cX7_back : ByteArray := prog_9_method_86_code
def yX7_back : MethodName := ⟨RX7, "back", "()I"⟩
abbrev cX7_sheet : ByteArray := prog_9_method_87_code
def yX7_sheet : MethodName := ⟨RX7, "sheet", "(III)I"⟩
abbrev cX7_cell : ByteArray := prog_9_method_88_code
def yX7_cell : MethodName := ⟨RX7, "cell", "(III)I"⟩
abbrev cX7_copy : ByteArray := prog_9_method_89_code
def yX7_copy : MethodName := ⟨RX7, "copy", "(IIIII)I"⟩
abbrev cX7_clerksBy : ByteArray := prog_9_method_90_code
def yX7_clerksBy : MethodName := ⟨RX7, "clerksBy", "(IIII)I"⟩
abbrev cX7_isUnder : ByteArray := prog_9_method_91_code
def yX7_isUnder : MethodName := ⟨RX7, "isUnder", "(II)Z"⟩
abbrev cX7_taken : ByteArray := prog_9_method_92_code
def yX7_taken : MethodName := ⟨RX7, "taken", "(II)I"⟩
def RJx145de : String := "java/io/Serializable"
def TJx145de : u_T := fun k => match k with
  | _ => ("", "", "", false)
def tyJx145de : Nat → FieldType := fun k => match k with
  | _ => .int
theorem nmJx145de : ∀ a, a < 0 → ∀ b, b < 0 → a ≠ b → (TJx145de a).2.1 ≠ (TJx145de b).2.1 := by decide +kernel
theorem tyJx145de_ok : ∀ k, k < 0 → parseFieldDescriptor (TJx145de k).2.2.1 = some (tyJx145de k) := by decide +kernel
def RJx9f9b0 : String := "java/lang/CharSequence"
def TJx9f9b0 : u_T := fun k => match k with
  | _ => ("", "", "", false)
def tyJx9f9b0 : Nat → FieldType := fun k => match k with
  | _ => .int
theorem nmJx9f9b0 : ∀ a, a < 0 → ∀ b, b < 0 → a ≠ b → (TJx9f9b0 a).2.1 ≠ (TJx9f9b0 b).2.1 := by decide +kernel
theorem tyJx9f9b0_ok : ∀ k, k < 0 → parseFieldDescriptor (TJx9f9b0 k).2.2.1 = some (tyJx9f9b0 k) := by decide +kernel
def RJx8e188 : String := "java/lang/Cloneable"
def TJx8e188 : u_T := fun k => match k with
  | _ => ("", "", "", false)
def tyJx8e188 : Nat → FieldType := fun k => match k with
  | _ => .int
theorem nmJx8e188 : ∀ a, a < 0 → ∀ b, b < 0 → a ≠ b → (TJx8e188 a).2.1 ≠ (TJx8e188 b).2.1 := by decide +kernel
theorem tyJx8e188_ok : ∀ k, k < 0 → parseFieldDescriptor (TJx8e188 k).2.2.1 = some (tyJx8e188 k) := by decide +kernel
def RJxb160c : String := "java/lang/Comparable"
def TJxb160c : u_T := fun k => match k with
  | _ => ("", "", "", false)
def tyJxb160c : Nat → FieldType := fun k => match k with
  | _ => .int
theorem nmJxb160c : ∀ a, a < 0 → ∀ b, b < 0 → a ≠ b → (TJxb160c a).2.1 ≠ (TJxb160c b).2.1 := by decide +kernel
theorem tyJxb160c_ok : ∀ k, k < 0 → parseFieldDescriptor (TJxb160c k).2.2.1 = some (tyJxb160c k) := by decide +kernel
def RJ6 : String := "java/lang/Integer"
def TJ6 : u_T := fun k => match k with
  | _ => ("", "", "", false)
def tyJ6 : Nat → FieldType := fun k => match k with
  | _ => .int
abbrev wsJ60 : List Cond := u_ws RJ6 TJ6 0
theorem nmJ6 : ∀ a, a < 0 → ∀ b, b < 0 → a ≠ b → (TJ6 a).2.1 ≠ (TJ6 b).2.1 := by decide +kernel
theorem tyJ6_ok : ∀ k, k < 0 → parseFieldDescriptor (TJ6 k).2.2.1 = some (tyJ6 k) := by decide +kernel
abbrev cJ6_bitCount_0f7a4 : ByteArray := prog_11_method_49_code
def yJ6_bitCount_0f7a4 : MethodName := ⟨RJ6, "bitCount", "(I)I"⟩
def RJ9 : String := "java/lang/Math"
def TJ9 : u_T := fun k => match k with
  | _ => ("", "", "", false)
def tyJ9 : Nat → FieldType := fun k => match k with
  | _ => .int
abbrev wsJ90 : List Cond := u_ws RJ9 TJ9 0
theorem nmJ9 : ∀ a, a < 0 → ∀ b, b < 0 → a ≠ b → (TJ9 a).2.1 ≠ (TJ9 b).2.1 := by decide +kernel
theorem tyJ9_ok : ∀ k, k < 0 → parseFieldDescriptor (TJ9 k).2.2.1 = some (tyJ9 k) := by decide +kernel
abbrev cJ9_abs_0f7a4 : ByteArray := prog_12_method_59_code
def yJ9_abs_0f7a4 : MethodName := ⟨RJ9, "abs", "(I)I"⟩
abbrev cJ9_abs_067f4 : ByteArray := prog_12_method_61_code
def yJ9_abs_067f4 : MethodName := ⟨RJ9, "abs", "(J)J"⟩
abbrev cJ9_max_7cf53 : ByteArray := prog_12_method_65_code
def yJ9_max_7cf53 : MethodName := ⟨RJ9, "max", "(II)I"⟩
abbrev cJ9_min_7cf53 : ByteArray := prog_12_method_69_code
def yJ9_min_7cf53 : MethodName := ⟨RJ9, "min", "(II)I"⟩
abbrev cJ9_min_f86c9 : ByteArray := prog_12_method_70_code
def yJ9_min_f86c9 : MethodName := ⟨RJ9, "min", "(JJ)J"⟩
def RJ0 : String := "java/lang/String"
def TJ0 : u_T := fun k => match k with
  | _ => ("", "", "", false)
def tyJ0 : Nat → FieldType := fun k => match k with
  | _ => .int
abbrev wsJ00 : List Cond := u_ws RJ0 TJ0 0
theorem nmJ0 : ∀ a, a < 0 → ∀ b, b < 0 → a ≠ b → (TJ0 a).2.1 ≠ (TJ0 b).2.1 := by decide +kernel
theorem tyJ0_ok : ∀ k, k < 0 → parseFieldDescriptor (TJ0 k).2.2.1 = some (tyJ0 k) := by decide +kernel
abbrev cJ0_length_8abf5 : ByteArray := prog_13_method_54_code
def yJ0_length_8abf5 : MethodName := ⟨RJ0, "length", "()I"⟩
abbrev cJ0_charAt_5068e : ByteArray := prog_13_method_56_code
def yJ0_charAt_5068e : MethodName := ⟨RJ0, "charAt", "(I)C"⟩
abbrev cJ0_coder_7d493 : ByteArray := prog_13_method_152_code
def yJ0_coder_7d493 : MethodName := ⟨RJ0, "coder", "()B"⟩
abbrev cJ0_isLatin1_aae02 : ByteArray := prog_13_method_154_code
def yJ0_isLatin1_aae02 : MethodName := ⟨RJ0, "isLatin1", "()Z"⟩
abbrev cJ0_checkIndex_df160 : ByteArray := prog_13_method_155_code
def yJ0_checkIndex_df160 : MethodName := ⟨RJ0, "checkIndex", "(II)V"⟩
def RJ1 : String := "java/lang/StringLatin1"
def TJ1 : u_T := fun k => match k with
  | _ => ("", "", "", false)
def tyJ1 : Nat → FieldType := fun k => match k with
  | _ => .int
abbrev wsJ10 : List Cond := u_ws RJ1 TJ1 0
theorem nmJ1 : ∀ a, a < 0 → ∀ b, b < 0 → a ≠ b → (TJ1 a).2.1 ≠ (TJ1 b).2.1 := by decide +kernel
theorem tyJ1_ok : ∀ k, k < 0 → parseFieldDescriptor (TJ1 k).2.2.1 = some (tyJ1 k) := by decide +kernel
abbrev cJ1_charAt_3b067 : ByteArray := prog_14_method_2_code
def yJ1_charAt_3b067 : MethodName := ⟨RJ1, "charAt", "([BI)C"⟩
def RJ2 : String := "java/lang/StringUTF16"
def TJ2 : u_T := fun k => match k with
  | _ => ("", "", "", false)
def tyJ2 : Nat → FieldType := fun k => match k with
  | _ => .int
abbrev wsJ20 : List Cond := u_ws RJ2 TJ2 0
theorem nmJ2 : ∀ a, a < 0 → ∀ b, b < 0 → a ≠ b → (TJ2 a).2.1 ≠ (TJ2 b).2.1 := by decide +kernel
theorem tyJ2_ok : ∀ k, k < 0 → parseFieldDescriptor (TJ2 k).2.2.1 = some (tyJ2 k) := by decide +kernel
abbrev cJ2_getChar_3b067 : ByteArray := prog_15_method_5_code
def yJ2_getChar_3b067 : MethodName := ⟨RJ2, "getChar", "([BI)C"⟩
abbrev cJ2_length_9d52b : ByteArray := prog_15_method_6_code
def yJ2_length_9d52b : MethodName := ⟨RJ2, "length", "([B)I"⟩
abbrev cJ2_charAt_3b067 : ByteArray := prog_15_method_83_code
def yJ2_charAt_3b067 : MethodName := ⟨RJ2, "charAt", "([BI)C"⟩
abbrev cJ2_checkIndex_2214a : ByteArray := prog_15_method_91_code
def yJ2_checkIndex_2214a : MethodName := ⟨RJ2, "checkIndex", "(I[B)V"⟩
def RJ10 : String := "java/lang/System"
def TJ10 : u_T := fun k => match k with
  | _ => ("", "", "", false)
def tyJ10 : Nat → FieldType := fun k => match k with
  | _ => .int
abbrev wsJ100 : List Cond := u_ws RJ10 TJ10 0
theorem nmJ10 : ∀ a, a < 0 → ∀ b, b < 0 → a ≠ b → (TJ10 a).2.1 ≠ (TJ10 b).2.1 := by decide +kernel
theorem tyJ10_ok : ∀ k, k < 0 → parseFieldDescriptor (TJ10 k).2.2.1 = some (tyJ10 k) := by decide +kernel
def RJxfd54e : String := "java/lang/constant/Constable"
def TJxfd54e : u_T := fun k => match k with
  | _ => ("", "", "", false)
def tyJxfd54e : Nat → FieldType := fun k => match k with
  | _ => .int
theorem nmJxfd54e : ∀ a, a < 0 → ∀ b, b < 0 → a ≠ b → (TJxfd54e a).2.1 ≠ (TJxfd54e b).2.1 := by decide +kernel
theorem tyJxfd54e_ok : ∀ k, k < 0 → parseFieldDescriptor (TJxfd54e k).2.2.1 = some (tyJxfd54e k) := by decide +kernel
def RJx3cf43 : String := "java/lang/constant/ConstantDesc"
def TJx3cf43 : u_T := fun k => match k with
  | _ => ("", "", "", false)
def tyJx3cf43 : Nat → FieldType := fun k => match k with
  | _ => .int
theorem nmJx3cf43 : ∀ a, a < 0 → ∀ b, b < 0 → a ≠ b → (TJx3cf43 a).2.1 ≠ (TJx3cf43 b).2.1 := by decide +kernel
theorem tyJx3cf43_ok : ∀ k, k < 0 → parseFieldDescriptor (TJx3cf43 k).2.2.1 = some (tyJx3cf43 k) := by decide +kernel
def RJ7 : String := "java/util/Arrays"
def TJ7 : u_T := fun k => match k with
  | _ => ("", "", "", false)
def tyJ7 : Nat → FieldType := fun k => match k with
  | _ => .int
abbrev wsJ70 : List Cond := u_ws RJ7 TJ7 0
theorem nmJ7 : ∀ a, a < 0 → ∀ b, b < 0 → a ≠ b → (TJ7 a).2.1 ≠ (TJ7 b).2.1 := by decide +kernel
theorem tyJ7_ok : ∀ k, k < 0 → parseFieldDescriptor (TJ7 k).2.2.1 = some (tyJ7 k) := by decide +kernel
abbrev cJ7_fill_53178 : ByteArray := prog_17_method_103_code
def yJ7_fill_53178 : MethodName := ⟨RJ7, "fill", "([II)V"⟩
abbrev cJ7_copyOf_59c91 : ByteArray := prog_17_method_123_code
def yJ7_copyOf_59c91 : MethodName := ⟨RJ7, "copyOf", "([II)[I"⟩
def RJ3 : String := "jdk/internal/util/Preconditions"
def TJ3 : u_T := fun k => match k with
  | _ => ("", "", "", false)
def tyJ3 : Nat → FieldType := fun k => match k with
  | _ => .int
abbrev wsJ30 : List Cond := u_ws RJ3 TJ3 0
theorem nmJ3 : ∀ a, a < 0 → ∀ b, b < 0 → a ≠ b → (TJ3 a).2.1 ≠ (TJ3 b).2.1 := by decide +kernel
theorem tyJ3_ok : ∀ k, k < 0 → parseFieldDescriptor (TJ3 k).2.2.1 = some (tyJ3 k) := by decide +kernel
abbrev cJ3_checkIndex_8e157 : ByteArray := prog_18_method_11_code
def yJ3_checkIndex_8e157 : MethodName := ⟨RJ3, "checkIndex", "(IILjava/util/function/BiFunction;)I"⟩
end Zj_02_names
section Zj_03_logic
/-! THE SMALL LOGIC: worlds with numbered cells (numbers 0, 1, 2 .. for what the run makes, from 1000000 on what stood there before), one rule an instruction, contracts that hand the whole world on. -/
abbrev mc_C : Type := (Nat × List Value) ⊕ (List Int32 ⊕ (Nat × List (Option Nat)))
abbrev mc_W : Type := List mc_C
/-- where the run's cells begin, the numbers of the kinds of objects, of the kinds of rows, the elder cells -/
abbrev mc_G : Type := Nat × va_G × (Nat → ClassId) × (Nat → Nat)
def mc_ra (g : mc_G) (k : Nat) : Nat := if k < 1000000 then g.1 + k else g.2.2.2 (k - 1000000)
def mc_vm (g : mc_G) : Value → Value
  | .ref k => .ref (mc_ra g k)
  | v => v
theorem mc_vm_cat (g : mc_G) (v : Value) : (mc_vm g v).category = v.category := by cases v <;> rfl
abbrev mc_cl : List vw_C := [(RX0, TX0, 2), (RX1, TX1, 6), (RX2, TX2, 6), (RX3, TX3, 3), (RX4, TX4, 9), (RX5, TX5, 3), (RX6, TX6, 14), (RX7, TX7, 35)]
def mc_tys (g : mc_G) : List (ClassId × FieldType) := [(g.2.2.1 0, .int), (g.2.2.1 1, .object RX5), (g.2.2.1 2, .object RX3)]
def mc_em (g : mc_G) : mc_C → va_E
  | .inl o => .inr (o.1, o.2.map (mc_vm g))
  | .inr (.inl xs) => .inl (g.2.2.1 0, xs.length, .inl (fun j => xs.getD j 0))
  | .inr (.inr r) => .inl (g.2.2.1 r.1, r.2.length, .inr (.inr (.inr (.inr (fun j => (r.2.getD j none).map (mc_ra g))))))
def mc_rl (g : mc_G) (w : mc_W) : va_W := w.mapIdx (fun k c => (g.1 + k, mc_em g c))
def mc_A (g : mc_G) : Nat → Prop := fun q => g.1 ≤ q
theorem mc_rl_get (g : mc_G) (w : mc_W) (k : Nat) : (mc_rl g w)[k]? = (w[k]?).map (fun c => (g.1 + k, mc_em g c)) := by
  simp [mc_rl]
theorem mc_rl_at {g : mc_G} {w : mc_W} {k : Nat} {c : mc_C} (h : w[k]? = some c) : (mc_rl g w)[k]? = some (g.1 + k, mc_em g c) := by
  rw [mc_rl_get, h]; rfl
theorem mc_rl_len (g : mc_G) (w : mc_W) : (mc_rl g w).length = w.length := by simp [mc_rl]
theorem mc_rl_set (g : mc_G) (w : mc_W) (k : Nat) (c : mc_C) : mc_rl g (w.set k c) = (mc_rl g w).set k (g.1 + k, mc_em g c) := by
  apply List.ext_getElem?
  intro i
  rw [mc_rl_get, List.getElem?_set, List.getElem?_set, mc_rl_get, mc_rl_len]
  by_cases h : k = i
  · subst h
    by_cases h2 : k < w.length
    · simp [h2]
    · simp [h2]
  · simp [h]
theorem mc_rl_push (g : mc_G) (w : mc_W) (c : mc_C) : mc_rl g (w ++ [c]) = mc_rl g w ++ [(g.1 + w.length, mc_em g c)] := by
  simp [mc_rl, List.mapIdx_append]
theorem mc_rl_D (g : mc_G) (w : mc_W) : va_D (mc_A g) (mc_rl g w) := by
  refine ⟨fun i j p q hp hq h => ?_, fun k q hq => ?_⟩
  · rw [mc_rl_get] at hp hq
    obtain ⟨c1, -, rfl⟩ := Option.map_eq_some_iff.mp hp
    obtain ⟨c2, -, rfl⟩ := Option.map_eq_some_iff.mp hq
    have : g.1 + i = g.1 + j := h
    omega
  · rw [mc_rl_get] at hq
    obtain ⟨c1, -, rfl⟩ := Option.map_eq_some_iff.mp hq
    exact Nat.le_add_right _ _
/-- the words that every method stands on -/
def mc_WS : List Cond := lw_tbl.filter goodWord
theorem mc_WS_ok : GoodIn lw_tbl mc_WS := fun w hw => ⟨(List.mem_filter.mp hw).1, good_of_word (List.mem_filter.mp hw).2⟩
theorem mc_WS_self : GoodIn mc_WS mc_WS := fun w hw => ⟨hw, good_of_word (List.mem_filter.mp hw).2⟩
/-- texts that the class asks for by their constants: places in the pool of the tape's class, and the bytes -/
def mc_tx : List (Nat × String) := [(115, "more"), (121, "clerk"), (123, "v"), (125, "off"), (127, "base"), (129, "year"), (131, "nought"), (133, "slips"), (135, "costs"), (137, "or"), (139, "and"), (141, "not")]
def mc_byt : List (List Int32) := [[109, 111, 114, 101], [99, 108, 101, 114, 107], [118], [111, 102, 102], [98, 97, 115, 101], [121, 101, 97, 114], [110, 111, 117, 103, 104, 116], [115, 108, 105, 112, 115], [99, 111, 115, 116, 115], [111, 114], [97, 110, 100], [110, 111, 116]]
def mc_len : List Nat := [4, 5, 1, 3, 4, 4, 6, 5, 5, 2, 3, 3]
def mc_ka : List Int32 := [-1, 0, 0, 1, 2, 0]
/-- static methods that another kind of the same nest hides -/
def mc_ns : List (String × Nat × MethodName) := [(RX0, 18, yX6_isFolk), (RX0, 22, yX6_areTwoFolk), (RX1, 35, yX6_isOfKind)]
/-- what stood there before the run: the row of kinds, the texts, the statics -/
def mc_GG (g : mc_G) (U : State) : Prop :=
  va_K g.2.1 mc_cl (mc_tys g) U ∧ g.1 ≤ U.heap.size ∧
  va_Z "NoZeroWithin" "KIND_ABOVE" "[I" (.ref (g.2.2.2 0)) (mc_A g) U U.heap ∧
  va_T .int (g.2.2.2 0) 6 (fun j => .int (mc_ka.getD j 0)) (mc_A g) U U.heap ∧
  va_Z "java/lang/String" "COMPACT_STRINGS" "Z" (.int 1) (mc_A g) U U.heap ∧
  (va_Z "jdk/internal/util/Preconditions" "SIOOBE_FORMATTER" "Ljava/util/function/BiFunction;" .null (mc_A g) U U.heap ∨ va_Z "jdk/internal/util/Preconditions" "SIOOBE_FORMATTER" "Ljava/util/function/BiFunction;" (.ref (g.2.2.2 200)) (mc_A g) U U.heap) ∧
  vk_S 12 mc_len mc_byt (fun i => g.2.2.2 (1 + i)) (fun i => g.2.2.2 (101 + i)) (mc_A g) U U.heap ∧
  (∀ i, i < 12 → ∀ q, mc_tx[i]? = some q → vk_R "NoZeroWithin$Tape" q.1 q.2 (g.2.2.2 (1 + i)) U) ∧
  (∀ q ∈ mc_ns, va_Nw (.methodLinkNest q.1 q.2.1 q.2.2 "NoZeroWithin") U) ∧ va_AO RX5 U ∧ va_AO RX3 U
theorem mc_GG_moved {g : mc_G} {s U : State} {H : Heap} (h : mc_GG g s) (hW : s.WarmedH U.vm) (hS : ∀ q : Nat, q < s.heap.size → ¬ mc_A g q → H[q]? = s.heap[q]?) (hz : g.1 ≤ H.size) (hU : U.heap = H) : mc_GG g U := by
  obtain ⟨h1, h2, h3, h4, h5, h6, h7, h8, h9, h10, h11⟩ := h
  subst hU
  refine ⟨h1.moved hW.alike, hz, (h3.moved hW.alike).kept hS, (h4.moved hW.alike).kept hS, (h5.moved hW.alike).kept hS, ?_, (h7.moved hW.alike).kept hS, fun i hi q hq => (h8 i hi q hq).warm hW, fun q hq => (h9 q hq).warmM hW, h10.moved hW.alike, h11.moved hW.alike⟩
  rcases h6 with h6 | h6
  · exact Or.inl ((h6.moved hW.alike).kept hS)
  · exact Or.inr ((h6.moved hW.alike).kept hS)
theorem mc_GG_calling {g : mc_G} {U : State} {gf : JFrame} {mk : MethodId} {a : Array Value} (h : mc_GG g U) : mc_GG g (U.calling gf mk a) := by
  obtain ⟨h1, h2, h3, h4, h5, h6, h7, h8, h9, h10, h11⟩ := h
  have hA : U.vm.Alike (U.calling gf mk a).vm := Vm.Alike.refl U.vm
  refine ⟨va_K.moved (u := U) (U := U.calling gf mk a) hA h1, h2, va_Z.moved (u := U) hA h3, va_T.moved (u := U) hA h4, va_Z.moved (u := U) hA h5, ?_, vk_S.moved (u := U) hA h7, fun i hi q hq => vk_R.same (u := U) rfl (h8 i hi q hq), fun q hq => va_Nw.same (u := U) rfl rfl (h9 q hq), va_AO.moved (u := U) hA h10, va_AO.moved (u := U) hA h11⟩
  rcases h6 with h6 | h6
  · exact Or.inl (va_Z.moved (u := U) hA h6)
  · exact Or.inr (va_Z.moved (u := U) hA h6)
/-- the world w lies in the heap H, since the state s -/
def mc_Rel (g : mc_G) (w : mc_W) (s : State) (H : Heap) (locs : List Loc) : Prop :=
  H.size = g.1 + w.length ∧ va_P g.2.1 mc_cl (mc_rl g w) H ∧ va_S (mc_A g) s.heap H locs ∧ w.length ≤ 1000000
/-- the locals, by their places -/
def mc_as (g : mc_G) : Nat → List (Option Value) → List (Nat × Value)
  | _, [] => []
  | i, none :: r => mc_as g (i + 1) r
  | i, some v :: r => (i, mc_vm g v) :: mc_as g (i + 1) r
theorem mc_as_mem {g : mc_G} {q : Nat × Value} : ∀ (L : List (Option Value)) (i : Nat), q ∈ mc_as g i L → ∃ j v, L[j]? = some (some v) ∧ q = (i + j, mc_vm g v) := by
  intro L
  induction L with
  | nil => intro i h; cases h
  | cons a r ih =>
    intro i h
    cases a with
    | none =>
      obtain ⟨j, v, h1, h2⟩ := ih (i + 1) h
      exact ⟨j + 1, v, by simpa using h1, by rw [h2]; congr 1; omega⟩
    | some x =>
      rcases List.mem_cons.mp h with h | h
      · exact ⟨0, x, rfl, h⟩
      · obtain ⟨j, v, h1, h2⟩ := ih (i + 1) h
        exact ⟨j + 1, v, by simpa using h1, by rw [h2]; congr 1; omega⟩
theorem mc_as_of {g : mc_G} : ∀ (L : List (Option Value)) (i j : Nat) (v : Value), L[j]? = some (some v) → (i + j, mc_vm g v) ∈ mc_as g i L := by
  intro L
  induction L with
  | nil => intro i j v h; simp at h
  | cons a r ih =>
    intro i j v h
    cases j with
    | zero =>
      have : a = some v := by simpa using h
      subst this
      exact List.mem_cons_self
    | succ j =>
      have h1 := ih (i + 1) j v (by simpa using h)
      have e : i + 1 + j = i + (j + 1) := by omega
      rw [e] at h1
      cases a with
      | none => exact h1
      | some x => exact List.mem_cons_of_mem _ h1
theorem mc_lv_at {g : mc_G} {ls : Array Slot} {n i : Nat} {L : List (Option Value)} {v : Value} (h : lv_has ls n (mc_as g 0 L)) (hv : L[i]? = some (some v)) : ls[i]? = some (.val (mc_vm g v)) := by
  have := h.2.2 _ (mc_as_of L 0 i v hv)
  simpa using this
theorem mc_lv_weak {g : mc_G} {ls : Array Slot} {n : Nat} {lv : List (Nat × Value)} {L : List (Option Value)} (h : lv_has ls n lv) (hs : ∀ j v, L[j]? = some (some v) → (j, mc_vm g v) ∈ lv) : lv_has ls n (mc_as g 0 L) := by
  refine ⟨h.1, h.2.1, fun q hq => ?_⟩
  obtain ⟨j, v, h1, rfl⟩ := mc_as_mem L 0 hq
  have := h.2.2 _ (hs j v h1)
  simpa using this
/-- whether a place holds a value of two words -/
def mc_is2 : Option (Option Value) → Bool
  | some (some v) => v.category == 2
  | _ => false
/-- the locals behind a store of one word, of two -/
def mc_st1 (L : List (Option Value)) (i : Nat) (v : Value) : List (Option Value) :=
  (match i with | 0 => L | k + 1 => if mc_is2 L[k]? then L.set k none else L).set i (some v)
def mc_st2 (L : List (Option Value)) (i : Nat) (v : Value) : List (Option Value) :=
  ((match i with | 0 => L | k + 1 => if mc_is2 L[k]? then L.set k none else L).set i (some v)).set (i + 1) none
theorem mc_set_mem {M : List (Option Value)} {i j : Nat} {v x : Value} (h : (M.set i (some v))[j]? = some (some x)) : (j = i ∧ x = v) ∨ (j ≠ i ∧ M[j]? = some (some x)) := by
  rw [List.getElem?_set] at h
  by_cases hj : i = j
  · subst hj
    rw [if_pos rfl] at h
    by_cases hl : i < M.length
    · rw [if_pos hl] at h
      exact Or.inl ⟨rfl, by simpa using h.symm⟩
    · rw [if_neg hl] at h
      cases h
  · rw [if_neg hj] at h
    exact Or.inr ⟨fun e => hj e.symm, h⟩
theorem mc_st_mem {L : List (Option Value)} {i j : Nat} {v x : Value} (hh : ((match i with | 0 => L | k + 1 => if mc_is2 L[k]? then L.set k none else L).set i (some v))[j]? = some (some x)) : (j = i ∧ x = v) ∨ (j ≠ i ∧ L[j]? = some (some x) ∧ ¬ (j + 1 = i ∧ x.category = 2)) := by
  rcases mc_set_mem hh with h1 | ⟨hj, h⟩
  · exact Or.inl h1
  · right
    cases i with
    | zero => exact ⟨hj, h, fun q => by omega⟩
    | succ k =>
      dsimp only at h
      by_cases h2 : mc_is2 L[k]? = true
      · rw [if_pos h2, List.getElem?_set] at h
        by_cases h3 : k = j
        · subst h3
          rw [if_pos rfl] at h
          by_cases hl : k < L.length
          · rw [if_pos hl] at h
            simp at h
          · rw [if_neg hl] at h
            cases h
        · rw [if_neg h3] at h
          exact ⟨hj, h, fun q => by omega⟩
      · rw [if_neg h2] at h
        refine ⟨hj, h, fun q => ?_⟩
        have e : j = k := by omega
        subst e
        rw [h] at h2
        simp [mc_is2, q.2] at h2
theorem mc_store1 {g : mc_G} {ls : Array Slot} {n i : Nat} {L : List (Option Value)} {v : Value} {ls' : Array Slot} (h : lv_has ls' n ((i, mc_vm g v) :: (mc_as g 0 L).filter (fun q => !(q.1 == i) && !(q.1 + 1 == i && q.2.category == 2)))) : lv_has ls' n (mc_as g 0 (mc_st1 L i v)) := by
  refine mc_lv_weak h fun j x hx => ?_
  rcases mc_st_mem hx with ⟨rfl, rfl⟩ | ⟨h1, h2, h3⟩
  · exact List.mem_cons_self
  · refine List.mem_cons_of_mem _ (List.mem_filter.mpr ⟨by simpa using mc_as_of L 0 j x h2, ?_⟩)
    simp only [Bool.and_eq_true, Bool.not_eq_true', beq_eq_false_iff_ne, ne_eq, Bool.and_eq_false_iff, mc_vm_cat]
    refine ⟨h1, ?_⟩
    by_cases e : j + 1 = i
    · exact Or.inr fun q => h3 ⟨e, q⟩
    · exact Or.inl e
theorem mc_store2 {g : mc_G} {ls : Array Slot} {n i : Nat} {L : List (Option Value)} {v : Value} {ls' : Array Slot} (h : lv_has ls' n ((i, mc_vm g v) :: (mc_as g 0 L).filter (fun q => !(q.1 == i) && (!(q.1 == i + 1) && !(q.1 + 1 == i && q.2.category == 2))))) : lv_has ls' n (mc_as g 0 (mc_st2 L i v)) := by
  refine mc_lv_weak h fun j x hx => ?_
  unfold mc_st2 at hx
  rw [List.getElem?_set] at hx
  by_cases h0 : i + 1 = j
  · rw [if_pos h0] at hx
    exact absurd hx (by split <;> simp)
  rw [if_neg h0] at hx
  rcases mc_st_mem hx with ⟨rfl, rfl⟩ | ⟨h1, h2, h3⟩
  · exact List.mem_cons_self
  · refine List.mem_cons_of_mem _ (List.mem_filter.mpr ⟨by simpa using mc_as_of L 0 j x h2, ?_⟩)
    simp only [Bool.and_eq_true, Bool.not_eq_true', beq_eq_false_iff_ne, ne_eq, Bool.and_eq_false_iff, mc_vm_cat]
    refine ⟨h1, fun q => h0 q.symm, ?_⟩
    by_cases e : j + 1 = i
    · exact Or.inr fun q => h3 ⟨e, q⟩
    · exact Or.inl e
/-- the end that is owed, by what is known of the start -/
abbrev mc_J : Type := Option FieldType × Bool × Room × (mc_G → State → List Frame → Array Value → State → Prop) × (mc_G → State → Array Value → Prop)
/-- what is known inside a method's walk -/
def mc_X (own : String) (cc : ByteArray) (nL : Nat) (ret : Option FieldType) (ini : Bool) (p : Program) (s : State) (m : MethodId) (args : Array Value) (meth : Method) (c : Code) : Prop :=
  p.tables.exec = Jvm.exec ∧ c.code = cc ∧ c.maxLocals = nL ∧ s.vm.findClass own = some m.cls ∧ (∀ w ∈ mc_WS, w.before args s = true) ∧ meth.sig.returnType = ret ∧ meth.locks = false ∧ (ini = true → meth.name = "<init>")
/-- from here (place, locals, stack, world, cells and words made so far) the method comes to its end -/
def mc_E (own : String) (cc : ByteArray) (nL : Nat) (J : mc_J) (pc : Nat) (L : List (Option Value)) (st : List Value) (w : mc_W) (kc ks : Nat) : Prop :=
  ∀ (p : Program) (l : Launch) (e : Env) (s : State) (m : MethodId) (args : Array Value) (below : List Frame) (meth : Method) (c : Code) (H : Heap) (locs : List Loc) (ls : Array Slot) (g : mc_G),
    mc_X own cc nL J.1 J.2.1 p s m args meth c → mc_GG g s → mc_Rel g w s H locs → J.2.2.2.2 g s args → lv_has ls nL (mc_as g 0 L) →
    W p l e J.2.2.1 s m args below meth c H locs kc ks (J.2.2.2.1 g s below args) (F0 m pc ls (st.map (mc_vm g)))
def mc_rm (d mc ms : Nat) : Room := { frames := d, cells := mc, slots := ms, locals := 64 * d }
/-- a method's end: an answer and a world that the post allows -/
def mc_Q (g : mc_G) (P : Option Value → mc_W → Prop) : Array Value → State → Outcome → State → Prop := fun _ st o t =>
  (∃ (r : Option Value) (w' : mc_W), o = .returned (r.map (mc_vm g)) ∧ P r w' ∧ t.heap.size = g.1 + w'.length ∧ va_P g.2.1 mc_cl (mc_rl g w') t.heap ∧ w'.length ≤ 1000000) ∧ va_F (mc_A g) st t
def mc_JM (ret : Option FieldType) (ini : Bool) (d mc ms : Nat) (P : Option Value → mc_W → Prop) : mc_J :=
  (ret, ini, mc_rm d mc ms, fun g s below args => MQ below (mc_Q g P) args s mc ms (mc_A g), fun _ _ _ => True)
def mc_Pc (g : mc_G) (av : List Value) (w : mc_W) : Array Value → State → Prop := fun v U => v = (av.map (mc_vm g)).toArray ∧ mc_GG g U ∧ U.heap.size = g.1 + w.length ∧ va_P g.2.1 mc_cl (mc_rl g w) U.heap ∧ w.length ≤ 1000000
/-- the contract: by d frames, mc cells of ms words; from the world w with these arguments the method answers as the post allows -/
def mc_S (y : MethodName) (cc : ByteArray) (nL : Nat) (ret : Option FieldType) (d mc ms : Nat) (av : List Value) (w : mc_W) (P : Option Value → mc_W → Prop) : Prop :=
  ∀ (l : Launch) (g : mc_G), Met l y (Cond.code y cc nL ret :: mc_WS) (mc_rm d mc ms) (mc_Pc g av w) (mc_Q g P) mc ms (mc_A g)
/-- the locals at a method's entry -/
def mc_in : List Value → List (Option Value)
  | [] => []
  | v :: r => if v.category = 2 then some v :: none :: mc_in r else some v :: mc_in r
def mc_ent (nL : Nat) (av : List Value) : List (Option Value) := mc_in av ++ List.replicate (nL - (mc_in av).length) none
end Zj_03_logic
section Zj_04_rules
/-! one rule an instruction: what it does to locals, stack and world -/
section Rules
variable {own : String} {cc : ByteArray} {nL : Nat} {J : mc_J} {pc : Nat} {L : List (Option Value)} {st : List Value} {w : mc_W} {kc ks : Nat}
theorem e_iconst {n : Int} {v : Int32} (hd : decode cc pc = .ok (.iconst n, 1)) (hv : Int32.ofInt n = v) (k : mc_E own cc nL J (pc + 1) L (.int v :: st) w kc ks) : mc_E own cc nL J pc L st w kc ks :=
  fun p l e s m args below meth c H locs ls g X G R T hl => lv_iconst X.1 X.2.1 hd hv (k p l e s m args below meth c H locs ls g X G R T hl)
theorem e_bipush {n : Int} {v : Int32} (hd : decode cc pc = .ok (.bipush n, 2)) (hv : (Int8.ofInt n).toInt32 = v) (k : mc_E own cc nL J (pc + 2) L (.int v :: st) w kc ks) : mc_E own cc nL J pc L st w kc ks :=
  fun p l e s m args below meth c H locs ls g X G R T hl => lv_bipush X.1 X.2.1 hd hv (k p l e s m args below meth c H locs ls g X G R T hl)
theorem e_sipush {n : Int} {v : Int32} (hd : decode cc pc = .ok (.sipush n, 3)) (hv : (Int16.ofInt n).toInt32 = v) (k : mc_E own cc nL J (pc + 3) L (.int v :: st) w kc ks) : mc_E own cc nL J pc L st w kc ks :=
  fun p l e s m args below meth c H locs ls g X G R T hl => lv_sipush X.1 X.2.1 hd hv (k p l e s m args below meth c H locs ls g X G R T hl)
theorem e_lconst {n : Fin 2} {v : Int64} (hd : decode cc pc = .ok (.lconst n, 1)) (hv : Int64.ofNat (n : Nat) = v) (k : mc_E own cc nL J (pc + 1) L (.long v :: st) w kc ks) : mc_E own cc nL J pc L st w kc ks :=
  fun p l e s m args below meth c H locs ls g X G R T hl => lv_lconst X.1 X.2.1 hd hv (k p l e s m args below meth c H locs ls g X G R T hl)
theorem e_ldc {i : Nat} {v : Int32} (hd : decode cc pc = .ok (.ldc i, 2)) (hc : Cond.constant own i v ∈ mc_WS) (k : mc_E own cc nL J (pc + 2) L (.int v :: st) w kc ks) : mc_E own cc nL J pc L st w kc ks :=
  fun p l e s m args below meth c H locs ls g X G R T hl => lv_ldc X.1 X.2.1 X.2.2.2.1 (X.2.2.2.2.1 _ hc) hd (k p l e s m args below meth c H locs ls g X G R T hl)
theorem e_ldcw {i : Nat} {v : Int32} (hd : decode cc pc = .ok (.ldc_w i, 3)) (hc : Cond.constant own i v ∈ mc_WS) (k : mc_E own cc nL J (pc + 3) L (.int v :: st) w kc ks) : mc_E own cc nL J pc L st w kc ks :=
  fun p l e s m args below meth c H locs ls g X G R T hl => lv_ldcw X.1 X.2.1 X.2.2.2.1 (X.2.2.2.2.1 _ hc) hd (k p l e s m args below meth c H locs ls g X G R T hl)
theorem e_ldc2 {i : Nat} {v : Int64} (hd : decode cc pc = .ok (.ldc2_w i, 3)) (hc : Cond.constantLong own i v ∈ mc_WS) (k : mc_E own cc nL J (pc + 3) L (.long v :: st) w kc ks) : mc_E own cc nL J pc L st w kc ks :=
  fun p l e s m args below meth c H locs ls g X G R T hl => lv_ldc2 X.1 X.2.1 X.2.2.2.1 (X.2.2.2.2.1 _ hc) hd (k p l e s m args below meth c H locs ls g X G R T hl)
theorem e_null (hd : decode cc pc = .ok (.aconst_null, 1)) (k : mc_E own cc nL J (pc + 1) L (.null :: st) w kc ks) : mc_E own cc nL J pc L st w kc ks :=
  fun p l e s m args below meth c H locs ls g X G R T hl => lv_null X.1 X.2.1 hd (k p l e s m args below meth c H locs ls g X G R T hl)
theorem e_iloadn {n : Fin 4} {x : Int32} (hd : decode cc pc = .ok (.iload_n n, 1)) (hv : L[(n : Nat)]? = some (some (.int x))) (k : mc_E own cc nL J (pc + 1) L (.int x :: st) w kc ks) : mc_E own cc nL J pc L st w kc ks :=
  fun p l e s m args below meth c H locs ls g X G R T hl => lv_iload_n X.1 X.2.1 hd rfl (mc_lv_at hl hv) (k p l e s m args below meth c H locs ls g X G R T hl)
theorem e_iload {i : Nat} {x : Int32} (hd : decode cc pc = .ok (.iload i, 2)) (hv : L[i]? = some (some (.int x))) (k : mc_E own cc nL J (pc + 2) L (.int x :: st) w kc ks) : mc_E own cc nL J pc L st w kc ks :=
  fun p l e s m args below meth c H locs ls g X G R T hl => lv_iload X.1 X.2.1 hd (mc_lv_at hl hv) (k p l e s m args below meth c H locs ls g X G R T hl)
theorem e_lloadn {n : Fin 4} {x : Int64} (hd : decode cc pc = .ok (.lload_n n, 1)) (hv : L[(n : Nat)]? = some (some (.long x))) (k : mc_E own cc nL J (pc + 1) L (.long x :: st) w kc ks) : mc_E own cc nL J pc L st w kc ks :=
  fun p l e s m args below meth c H locs ls g X G R T hl => lv_lload_n X.1 X.2.1 hd rfl (mc_lv_at hl hv) (k p l e s m args below meth c H locs ls g X G R T hl)
theorem e_lload {i : Nat} {x : Int64} (hd : decode cc pc = .ok (.lload i, 2)) (hv : L[i]? = some (some (.long x))) (k : mc_E own cc nL J (pc + 2) L (.long x :: st) w kc ks) : mc_E own cc nL J pc L st w kc ks :=
  fun p l e s m args below meth c H locs ls g X G R T hl => lv_lload X.1 X.2.1 hd (mc_lv_at hl hv) (k p l e s m args below meth c H locs ls g X G R T hl)
theorem e_aloadn {n : Fin 4} {x : Nat} (hd : decode cc pc = .ok (.aload_n n, 1)) (hv : L[(n : Nat)]? = some (some (.ref x))) (k : mc_E own cc nL J (pc + 1) L (.ref x :: st) w kc ks) : mc_E own cc nL J pc L st w kc ks :=
  fun p l e s m args below meth c H locs ls g X G R T hl => lv_aload_n X.1 X.2.1 hd rfl (mc_lv_at hl hv) (k p l e s m args below meth c H locs ls g X G R T hl)
theorem e_aload {i : Nat} {x : Nat} (hd : decode cc pc = .ok (.aload i, 2)) (hv : L[i]? = some (some (.ref x))) (k : mc_E own cc nL J (pc + 2) L (.ref x :: st) w kc ks) : mc_E own cc nL J pc L st w kc ks :=
  fun p l e s m args below meth c H locs ls g X G R T hl => lv_aload X.1 X.2.1 hd (mc_lv_at hl hv) (k p l e s m args below meth c H locs ls g X G R T hl)
theorem e_aloadnN {n : Fin 4} (hd : decode cc pc = .ok (.aload_n n, 1)) (hv : L[(n : Nat)]? = some (some .null)) (k : mc_E own cc nL J (pc + 1) L (.null :: st) w kc ks) : mc_E own cc nL J pc L st w kc ks :=
  fun p l e s m args below meth c H locs ls g X G R T hl => lv_aload_nN X.1 X.2.1 hd rfl (mc_lv_at hl hv) (k p l e s m args below meth c H locs ls g X G R T hl)
theorem e_istoren {n : Fin 4} {x : Int32} (hd : decode cc pc = .ok (.istore_n n, 1)) (hn : (n : Nat) < nL) (k : mc_E own cc nL J (pc + 1) (mc_st1 L n (.int x)) st w kc ks) : mc_E own cc nL J pc L (.int x :: st) w kc ks :=
  fun p l e s m args below meth c H locs ls g X G R T hl => lv_istore_n X.1 X.2.1 hd rfl hl hn rfl (fun ls' hl' => k p l e s m args below meth c H locs ls' g X G R T (mc_store1 (g := g) (ls := ls) (v := .int x) hl'))
theorem e_istore {i : Nat} {x : Int32} (hd : decode cc pc = .ok (.istore i, 2)) (hn : i < nL) (k : mc_E own cc nL J (pc + 2) (mc_st1 L i (.int x)) st w kc ks) : mc_E own cc nL J pc L (.int x :: st) w kc ks :=
  fun p l e s m args below meth c H locs ls g X G R T hl => lv_istore X.1 X.2.1 hd hl hn rfl (fun ls' hl' => k p l e s m args below meth c H locs ls' g X G R T (mc_store1 (g := g) (ls := ls) (v := .int x) hl'))
theorem e_lstoren {n : Fin 4} {x : Int64} (hd : decode cc pc = .ok (.lstore_n n, 1)) (hn : (n : Nat) + 1 < nL) (k : mc_E own cc nL J (pc + 1) (mc_st2 L n (.long x)) st w kc ks) : mc_E own cc nL J pc L (.long x :: st) w kc ks :=
  fun p l e s m args below meth c H locs ls g X G R T hl => lv_lstore_n X.1 X.2.1 hd rfl hl hn rfl (fun ls' hl' => k p l e s m args below meth c H locs ls' g X G R T (mc_store2 (g := g) (ls := ls) (v := .long x) hl'))
theorem e_lstore {i : Nat} {x : Int64} (hd : decode cc pc = .ok (.lstore i, 2)) (hn : i + 1 < nL) (k : mc_E own cc nL J (pc + 2) (mc_st2 L i (.long x)) st w kc ks) : mc_E own cc nL J pc L (.long x :: st) w kc ks :=
  fun p l e s m args below meth c H locs ls g X G R T hl => lv_lstore X.1 X.2.1 hd hl hn rfl (fun ls' hl' => k p l e s m args below meth c H locs ls' g X G R T (mc_store2 (g := g) (ls := ls) (v := .long x) hl'))
theorem e_astoren {n : Fin 4} {x : Nat} (hd : decode cc pc = .ok (.astore_n n, 1)) (hn : (n : Nat) < nL) (k : mc_E own cc nL J (pc + 1) (mc_st1 L n (.ref x)) st w kc ks) : mc_E own cc nL J pc L (.ref x :: st) w kc ks :=
  fun p l e s m args below meth c H locs ls g X G R T hl => lv_astore_n X.1 X.2.1 hd rfl hl hn rfl (fun ls' hl' => k p l e s m args below meth c H locs ls' g X G R T (mc_store1 (g := g) (ls := ls) (v := .ref x) hl'))
theorem e_astore {i : Nat} {x : Nat} (hd : decode cc pc = .ok (.astore i, 2)) (hn : i < nL) (k : mc_E own cc nL J (pc + 2) (mc_st1 L i (.ref x)) st w kc ks) : mc_E own cc nL J pc L (.ref x :: st) w kc ks :=
  fun p l e s m args below meth c H locs ls g X G R T hl => lv_astore X.1 X.2.1 hd hl hn rfl (fun ls' hl' => k p l e s m args below meth c H locs ls' g X G R T (mc_store1 (g := g) (ls := ls) (v := .ref x) hl'))
theorem e_astorenN {n : Fin 4} (hd : decode cc pc = .ok (.astore_n n, 1)) (hn : (n : Nat) < nL) (k : mc_E own cc nL J (pc + 1) (mc_st1 L n .null) st w kc ks) : mc_E own cc nL J pc L (.null :: st) w kc ks :=
  fun p l e s m args below meth c H locs ls g X G R T hl => lv_astore_nN X.1 X.2.1 hd rfl hl hn rfl (fun ls' hl' => k p l e s m args below meth c H locs ls' g X G R T (mc_store1 (g := g) (ls := ls) (v := .null) hl'))
theorem e_iinc {i : Nat} {n : Int} {x : Int32} (hd : decode cc pc = .ok (.iinc i n, 3)) (hv : L[i]? = some (some (.int x))) (hn : i < nL) (k : mc_E own cc nL J (pc + 3) (mc_st1 L i (.int (x + Int32.ofInt n))) st w kc ks) : mc_E own cc nL J pc L st w kc ks := by
  intro p l e s m args below meth c H locs ls g X G R T hl
  obtain ⟨q, hq⟩ := List.getElem?_of_mem (mc_as_of (g := g) L 0 i _ hv)
  rw [Nat.zero_add] at hq
  exact lv_iinc X.1 X.2.1 hd hl hq rfl hn rfl (fun ls' hl' => k p l e s m args below meth c H locs ls' g X G R T (mc_store1 (g := g) (ls := ls) (v := .int (x + Int32.ofInt n)) hl'))
theorem e_iadd {x y : Int32} (hd : decode cc pc = .ok (.iadd, 1)) (k : mc_E own cc nL J (pc + 1) L (.int (x + y) :: st) w kc ks) : mc_E own cc nL J pc L (.int y :: .int x :: st) w kc ks :=
  fun p l e s m args below meth c H locs ls g X G R T hl => lv_iadd X.1 X.2.1 hd (k p l e s m args below meth c H locs ls g X G R T hl)
theorem e_isub {x y : Int32} (hd : decode cc pc = .ok (.isub, 1)) (k : mc_E own cc nL J (pc + 1) L (.int (x - y) :: st) w kc ks) : mc_E own cc nL J pc L (.int y :: .int x :: st) w kc ks :=
  fun p l e s m args below meth c H locs ls g X G R T hl => lv_isub X.1 X.2.1 hd (k p l e s m args below meth c H locs ls g X G R T hl)
theorem e_imul {x y : Int32} (hd : decode cc pc = .ok (.imul, 1)) (k : mc_E own cc nL J (pc + 1) L (.int (x * y) :: st) w kc ks) : mc_E own cc nL J pc L (.int y :: .int x :: st) w kc ks :=
  fun p l e s m args below meth c H locs ls g X G R T hl => lv_imul X.1 X.2.1 hd (k p l e s m args below meth c H locs ls g X G R T hl)
theorem e_ladd {x y : Int64} (hd : decode cc pc = .ok (.ladd, 1)) (k : mc_E own cc nL J (pc + 1) L (.long (x + y) :: st) w kc ks) : mc_E own cc nL J pc L (.long y :: .long x :: st) w kc ks :=
  fun p l e s m args below meth c H locs ls g X G R T hl => lv_ladd X.1 X.2.1 hd (k p l e s m args below meth c H locs ls g X G R T hl)
theorem e_lsub {x y : Int64} (hd : decode cc pc = .ok (.lsub, 1)) (k : mc_E own cc nL J (pc + 1) L (.long (x - y) :: st) w kc ks) : mc_E own cc nL J pc L (.long y :: .long x :: st) w kc ks :=
  fun p l e s m args below meth c H locs ls g X G R T hl => lv_lsub X.1 X.2.1 hd (k p l e s m args below meth c H locs ls g X G R T hl)
theorem e_lmul {x y : Int64} (hd : decode cc pc = .ok (.lmul, 1)) (k : mc_E own cc nL J (pc + 1) L (.long (x * y) :: st) w kc ks) : mc_E own cc nL J pc L (.long y :: .long x :: st) w kc ks :=
  fun p l e s m args below meth c H locs ls g X G R T hl => lv_lmul X.1 X.2.1 hd (k p l e s m args below meth c H locs ls g X G R T hl)
theorem e_iand {x y : Int32} (hd : decode cc pc = .ok (.iand, 1)) (k : mc_E own cc nL J (pc + 1) L (.int (x &&& y) :: st) w kc ks) : mc_E own cc nL J pc L (.int y :: .int x :: st) w kc ks :=
  fun p l e s m args below meth c H locs ls g X G R T hl => lv_iand X.1 X.2.1 hd (k p l e s m args below meth c H locs ls g X G R T hl)
theorem e_ior {x y : Int32} (hd : decode cc pc = .ok (.ior, 1)) (k : mc_E own cc nL J (pc + 1) L (.int (x ||| y) :: st) w kc ks) : mc_E own cc nL J pc L (.int y :: .int x :: st) w kc ks :=
  fun p l e s m args below meth c H locs ls g X G R T hl => lv_ior X.1 X.2.1 hd (k p l e s m args below meth c H locs ls g X G R T hl)
theorem e_ishl {x y : Int32} (hd : decode cc pc = .ok (.ishl, 1)) (k : mc_E own cc nL J (pc + 1) L (.int (x <<< (y &&& 31)) :: st) w kc ks) : mc_E own cc nL J pc L (.int y :: .int x :: st) w kc ks :=
  fun p l e s m args below meth c H locs ls g X G R T hl => lv_ishl X.1 X.2.1 hd (k p l e s m args below meth c H locs ls g X G R T hl)
theorem e_ishr {x y : Int32} (hd : decode cc pc = .ok (.ishr, 1)) (k : mc_E own cc nL J (pc + 1) L (.int (x >>> (y &&& 31)) :: st) w kc ks) : mc_E own cc nL J pc L (.int y :: .int x :: st) w kc ks :=
  fun p l e s m args below meth c H locs ls g X G R T hl => lv_ishr X.1 X.2.1 hd (k p l e s m args below meth c H locs ls g X G R T hl)
theorem e_idiv {x y : Int32} (hd : decode cc pc = .ok (.idiv, 1)) (h : ¬ y = 0) (k : mc_E own cc nL J (pc + 1) L (.int (x / y) :: st) w kc ks) : mc_E own cc nL J pc L (.int y :: .int x :: st) w kc ks :=
  fun p l e s m args below meth c H locs ls g X G R T hl => lv_idiv X.1 X.2.1 hd h (k p l e s m args below meth c H locs ls g X G R T hl)
theorem e_irem {x y : Int32} (hd : decode cc pc = .ok (.irem, 1)) (h : ¬ y = 0) (k : mc_E own cc nL J (pc + 1) L (.int (x - x / y * y) :: st) w kc ks) : mc_E own cc nL J pc L (.int y :: .int x :: st) w kc ks :=
  fun p l e s m args below meth c H locs ls g X G R T hl => lv_irem X.1 X.2.1 hd h (k p l e s m args below meth c H locs ls g X G R T hl)
theorem e_ldiv {x y : Int64} (hd : decode cc pc = .ok (.ldiv, 1)) (h : ¬ y = 0) (k : mc_E own cc nL J (pc + 1) L (.long (x / y) :: st) w kc ks) : mc_E own cc nL J pc L (.long y :: .long x :: st) w kc ks :=
  fun p l e s m args below meth c H locs ls g X G R T hl => lv_ldiv X.1 X.2.1 hd h (k p l e s m args below meth c H locs ls g X G R T hl)
theorem e_lrem {x y : Int64} (hd : decode cc pc = .ok (.lrem, 1)) (h : ¬ y = 0) (k : mc_E own cc nL J (pc + 1) L (.long (x - x / y * y) :: st) w kc ks) : mc_E own cc nL J pc L (.long y :: .long x :: st) w kc ks :=
  fun p l e s m args below meth c H locs ls g X G R T hl => lv_lrem X.1 X.2.1 hd h (k p l e s m args below meth c H locs ls g X G R T hl)
theorem e_iushr {x y : Int32} (hd : decode cc pc = .ok (.iushr, 1)) (k : mc_E own cc nL J (pc + 1) L (.int ((x.toUInt32 >>> (y.toUInt32 &&& Int32.toUInt32 31)).toInt32) :: st) w kc ks) : mc_E own cc nL J pc L (.int y :: .int x :: st) w kc ks :=
  fun p l e s m args below meth c H locs ls g X G R T hl => lv_iushr X.1 X.2.1 hd rfl (k p l e s m args below meth c H locs ls g X G R T hl)
theorem e_ineg {x : Int32} (hd : decode cc pc = .ok (.ineg, 1)) (k : mc_E own cc nL J (pc + 1) L (.int (-x) :: st) w kc ks) : mc_E own cc nL J pc L (.int x :: st) w kc ks :=
  fun p l e s m args below meth c H locs ls g X G R T hl => lv_ineg X.1 X.2.1 hd (k p l e s m args below meth c H locs ls g X G R T hl)
theorem e_lneg {x : Int64} (hd : decode cc pc = .ok (.lneg, 1)) (k : mc_E own cc nL J (pc + 1) L (.long (-x) :: st) w kc ks) : mc_E own cc nL J pc L (.long x :: st) w kc ks :=
  fun p l e s m args below meth c H locs ls g X G R T hl => lv_lneg X.1 X.2.1 hd (k p l e s m args below meth c H locs ls g X G R T hl)
theorem e_i2l {x : Int32} (hd : decode cc pc = .ok (.i2l, 1)) (k : mc_E own cc nL J (pc + 1) L (.long x.toInt64 :: st) w kc ks) : mc_E own cc nL J pc L (.int x :: st) w kc ks :=
  fun p l e s m args below meth c H locs ls g X G R T hl => lv_i2l X.1 X.2.1 hd rfl (k p l e s m args below meth c H locs ls g X G R T hl)
theorem e_l2i {x : Int64} (hd : decode cc pc = .ok (.l2i, 1)) (k : mc_E own cc nL J (pc + 1) L (.int x.toInt32 :: st) w kc ks) : mc_E own cc nL J pc L (.long x :: st) w kc ks :=
  fun p l e s m args below meth c H locs ls g X G R T hl => lv_l2i X.1 X.2.1 hd rfl (k p l e s m args below meth c H locs ls g X G R T hl)
theorem e_i2b {x : Int32} (hd : decode cc pc = .ok (.i2b, 1)) (k : mc_E own cc nL J (pc + 1) L (.int x.toInt8.toInt32 :: st) w kc ks) : mc_E own cc nL J pc L (.int x :: st) w kc ks :=
  fun p l e s m args below meth c H locs ls g X G R T hl => lv_i2b X.1 X.2.1 hd rfl (k p l e s m args below meth c H locs ls g X G R T hl)
theorem e_i2s {x : Int32} (hd : decode cc pc = .ok (.i2s, 1)) (k : mc_E own cc nL J (pc + 1) L (.int x.toInt16.toInt32 :: st) w kc ks) : mc_E own cc nL J pc L (.int x :: st) w kc ks :=
  fun p l e s m args below meth c H locs ls g X G R T hl => lv_i2s X.1 X.2.1 hd rfl (k p l e s m args below meth c H locs ls g X G R T hl)
theorem e_i2c {x : Int32} (hd : decode cc pc = .ok (.i2c, 1)) (k : mc_E own cc nL J (pc + 1) L (.int (x.toUInt32 % 65536).toInt32 :: st) w kc ks) : mc_E own cc nL J pc L (.int x :: st) w kc ks :=
  fun p l e s m args below meth c H locs ls g X G R T hl => lv_i2c X.1 X.2.1 hd rfl (k p l e s m args below meth c H locs ls g X G R T hl)
theorem e_lcmp {x y : Int64} (hd : decode cc pc = .ok (.lcmp, 1)) (k : mc_E own cc nL J (pc + 1) L (.int (lg_cmp x y) :: st) w kc ks) : mc_E own cc nL J pc L (.long y :: .long x :: st) w kc ks :=
  fun p l e s m args below meth c H locs ls g X G R T hl => W.lcmp X.1 X.2.1 hd (k p l e s m args below meth c H locs ls g X G R T hl)
theorem e_dup {v : Value} (hd : decode cc pc = .ok (.dup, 1)) (hv : v.category = 1) (k : mc_E own cc nL J (pc + 1) L (v :: v :: st) w kc ks) : mc_E own cc nL J pc L (v :: st) w kc ks :=
  fun p l e s m args below meth c H locs ls g X G R T hl => lv_dup X.1 X.2.1 hd ((mc_vm_cat g v).trans hv) (k p l e s m args below meth c H locs ls g X G R T hl)
theorem e_pop {v : Value} (hd : decode cc pc = .ok (.pop, 1)) (hv : v.category = 1) (k : mc_E own cc nL J (pc + 1) L st w kc ks) : mc_E own cc nL J pc L (v :: st) w kc ks :=
  fun p l e s m args below meth c H locs ls g X G R T hl => lv_pop X.1 X.2.1 hd ((mc_vm_cat g v).trans hv) (k p l e s m args below meth c H locs ls g X G R T hl)
theorem e_dup2 {v u : Value} (hd : decode cc pc = .ok (.dup2, 1)) (hv : v.category = 1) (hu : u.category = 1) (k : mc_E own cc nL J (pc + 1) L (v :: u :: v :: u :: st) w kc ks) : mc_E own cc nL J pc L (v :: u :: st) w kc ks :=
  fun p l e s m args below meth c H locs ls g X G R T hl => lv_dup2_11 X.1 X.2.1 hd ((mc_vm_cat g v).trans hv) ((mc_vm_cat g u).trans hu) (k p l e s m args below meth c H locs ls g X G R T hl)
theorem e_dupx1 {v u : Value} (hd : decode cc pc = .ok (.dup_x1, 1)) (hv : v.category = 1) (hu : u.category = 1) (k : mc_E own cc nL J (pc + 1) L (v :: u :: v :: st) w kc ks) : mc_E own cc nL J pc L (v :: u :: st) w kc ks :=
  fun p l e s m args below meth c H locs ls g X G R T hl => lv_dup_x1 X.1 X.2.1 hd ((mc_vm_cat g v).trans hv) ((mc_vm_cat g u).trans hu) (k p l e s m args below meth c H locs ls g X G R T hl)
theorem e_goto {o : Int} {t : Nat} (hd : decode cc pc = .ok (.goto o, 3)) (ht : (pc : Int) + o = (t : Int)) (k : mc_E own cc nL J t L st w kc ks) : mc_E own cc nL J pc L st w kc ks :=
  fun p l e s m args below meth c H locs ls g X G R T hl => lv_goto X.1 X.2.1 hd ht (k p l e s m args below meth c H locs ls g X G R T hl)
theorem e_ifnullN {o : Int} {t : Nat} (hd : decode cc pc = .ok (.ifnull o, 3)) (ht : (pc : Int) + o = (t : Int)) (k : mc_E own cc nL J t L st w kc ks) : mc_E own cc nL J pc L (.null :: st) w kc ks :=
  fun p l e s m args below meth c H locs ls g X G R T hl => lv_ifnullN X.1 X.2.1 hd ht (k p l e s m args below meth c H locs ls g X G R T hl)
theorem e_ifnull {o : Int} {x : Nat} (hd : decode cc pc = .ok (.ifnull o, 3)) (k : mc_E own cc nL J (pc + 3) L st w kc ks) : mc_E own cc nL J pc L (.ref x :: st) w kc ks :=
  fun p l e s m args below meth c H locs ls g X G R T hl => lv_ifnull X.1 X.2.1 hd (k p l e s m args below meth c H locs ls g X G R T hl)
theorem e_ifnonnullN {o : Int} (hd : decode cc pc = .ok (.ifnonnull o, 3)) (k : mc_E own cc nL J (pc + 3) L st w kc ks) : mc_E own cc nL J pc L (.null :: st) w kc ks :=
  fun p l e s m args below meth c H locs ls g X G R T hl => lv_ifnonnullN X.1 X.2.1 hd (k p l e s m args below meth c H locs ls g X G R T hl)
theorem e_ifnonnull {o : Int} {t x : Nat} (hd : decode cc pc = .ok (.ifnonnull o, 3)) (ht : (pc : Int) + o = (t : Int)) (k : mc_E own cc nL J t L st w kc ks) : mc_E own cc nL J pc L (.ref x :: st) w kc ks :=
  fun p l e s m args below meth c H locs ls g X G R T hl => lv_ifnonnull X.1 X.2.1 hd ht (k p l e s m args below meth c H locs ls g X G R T hl)
theorem e_if_eq {x : Int32} {o : Int} {t : Nat} (hd : decode cc pc = .ok (.ifCond .eq o, 3)) (ht : (pc : Int) + o = (t : Int)) (kt : x = 0 → mc_E own cc nL J t L st w kc ks) (kf : ¬ (x = 0) → mc_E own cc nL J (pc + 3) L st w kc ks) : mc_E own cc nL J pc L (.int x :: st) w kc ks :=
  fun p l e s m args below meth c H locs ls g X G R T hl => lv_if_eq X.1 X.2.1 hd ht (fun h => kt h p l e s m args below meth c H locs ls g X G R T hl) (fun h => kf h p l e s m args below meth c H locs ls g X G R T hl)
theorem e_icmp_eq {x y : Int32} {o : Int} {t : Nat} (hd : decode cc pc = .ok (.if_icmp .eq o, 3)) (ht : (pc : Int) + o = (t : Int)) (kt : x = y → mc_E own cc nL J t L st w kc ks) (kf : ¬ (x = y) → mc_E own cc nL J (pc + 3) L st w kc ks) : mc_E own cc nL J pc L (.int y :: .int x :: st) w kc ks :=
  fun p l e s m args below meth c H locs ls g X G R T hl => lv_icmp_eq X.1 X.2.1 hd ht (fun h => kt h p l e s m args below meth c H locs ls g X G R T hl) (fun h => kf h p l e s m args below meth c H locs ls g X G R T hl)
theorem e_if_ne {x : Int32} {o : Int} {t : Nat} (hd : decode cc pc = .ok (.ifCond .ne o, 3)) (ht : (pc : Int) + o = (t : Int)) (kt : ¬ x = 0 → mc_E own cc nL J t L st w kc ks) (kf : x = 0 → mc_E own cc nL J (pc + 3) L st w kc ks) : mc_E own cc nL J pc L (.int x :: st) w kc ks :=
  fun p l e s m args below meth c H locs ls g X G R T hl => lv_if_ne X.1 X.2.1 hd ht (fun h => kt h p l e s m args below meth c H locs ls g X G R T hl) (fun h => kf h p l e s m args below meth c H locs ls g X G R T hl)
theorem e_icmp_ne {x y : Int32} {o : Int} {t : Nat} (hd : decode cc pc = .ok (.if_icmp .ne o, 3)) (ht : (pc : Int) + o = (t : Int)) (kt : ¬ x = y → mc_E own cc nL J t L st w kc ks) (kf : x = y → mc_E own cc nL J (pc + 3) L st w kc ks) : mc_E own cc nL J pc L (.int y :: .int x :: st) w kc ks :=
  fun p l e s m args below meth c H locs ls g X G R T hl => lv_icmp_ne X.1 X.2.1 hd ht (fun h => kt h p l e s m args below meth c H locs ls g X G R T hl) (fun h => kf h p l e s m args below meth c H locs ls g X G R T hl)
theorem e_if_lt {x : Int32} {o : Int} {t : Nat} (hd : decode cc pc = .ok (.ifCond .lt o, 3)) (ht : (pc : Int) + o = (t : Int)) (kt : x < 0 → mc_E own cc nL J t L st w kc ks) (kf : ¬ (x < 0) → mc_E own cc nL J (pc + 3) L st w kc ks) : mc_E own cc nL J pc L (.int x :: st) w kc ks :=
  fun p l e s m args below meth c H locs ls g X G R T hl => lv_if_lt X.1 X.2.1 hd ht (fun h => kt h p l e s m args below meth c H locs ls g X G R T hl) (fun h => kf h p l e s m args below meth c H locs ls g X G R T hl)
theorem e_icmp_lt {x y : Int32} {o : Int} {t : Nat} (hd : decode cc pc = .ok (.if_icmp .lt o, 3)) (ht : (pc : Int) + o = (t : Int)) (kt : x < y → mc_E own cc nL J t L st w kc ks) (kf : ¬ (x < y) → mc_E own cc nL J (pc + 3) L st w kc ks) : mc_E own cc nL J pc L (.int y :: .int x :: st) w kc ks :=
  fun p l e s m args below meth c H locs ls g X G R T hl => lv_icmp_lt X.1 X.2.1 hd ht (fun h => kt h p l e s m args below meth c H locs ls g X G R T hl) (fun h => kf h p l e s m args below meth c H locs ls g X G R T hl)
theorem e_if_ge {x : Int32} {o : Int} {t : Nat} (hd : decode cc pc = .ok (.ifCond .ge o, 3)) (ht : (pc : Int) + o = (t : Int)) (kt : 0 ≤ x → mc_E own cc nL J t L st w kc ks) (kf : ¬ (0 ≤ x) → mc_E own cc nL J (pc + 3) L st w kc ks) : mc_E own cc nL J pc L (.int x :: st) w kc ks :=
  fun p l e s m args below meth c H locs ls g X G R T hl => lv_if_ge X.1 X.2.1 hd ht (fun h => kt h p l e s m args below meth c H locs ls g X G R T hl) (fun h => kf h p l e s m args below meth c H locs ls g X G R T hl)
theorem e_icmp_ge {x y : Int32} {o : Int} {t : Nat} (hd : decode cc pc = .ok (.if_icmp .ge o, 3)) (ht : (pc : Int) + o = (t : Int)) (kt : y ≤ x → mc_E own cc nL J t L st w kc ks) (kf : ¬ (y ≤ x) → mc_E own cc nL J (pc + 3) L st w kc ks) : mc_E own cc nL J pc L (.int y :: .int x :: st) w kc ks :=
  fun p l e s m args below meth c H locs ls g X G R T hl => lv_icmp_ge X.1 X.2.1 hd ht (fun h => kt h p l e s m args below meth c H locs ls g X G R T hl) (fun h => kf h p l e s m args below meth c H locs ls g X G R T hl)
theorem e_if_gt {x : Int32} {o : Int} {t : Nat} (hd : decode cc pc = .ok (.ifCond .gt o, 3)) (ht : (pc : Int) + o = (t : Int)) (kt : 0 < x → mc_E own cc nL J t L st w kc ks) (kf : ¬ (0 < x) → mc_E own cc nL J (pc + 3) L st w kc ks) : mc_E own cc nL J pc L (.int x :: st) w kc ks :=
  fun p l e s m args below meth c H locs ls g X G R T hl => lv_if_gt X.1 X.2.1 hd ht (fun h => kt h p l e s m args below meth c H locs ls g X G R T hl) (fun h => kf h p l e s m args below meth c H locs ls g X G R T hl)
theorem e_icmp_gt {x y : Int32} {o : Int} {t : Nat} (hd : decode cc pc = .ok (.if_icmp .gt o, 3)) (ht : (pc : Int) + o = (t : Int)) (kt : y < x → mc_E own cc nL J t L st w kc ks) (kf : ¬ (y < x) → mc_E own cc nL J (pc + 3) L st w kc ks) : mc_E own cc nL J pc L (.int y :: .int x :: st) w kc ks :=
  fun p l e s m args below meth c H locs ls g X G R T hl => lv_icmp_gt X.1 X.2.1 hd ht (fun h => kt h p l e s m args below meth c H locs ls g X G R T hl) (fun h => kf h p l e s m args below meth c H locs ls g X G R T hl)
theorem e_if_le {x : Int32} {o : Int} {t : Nat} (hd : decode cc pc = .ok (.ifCond .le o, 3)) (ht : (pc : Int) + o = (t : Int)) (kt : x ≤ 0 → mc_E own cc nL J t L st w kc ks) (kf : ¬ (x ≤ 0) → mc_E own cc nL J (pc + 3) L st w kc ks) : mc_E own cc nL J pc L (.int x :: st) w kc ks :=
  fun p l e s m args below meth c H locs ls g X G R T hl => lv_if_le X.1 X.2.1 hd ht (fun h => kt h p l e s m args below meth c H locs ls g X G R T hl) (fun h => kf h p l e s m args below meth c H locs ls g X G R T hl)
theorem e_icmp_le {x y : Int32} {o : Int} {t : Nat} (hd : decode cc pc = .ok (.if_icmp .le o, 3)) (ht : (pc : Int) + o = (t : Int)) (kt : x ≤ y → mc_E own cc nL J t L st w kc ks) (kf : ¬ (x ≤ y) → mc_E own cc nL J (pc + 3) L st w kc ks) : mc_E own cc nL J pc L (.int y :: .int x :: st) w kc ks :=
  fun p l e s m args below meth c H locs ls g X G R T hl => lv_icmp_le X.1 X.2.1 hd ht (fun h => kt h p l e s m args below meth c H locs ls g X G R T hl) (fun h => kf h p l e s m args below meth c H locs ls g X G R T hl)
theorem e_tabOut {dflt lo hi : Int} {offs : Array Int} {len t : Nat} {x : Int32} (hd : decode cc pc = .ok (.tableswitch dflt lo hi offs, len)) (h : x.toInt < lo ∨ hi < x.toInt) (ht : (pc : Int) + dflt = (t : Int)) (k : mc_E own cc nL J t L st w kc ks) : mc_E own cc nL J pc L (.int x :: st) w kc ks :=
  fun p l e s m args below meth c H locs ls g X G R T hl => lv_tableOut X.1 X.2.1 hd h ht (k p l e s m args below meth c H locs ls g X G R T hl)
theorem e_tabIn {dflt lo hi o : Int} {offs : Array Int} {len t : Nat} {x : Int32} (hd : decode cc pc = .ok (.tableswitch dflt lo hi offs, len)) (h1 : ¬ x.toInt < lo) (h2 : ¬ hi < x.toInt) (ho : offs[(x.toInt - lo).toNat]? = some o) (ht : (pc : Int) + o = (t : Int)) (k : mc_E own cc nL J t L st w kc ks) : mc_E own cc nL J pc L (.int x :: st) w kc ks :=
  fun p l e s m args below meth c H locs ls g X G R T hl => lv_tableIn X.1 X.2.1 hd h1 h2 ho ht (k p l e s m args below meth c H locs ls g X G R T hl)
theorem e_widen {kc' ks' : Nat} (h1 : kc ≤ kc') (h2 : ks ≤ ks') (k : mc_E own cc nL J pc L st w kc' ks') : mc_E own cc nL J pc L st w kc ks :=
  fun p l e s m args below meth c H locs ls g X G R T hl => W.widen h1 h2 (k p l e s m args below meth c H locs ls g X G R T hl)
theorem e_weak {L' : List (Option Value)} (h : ∀ (j : Nat) (v : Value), L'[j]? = some (some v) → L[j]? = some (some v)) (k : mc_E own cc nL J pc L' st w kc ks) : mc_E own cc nL J pc L st w kc ks :=
  fun p l e s m args below meth c H locs ls g X G R T hl => k p l e s m args below meth c H locs ls g X G R T (mc_lv_weak hl (fun j v hj => by simpa using mc_as_of (g := g) L 0 j v (h j v hj)))
end Rules
end Zj_04_rules
section Zj_05_heap
/-! fields, rows, new cells -/
def mc_CF (ci : Nat) (C : String) (T : u_T) (N : Nat) (ty : Nat → FieldType) : Prop :=
  mc_cl[ci]? = some (C, T, N) ∧ (∀ w ∈ u_ws C T N, w ∈ mc_WS) ∧ (∀ k, k < N → parseFieldDescriptor (T k).2.2.1 = some (ty k)) ∧ (∀ a, a < N → ∀ b, b < N → a ≠ b → (T a).2.1 ≠ (T b).2.1)
/-- what the pool of a kind says of a field, to read it -/
def mc_FL (own : String) (i ci k : Nat) : Prop := ∃ (C : String) (T : u_T) (N : Nat) (ty : Nat → FieldType), mc_CF ci C T N ty ∧ k < N ∧ Cond.fieldLink own i (T k).1 (T k).2.1 (T k).2.2.1 ∈ mc_WS
/-- and to write it; final: by its own kind alone -/
def mc_FP (own : String) (i ci k : Nat) (t : FieldType) (fin : Bool) : Prop := ∃ (C : String) (T : u_T) (N : Nat) (ty : Nat → FieldType), mc_CF ci C T N ty ∧ k < N ∧ Cond.fieldLink own i (T k).1 (T k).2.1 (T k).2.2.1 ∈ mc_WS ∧ parseFieldDescriptor (T k).2.2.1 = some t ∧ (T k).2.2.2 = fin ∧ (T k).1 = own
def mc_fit : FieldType → Value → Bool
  | .int, .int _ => true
  | .boolean, .int v => v == 0 || v == 1
  | .object _, .null => true
  | .object _, .ref _ => true
  | .array _, .null => true
  | .array _, .ref _ => true
  | _, _ => false
theorem mc_fit_ok {g : mc_G} {t : FieldType} {v : Value} (h : mc_fit t v = true) : narrow t (mc_vm g v) = mc_vm g v ∧ fits t (mc_vm g v) = true := by
  cases t <;> cases v <;> first | exact ⟨rfl, rfl⟩ | (simp [mc_fit] at h; done) | skip
  rename_i v
  simp only [mc_fit, Bool.or_eq_true, beq_iff_eq] at h
  rcases h with rfl | rfl <;> exact ⟨rfl, rfl⟩
theorem mc_ra_lt {g : mc_G} {a : Nat} (h : a < 1000000) : mc_ra g a = g.1 + a := if_pos h
theorem mc_lt_of {w : mc_W} {a : Nat} {c : mc_C} (h : w[a]? = some c) (hl : w.length ≤ 1000000) : a < 1000000 := Nat.lt_of_lt_of_le (List.getElem?_eq_some_iff.mp h).1 hl
section Heaps
variable {p : Program} {l : Launch} {e : Env} {R : Room} {s : State} {m : MethodId} {args : Array Value} {below : List Frame} {meth : Method} {c : Code} {H : Heap} {locs : List Loc} {cells slots : Nat} {Q : State → Prop}
variable {cc : ByteArray} {pc : Nat} {ls : Array Slot} {rest : List Value} {g : mc_G} {w : mc_W}
/-- a store into one cell of the world -/
theorem mc_Rel_set {a : Nat} {c0 c1 : mc_C} {H1 : Heap} {k : Nat} (R0 : mc_Rel g w s H locs) (h : w[a]? = some c0) (he : va_at g.2.1 mc_cl (g.1 + a, mc_em g c1) H1) (hz : H1.size = H.size) (oq : ∀ q : Nat, q ≠ g.1 + a → H1[q]? = H[q]?) : mc_Rel g (w.set a c1) s H1 (locs ++ [⟨g.1 + a, k⟩]) := by
  obtain ⟨h1, h2, h3, h4⟩ := R0
  refine ⟨by rw [hz, h1, List.length_set], ?_, h3.put hz oq (Nat.le_add_right _ _), by rw [List.length_set]; exact h4⟩
  rw [mc_rl_set]
  exact h2.set (mc_rl_D g w) (mc_rl_at h) he oq
theorem mc_put (hx : p.tables.exec = Jvm.exec) (hb : c.code = cc) {own : String} {i ci k a : Nat} {t : FieldType} {fin : Bool} {fs : List Value} {v : Value} (hf : mc_FP own i ci k t fin) (hin : fin = true → meth.name = "<init>") (hts : ∀ w ∈ mc_WS, w.before args s = true) (hown : s.vm.findClass own = some m.cls) (hK : va_K g.2.1 mc_cl (mc_tys g) s) (R0 : mc_Rel g w s H locs) (hw : w[a]? = some (.inl (ci, fs))) (hl : k < fs.length) (hv : mc_fit t v = true) (hd : decode cc pc = .ok (.putfield i, 3))
    (kk : ∀ (H1 : Heap) (locs1 : List Loc), mc_Rel g (w.set a (.inl (ci, fs.set k v))) s H1 locs1 → W p l e R s m args below meth c H1 locs1 cells slots Q (F0 m (pc + 3) ls rest)) : W p l e R s m args below meth c H locs cells slots Q (F0 m pc ls (mc_vm g v :: .ref (g.1 + a) :: rest)) := by
  obtain ⟨C, T, N, ty, ⟨hc, hws, hty, hnm⟩, hk, hlink, hp, hfin, hdecl⟩ := hf
  have hap := va_apart (own := own) hts hws ty hty hnm hK hc
  obtain ⟨hn, hfit⟩ := mc_fit_ok (g := g) hv
  obtain ⟨r, h1, cell, q1, q2, q3, q4⟩ := R0.2.1 a _ (mc_rl_at hw)
  have hr : r = (C, T, N) := Option.some.inj (h1.symm.trans hc)
  subst hr
  obtain ⟨hS, hfc, kC, hkC, hkind⟩ := hK.1 ci _ hc
  obtain ⟨cf, kf, fi, f, hi, hsl⟩ := hS k hk
  have hll := hts _ hlink
  have hlay := u_lays hts hws hk
  have hst := (u_facts hfc hkC hlay hi).1
  have fin2 : ∀ (H' : Heap), H'[g.1 + a]? = some (cell.setSlot f.slot (mc_vm g v)) → H'.size = H.size → (∀ q, q ≠ g.1 + a → H'[q]? = H[q]?) → W p l e R s m args below meth c H' (locs ++ [⟨g.1 + a, f.slot⟩]) cells slots Q (F0 m (pc + 3) ls rest) := by
    intro H' e1 e2 e3
    rw [hsl] at e1
    refine kk H' _ (mc_Rel_set R0 hw ?_ e2 e3)
    refine ⟨_, hc, t_OB.to (V := updV (vp_V (fs.map (mc_vm g))) k (mc_vm g v)) ⟨_, e1, q2, q3, t_set q4 hap hk _⟩ (fun j _ => ?_)⟩
    show _ = vp_V ((fs.set k v).map (mc_vm g)) j
    rw [List.map_set]
    exact vp_updV_set (by simpa using hl) _ j
  cases fin with
  | false =>
    have hlay2 := hts _ (hws _ (u_in_lay hk))
    unfold u_lay at hlay2
    rw [if_neg (by rw [hfin]; decide)] at hlay2
    have h6 := u_store hfc hkC hkind hlay2 hi hp hn hfit
    exact W.putK hx hb (f := f) ⟨hown, hll, ⟨_, _, _, hi⟩, hst⟩ (by rw [q2]; exact h6) q1 q3 (by rw [hsl]; exact k2_hasslot (q4 k hk)) rfl rfl hd fin2
  | true =>
    have hlay2 := hts _ (hws _ (u_in_lay hk))
    unfold u_lay at hlay2
    rw [if_pos hfin] at hlay2
    have hcf : m.cls = cf := by
      obtain ⟨_, _, c', _, _, _, -, -, hf', -, -, -, hown2, -⟩ := Cond.laysFinal_spec hlay2
      have e1 : c' = cf := by have := hi.symm.trans hf'; simp at this; exact this.1.symm
      rw [hdecl] at hown2
      rw [← e1]; exact Option.some.inj (hown.symm.trans hown2)
    have h6 := u_fits hfc hkC hkind (Or.inr hlay2) hi hp hn hfit
    exact W.putFinK hx hb hown hll hi hst hcf (hin rfl) (by rw [q2]; exact h6) q1 q3 (by rw [hsl]; exact k2_hasslot (q4 k hk)) rfl rfl hd fin2
theorem mc_getD_set {α : Type} (xs : List α) (k : Nat) (x d : α) (hk : k < xs.length) : (fun j => (xs.set k x).getD j d) = fun j => if j = k then x else xs.getD j d := by
  funext j
  rw [List.getD_eq_getElem?_getD, List.getElem?_set, List.getD_eq_getElem?_getD]
  by_cases h : k = j
  · subst h; simp [hk]
  · rw [if_neg h, if_neg (fun q => h q.symm)]
theorem mc_iast (hx : p.tables.exec = Jvm.exec) (hb : c.code = cc) {a : Nat} {xs : List Int32} {i x : Int32} (hK : va_K g.2.1 mc_cl (mc_tys g) s) (R0 : mc_Rel g w s H locs) (hw : w[a]? = some (.inr (.inl xs))) (hin : vp_in i xs.length) (hd : decode cc pc = .ok (.iastore, 1))
    (kk : ∀ (H1 : Heap) (locs1 : List Loc), mc_Rel g (w.set a (.inr (.inl (xs.set i.toNatClampNeg x)))) s H1 locs1 → W p l e R s m args below meth c H1 locs1 cells slots Q (F0 m (pc + 1) ls rest)) : W p l e R s m args below meth c H locs cells slots Q (F0 m pc ls (.int x :: .int i :: .ref (g.1 + a) :: rest)) := by
  have ha := mc_rl_at (g := g) hw
  have ht : (mc_tys g)[0]? = some (g.2.2.1 0, .int) := rfl
  have hlt : i.toNatClampNeg < xs.length := Nat.not_le.mp fun q => hin (Or.inr q)
  refine W.iast hx hb (R0.2.1 a _ ha) ((hK.2 0 _ ht).1 xs.length (fun j => .int (xs.getD j 0))) (fun q => by cases q) (by show ¬ (i < 0 ∨ (arrV _ _ _).slots.size ≤ _); rw [arrV_size]; exact hin) rfl rfl hd fun H1 e1 z oq => ?_
  refine kk H1 _ (mc_Rel_set R0 hw ?_ z oq)
  show H1[g.1 + a]? = some (vp_cell _ _)
  rw [e1]
  show some ((vp_cell (g.2.2.1 0) (xs.length, .inl (fun j => xs.getD j 0))).setSlot i.toNatClampNeg (.int x)) = some (vp_cell (g.2.2.1 0) ((xs.set i.toNatClampNeg x).length, .inl (fun j => (xs.set i.toNatClampNeg x).getD j 0)))
  rw [List.length_set, mc_getD_set xs _ x 0 hlt, vp_cell_i, vp_cell_i, arrV_store]
  congr 2
  funext q
  by_cases hq : q = i.toNatClampNeg
  · subst hq
    simp [updV]
  · simp [updV, hq]
theorem mc_Rel_push {c1 : mc_C} {H1 : Heap} (R0 : mc_Rel g w s H locs) (hn : w.length < 1000000) (he : va_at g.2.1 mc_cl (g.1 + w.length, mc_em g c1) H1) (hz : H1.size = H.size + 1) (oq : ∀ q : Nat, q < H.size → H1[q]? = H[q]?) : mc_Rel g (w ++ [c1]) s H1 locs := by
  obtain ⟨h1, h2, h3, h4⟩ := R0
  have hk : ∀ (k : Nat) (x : Nat × va_E), (mc_rl g w)[k]? = some x → H1[x.1]? = H[x.1]? := fun k x hx => oq x.1 ((h2 k x hx).lt)
  refine ⟨by rw [hz, h1, List.length_append]; rfl, ?_, ⟨Nat.le_trans h3.1 (by omega), fun x g1 g2 => (oq x (Nat.lt_of_lt_of_le g1 h3.1)).trans (h3.2.1 x g1 g2), h3.2.2⟩, by rw [List.length_append]; exact hn⟩
  rw [mc_rl_push]
  refine (h2.kept hk).app (fun k x hx => ?_)
  have hz : k < 1 := (List.getElem?_eq_some_iff.mp hx).1
  rw [show k = 0 by omega] at hx
  cases hx
  exact he
end Heaps
section Rules2
variable {own : String} {cc : ByteArray} {nL : Nat} {J : mc_J} {pc : Nat} {L : List (Option Value)} {st : List Value} {w : mc_W} {kc ks : Nat}
theorem e_get {i ci k a : Nat} {fs : List Value} {v : Value} (hd : decode cc pc = .ok (.getfield i, 3)) (hf : mc_FL own i ci k) (hw : w[a]? = some (.inl (ci, fs))) (hv : fs[k]? = some v) (kk : mc_E own cc nL J (pc + 3) L (v :: st) w kc ks) : mc_E own cc nL J pc L (.ref a :: st) w kc ks := by
  intro p l e s m args below meth c H locs ls g X G R T hl
  obtain ⟨C, T', N, ty, ⟨hc, hws, -, -⟩, hk, hlink⟩ := hf
  have ea : mc_ra g a = g.1 + a := mc_ra_lt (mc_lt_of hw R.2.2.2)
  show W _ _ _ _ _ _ _ _ _ _ _ _ _ _ _ (F0 m pc ls (.ref (mc_ra g a) :: st.map (mc_vm g)))
  rw [ea]
  exact va_get X.1 X.2.1 X.2.2.2.2.1 hws X.2.2.2.1 G.1 R.2.1 a (mc_rl_at hw) hc k hk (X.2.2.2.2.1 _ hlink) (fun x h => h) (v := mc_vm g v) (by rw [List.getElem?_map, hv]; rfl) hd (kk p l e s m args below meth c H locs ls g X G R T hl)
theorem e_put {i ci k a : Nat} {t : FieldType} {fs : List Value} {v : Value} (hd : decode cc pc = .ok (.putfield i, 3)) (hf : mc_FP own i ci k t false) (hw : w[a]? = some (.inl (ci, fs))) (hk : k < fs.length) (hv : mc_fit t v = true) (kk : mc_E own cc nL J (pc + 3) L st (w.set a (.inl (ci, fs.set k v))) kc ks) : mc_E own cc nL J pc L (v :: .ref a :: st) w kc ks := by
  intro p l e s m args below meth c H locs ls g X G R T hl
  have ea : mc_ra g a = g.1 + a := mc_ra_lt (mc_lt_of hw R.2.2.2)
  show W _ _ _ _ _ _ _ _ _ _ _ _ _ _ _ (F0 m pc ls (mc_vm g v :: .ref (mc_ra g a) :: st.map (mc_vm g)))
  rw [ea]
  exact mc_put X.1 X.2.1 hf (fun h => by cases h) X.2.2.2.2.1 X.2.2.2.1 G.1 R hw hk hv hd (fun H1 locs1 R1 => kk p l e s m args below meth c H1 locs1 ls g X G R1 T hl)
theorem e_putF {i ci k a : Nat} {t : FieldType} {fs : List Value} {v : Value} (hd : decode cc pc = .ok (.putfield i, 3)) (hf : mc_FP own i ci k t true) (hJ : J.2.1 = true) (hw : w[a]? = some (.inl (ci, fs))) (hk : k < fs.length) (hv : mc_fit t v = true) (kk : mc_E own cc nL J (pc + 3) L st (w.set a (.inl (ci, fs.set k v))) kc ks) : mc_E own cc nL J pc L (v :: .ref a :: st) w kc ks := by
  intro p l e s m args below meth c H locs ls g X G R T hl
  have ea : mc_ra g a = g.1 + a := mc_ra_lt (mc_lt_of hw R.2.2.2)
  show W _ _ _ _ _ _ _ _ _ _ _ _ _ _ _ (F0 m pc ls (mc_vm g v :: .ref (mc_ra g a) :: st.map (mc_vm g)))
  rw [ea]
  exact mc_put X.1 X.2.1 hf (fun _ => X.2.2.2.2.2.2.2 hJ) X.2.2.2.2.1 X.2.2.2.1 G.1 R hw hk hv hd (fun H1 locs1 R1 => kk p l e s m args below meth c H1 locs1 ls g X G R1 T hl)
theorem e_iald {a : Nat} {xs : List Int32} {i x : Int32} (hd : decode cc pc = .ok (.iaload, 1)) (hw : w[a]? = some (.inr (.inl xs))) (hi : vp_in i xs.length) (hx : xs.getD i.toNatClampNeg 0 = x) (kk : mc_E own cc nL J (pc + 1) L (.int x :: st) w kc ks) : mc_E own cc nL J pc L (.int i :: .ref a :: st) w kc ks := by
  intro p l e s m args below meth c H locs ls g X G R T hl
  subst hx
  have ea : mc_ra g a = g.1 + a := mc_ra_lt (mc_lt_of hw R.2.2.2)
  show W _ _ _ _ _ _ _ _ _ _ _ _ _ _ _ (F0 m pc ls (.int i :: .ref (mc_ra g a) :: st.map (mc_vm g)))
  rw [ea]
  exact va_iald X.1 X.2.1 G.1 R.2.1 a 0 (mc_rl_at hw) rfl hi hd (kk p l e s m args below meth c H locs ls g X G R T hl)
theorem e_iast {a : Nat} {xs : List Int32} {i x : Int32} (hd : decode cc pc = .ok (.iastore, 1)) (hw : w[a]? = some (.inr (.inl xs))) (hi : vp_in i xs.length) (kk : mc_E own cc nL J (pc + 1) L st (w.set a (.inr (.inl (xs.set i.toNatClampNeg x)))) kc ks) : mc_E own cc nL J pc L (.int x :: .int i :: .ref a :: st) w kc ks := by
  intro p l e s m args below meth c H locs ls g X G R T hl
  have ea : mc_ra g a = g.1 + a := mc_ra_lt (mc_lt_of hw R.2.2.2)
  show W _ _ _ _ _ _ _ _ _ _ _ _ _ _ _ (F0 m pc ls (.int x :: .int i :: .ref (mc_ra g a) :: st.map (mc_vm g)))
  rw [ea]
  exact mc_iast X.1 X.2.1 G.1 R hw hi hd (fun H1 locs1 R1 => kk p l e s m args below meth c H1 locs1 ls g X G R1 T hl)
theorem e_alen {a : Nat} {xs : List Int32} {v : Int32} (hd : decode cc pc = .ok (.arraylength, 1)) (hw : w[a]? = some (.inr (.inl xs))) (hv : Int32.ofNat xs.length = v) (kk : mc_E own cc nL J (pc + 1) L (.int v :: st) w kc ks) : mc_E own cc nL J pc L (.ref a :: st) w kc ks := by
  intro p l e s m args below meth c H locs ls g X G R T hl
  have ea : mc_ra g a = g.1 + a := mc_ra_lt (mc_lt_of hw R.2.2.2)
  show W _ _ _ _ _ _ _ _ _ _ _ _ _ _ _ (F0 m pc ls (.ref (mc_ra g a) :: st.map (mc_vm g)))
  rw [ea]
  exact va_alen X.1 X.2.1 G.1 R.2.1 a 0 (mc_rl_at hw) (ty := .int) rfl hv hd (kk p l e s m args below meth c H locs ls g X G R T hl)
end Rules2
end Zj_05_heap
section Zj_06_calls
/-! new cells, rows of references, copies, calls, answers -/
def mc_cpy (xs ys : List Int32) (sp dp n : Nat) : List Int32 := (List.range ys.length).map (fun j => if dp ≤ j ∧ j < dp + n then xs.getD (sp + (j - dp)) 0 else ys.getD j 0)
theorem mc_cpy_len (xs ys : List Int32) (sp dp n : Nat) : (mc_cpy xs ys sp dp n).length = ys.length := by simp [mc_cpy]
theorem mc_cpy_get (xs ys : List Int32) (sp dp n : Nat) (h : dp + n ≤ ys.length) : (fun j => (mc_cpy xs ys sp dp n).getD j 0) = va_cpy (fun j => xs.getD j 0) (fun j => ys.getD j 0) sp dp n := by
  funext j
  unfold mc_cpy va_cpy
  rw [List.getD_eq_getElem?_getD, List.getElem?_map]
  by_cases hj : j < ys.length
  · rw [List.getElem?_range hj]
    rfl
  · rw [List.getElem?_eq_none (by simpa using hj)]
    rw [if_neg (by omega)]
    show (0 : Int32) = ys.getD j 0
    rw [List.getD_eq_getElem?_getD, List.getElem?_eq_none (by omega)]
    rfl
section Heaps2
variable {p : Program} {l : Launch} {e : Env} {R : Room} {s : State} {m : MethodId} {args : Array Value} {below : List Frame} {meth : Method} {c : Code} {H : Heap} {locs : List Loc} {cells slots : Nat} {Q : State → Prop}
variable {cc : ByteArray} {pc : Nat} {ls : Array Slot} {rest : List Value} {g : mc_G} {w : mc_W}
theorem mc_copy (hexec : p.tables.exec = Jvm.exec) (hb : c.code = cc) (hml : c.maxLocals = ls.size) {own : String} {index : Nat} (hown : s.vm.findClass own = some m.cls) (hlink : (Cond.methodLink own index arraycopyName).before args s = true) (hnat : (Cond.native arraycopyName).before args s = true) (hstat : (Cond.static arraycopyName).before args s = true) (hini : (Cond.initialized "java/lang/System").before args s = true)
    (hK : va_K g.2.1 mc_cl (mc_tys g) s) (R0 : mc_Rel g w s H locs) {a0 a : Nat} {xs ys : List Int32} (ha0 : w[a0]? = some (.inr (.inl xs))) (ha1 : w[a]? = some (.inr (.inl ys)))
    {sp dp n : Int32} (h1 : ¬ sp < 0) (h2 : ¬ dp < 0) (h3 : ¬ n < 0) (h4 : sp.toNatClampNeg + n.toNatClampNeg ≤ xs.length) (h5 : dp.toNatClampNeg + n.toNatClampNeg ≤ ys.length)
    (hframes : 1 ≤ R.frames) (hlocals : (rest.map fun v => v.category).sum + (nativeFrameWords "java/lang/System" "arraycopy" 5 + 11) ≤ R.locals) (hdg : decode cc pc = .ok (.invokestatic index, 3))
    (kk : ∀ (H1 : Heap) (locs1 : List Loc), mc_Rel g (w.set a (.inr (.inl (mc_cpy xs ys sp.toNatClampNeg dp.toNatClampNeg n.toNatClampNeg)))) s H1 locs1 → W p l e R s m args below meth c H1 locs1 cells slots Q (F0 m (pc + 3) ls rest)) : W p l e R s m args below meth c H locs cells slots Q (F0 m pc ls (.int n :: .int dp :: .ref (g.1 + a) :: .int sp :: .ref (g.1 + a0) :: rest)) := by
  have nn : ∀ z : Int32, ¬ z < 0 → z.toInt = (z.toNatClampNeg : Int) := by
    intro z hz
    have hz0 : (0 : Int) ≤ z.toInt := by
      have := Int32.not_lt.mp hz
      simpa using Int32.le_iff_toInt_le.mp this
    show z.toInt = ((z.toInt.toNat : Nat) : Int)
    omega
  intro T hT X
  have ht : (mc_tys g)[0]? = some (g.2.2.1 0, .int) := rfl
  have hc0 : H[g.1 + a0]? = some (vp_cell (g.2.2.1 0) (xs.length, .inl (fun j => xs.getD j 0))) := R0.2.1 a0 _ (mc_rl_at ha0)
  have hc1 : H[g.1 + a]? = some (vp_cell (g.2.2.1 0) (ys.length, .inl (fun j => ys.getD j 0))) := R0.2.1 a _ (mc_rl_at ha1)
  obtain ⟨-, k0, hk0, cm0, hkk0⟩ := (hK.2 0 _ ht).1 xs.length (fun j => .int (xs.getD j 0))
  obtain ⟨vm', X', step⟩ := X.arraycopy hexec hown hlink hnat hstat hini (src := g.1 + a0) (dst := g.1 + a) (cs := vp_cell (g.2.2.1 0) (xs.length, .inl (fun j => xs.getD j 0))) (cd := vp_cell (g.2.2.1 0) (ys.length, .inl (fun j => ys.getD j 0))) (srcPos := sp) (destPos := dp) (n := n) (by rw [hT]; exact hc0) (by rw [hT]; exact hc1)
    (fun _ h => by cases h) (fun _ h => by cases h) (fun h => by cases h) (fun h => by cases h) hk0 hk0 hkk0 hkk0 (by simp [refKind]) h1 h2 h3
    (by rw [nn sp h1, nn n h3]; show ¬ _ > ((arrV _ xs.length (fun j => .int (xs.getD j 0))).slots.size : Int); rw [arrV_size]; omega)
    (by rw [nn dp h2, nn n h3]; show ¬ _ > ((arrV _ ys.length (fun j => .int (ys.getD j 0))).slots.size : Int); rw [arrV_size]; omega)
    (fun vm₁ _ i hi => by
      have e : (vp_cell (g.2.2.1 0) (xs.length, .inl (fun j => xs.getD j 0))).slots.getD (sp.toNatClampNeg + i) .null = .int (xs.getD (sp.toNatClampNeg + i) 0) := by
        show (arrV _ xs.length (fun j => .int (xs.getD j 0))).slots.getD _ _ = _
        rw [Array.getD_eq_getD_getElem?, arrV_read _ _ (by omega)]
        rfl
      refine ⟨?_, ?_⟩
      · rw [e]
        rfl
      · rw [e]
        exact trivial)
    (g := F0 m pc ls (.int n :: .int dp :: .ref (g.1 + a) :: .int sp :: .ref (g.1 + a0) :: rest)) rfl (by rw [hml]) (rest := rest) rfl (by rw [hb]; exact hdg) hframes (by show 2 * 0 + _ + _ ≤ _; omega)
  have e1 := va_copied (sp := sp.toNatClampNeg) (dp := dp.toNatClampNeg) (n := n.toNatClampNeg) (n1 := ys.length) (fun z => .int z) (g.2.2.1 0) (g.2.2.1 0) (fun j => xs.getD j 0) (fun j => ys.getD j 0) h4
  have e2 : copied (vp_cell (g.2.2.1 0) (xs.length, .inl (fun j => xs.getD j 0))) (vp_cell (g.2.2.1 0) (ys.length, .inl (fun j => ys.getD j 0))) sp dp n = vp_cell (g.2.2.1 0) (ys.length, .inl (va_cpy (fun j => xs.getD j 0) (fun j => ys.getD j 0) sp.toNatClampNeg dp.toNatClampNeg n.toNatClampNeg)) := e1
  rw [e2] at X' step
  have hl : g.1 + a < H.size := (Array.getElem?_eq_some_iff.mp hc1).1
  generalize hY : vp_cell (g.2.2.1 0) (ys.length, .inl (va_cpy (fun j => xs.getD j 0) (fun j => ys.getD j 0) sp.toNatClampNeg dp.toNatClampNeg n.toNatClampNeg)) = Y at X' step
  have hheap : ((T.setVm vm').setCell (g.1 + a) Y).heap = H.setIfInBounds (g.1 + a) Y := by rw [← hT]; rfl
  have oq : ∀ q : Nat, q ≠ g.1 + a → (H.setIfInBounds (g.1 + a) Y)[q]? = H[q]? := fun q hq => by simp [Array.getElem?_setIfInBounds, Ne.symm hq]
  have hat : va_at g.2.1 mc_cl (g.1 + a, mc_em g (.inr (.inl (mc_cpy xs ys sp.toNatClampNeg dp.toNatClampNeg n.toNatClampNeg)))) (H.setIfInBounds (g.1 + a) Y) := by
    show (H.setIfInBounds (g.1 + a) Y)[g.1 + a]? = some (vp_cell (g.2.2.1 0) ((mc_cpy xs ys sp.toNatClampNeg dp.toNatClampNeg n.toNatClampNeg).length, .inl (fun j => (mc_cpy xs ys sp.toNatClampNeg dp.toNatClampNeg n.toNatClampNeg).getD j 0)))
    rw [mc_cpy_len, mc_cpy_get _ _ _ _ _ h5, hY]
    simp [Array.getElem?_setIfInBounds, hl]
  have R1 := mc_Rel_set (k := 0) (H1 := H.setIfInBounds (g.1 + a) Y) R0 ha1 hat (by simp) oq
  obtain ⟨t, a1, b1⟩ := kk _ _ (⟨R1.1, R1.2.1, ⟨R1.2.2.1.1, R1.2.2.1.2.1, fun q hq => by
      rcases List.mem_append.mp hq with h | h
      · exact R0.2.2.1.2.2 q h
      · obtain ⟨z, -, hz⟩ := List.mem_map.mp h
        rw [← hz]
        exact Nat.le_add_right _ _⟩, R1.2.2.2⟩ : mc_Rel g _ s _ _) _ hheap X'
  exact ⟨t, step t a1, b1⟩
end Heaps2
section Rules3
variable {own : String} {cc : ByteArray} {nL : Nat} {J : mc_J} {pc : Nat} {L : List (Option Value)} {st : List Value} {w : mc_W} {kc ks : Nat}
theorem e_copy {i a0 a : Nat} {xs ys : List Int32} {sp dp n : Int32} (hd : decode cc pc = .ok (.invokestatic i, 3)) (hlink : Cond.methodLink own i arraycopyName ∈ mc_WS) (hnat : Cond.native arraycopyName ∈ mc_WS) (hstat : Cond.static arraycopyName ∈ mc_WS) (hini : Cond.initialized "java/lang/System" ∈ mc_WS)
    (hx : w[a0]? = some (.inr (.inl xs))) (hy : w[a]? = some (.inr (.inl ys))) (h1 : ¬ sp < 0) (h2 : ¬ dp < 0) (h3 : ¬ n < 0) (h4 : sp.toNatClampNeg + n.toNatClampNeg ≤ xs.length) (h5 : dp.toNatClampNeg + n.toNatClampNeg ≤ ys.length)
    (hR : 1 ≤ J.2.2.1.frames ∧ 64 ≤ J.2.2.1.locals) (hs : (st.map fun v => v.category).sum ≤ 8)
    (kk : mc_E own cc nL J (pc + 3) L st (w.set a (.inr (.inl (mc_cpy xs ys sp.toNatClampNeg dp.toNatClampNeg n.toNatClampNeg)))) kc ks) : mc_E own cc nL J pc L (.int n :: .int dp :: .ref a :: .int sp :: .ref a0 :: st) w kc ks := by
  intro p l e s m args below meth c H locs ls g X G R T hl
  have ea : mc_ra g a = g.1 + a := mc_ra_lt (mc_lt_of hy R.2.2.2)
  have ea0 : mc_ra g a0 = g.1 + a0 := mc_ra_lt (mc_lt_of hx R.2.2.2)
  show W _ _ _ _ _ _ _ _ _ _ _ _ _ _ _ (F0 m pc ls (.int n :: .int dp :: .ref (mc_ra g a) :: .int sp :: .ref (mc_ra g a0) :: st.map (mc_vm g)))
  rw [ea, ea0]
  have hs2 : ((st.map (mc_vm g)).map fun v => v.category).sum ≤ 8 := by
    rw [List.map_map]
    have : ((fun v : Value => v.category) ∘ mc_vm g) = fun v => v.category := funext (mc_vm_cat g)
    rw [this]
    exact hs
  have hW : nativeFrameWords "java/lang/System" "arraycopy" 5 = 7 := by decide +kernel
  exact mc_copy X.1 X.2.1 (by rw [X.2.2.1]; exact hl.1.symm) X.2.2.2.1 (X.2.2.2.2.1 _ hlink) (X.2.2.2.2.1 _ hnat) (X.2.2.2.2.1 _ hstat) (X.2.2.2.2.1 _ hini) G.1 R hx hy h1 h2 h3 h4 h5 hR.1 (by rw [hW]; omega) hd (fun H1 locs1 R1 => kk p l e s m args below meth c H1 locs1 ls g X G R1 T hl)
theorem e_newa {n : Int32} {N : Nat} (hd : decode cc pc = .ok (.newarray .int, 2)) (harr : Cond.arrayClass .int ∈ mc_WS) (hn : ¬ n < 0) (hN : n.toNatClampNeg = N) (hb : N ≤ 100000000) (hw : w.length < 1000000) (hc : kc + 1 ≤ J.2.2.1.cells) (hs : ks + N ≤ J.2.2.1.slots)
    (kk : mc_E own cc nL J (pc + 2) L (.ref w.length :: st) (w ++ [.inr (.inl (List.replicate N 0))]) (kc + 1) (ks + N)) : mc_E own cc nL J pc L (.int n :: st) w kc ks := by
  intro p l e s m args below meth c H locs ls g X G R T hl
  refine va_newaK (atype := .int) X.1 X.2.1 (X.2.2.2.2.1 _ harr) rfl hd rfl hn hN (by show N * 4 ≤ 536870912; omega) hc hs R.1 fun H1 cA e1 z1 o1 hAr hNm => ?_
  have hcA : cA = g.2.2.1 0 := Option.some.inj (hNm.symm.trans (G.1.2 0 _ rfl).2)
  have ea : mc_ra g w.length = g.1 + w.length := mc_ra_lt hw
  have K := kk p l e s m args below meth c H1 locs ls g X G (mc_Rel_push R hw (c1 := .inr (.inl (List.replicate N 0))) (by
    show H1[g.1 + w.length]? = some (vp_cell (g.2.2.1 0) ((List.replicate N (0 : Int32)).length, .inl (fun j => (List.replicate N (0 : Int32)).getD j 0)))
    rw [e1, hcA, List.length_replicate, vp_cell_i]
    congr 2
    funext j
    show Value.int 0 = Value.int _
    congr 1
    rw [List.getD_eq_getElem?_getD, List.getElem?_replicate]
    split <;> rfl) (by rw [z1, R.1]) (fun q hq => o1 q (by rw [← R.1]; exact hq))) T hl
  rw [show List.map (mc_vm g) (.ref w.length :: st) = .ref (mc_ra g w.length) :: st.map (mc_vm g) from rfl, ea] at K
  exact K
theorem e_newq {n : Int32} {N i kd : Nat} {C : String} (hd : decode cc pc = .ok (.anewarray i, 3)) (hkd : (kd, C) = (1, RX5) ∨ (kd, C) = (2, RX3)) (hcl : Cond.classLink own i C ∈ mc_WS) (hn : ¬ n < 0) (hN : n.toNatClampNeg = N) (hb : N ≤ 100000000) (hw : w.length < 1000000) (hc : kc + 1 ≤ J.2.2.1.cells) (hs : ks + N ≤ J.2.2.1.slots)
    (kk : mc_E own cc nL J (pc + 3) L (.ref w.length :: st) (w ++ [.inr (.inr (kd, List.replicate N none))]) (kc + 1) (ks + N)) : mc_E own cc nL J pc L (.int n :: st) w kc ks := by
  intro p l e s m args below meth c H locs ls g X G R T hl
  subst hN
  have hov : va_AO C s := by
    rcases hkd with h | h <;> cases h
    · exact G.2.2.2.2.2.2.2.2.2.1
    · exact G.2.2.2.2.2.2.2.2.2.2
  refine W.anew X.1 X.2.1 X.2.2.2.1 (X.2.2.2.2.1 _ hcl) (va_AO.use hov) rfl hd rfl hn (by omega) hc hs fun cA kA comp f1 f2 f3 f4 => ?_
  have hcA : cA = g.2.2.1 kd := by
    rcases hkd with h | h <;> cases h
    · obtain ⟨-, -, -, -, -, -, hN⟩ := G.1.2 1 _ rfl
      exact Option.some.inj (f1.symm.trans hN)
    · obtain ⟨-, -, -, -, -, -, hN⟩ := G.1.2 2 _ rfl
      exact Option.some.inj (f1.symm.trans hN)
  have ea : mc_ra g w.length = g.1 + w.length := mc_ra_lt hw
  generalize hH1 : H.push ({ cls := cA, slots := Array.replicate n.toNatClampNeg .null, vm := .none } : Cell) = H1
  have z1 : H1.size = H.size + 1 := by rw [← hH1, Array.size_push]
  have e1 : H1[H.size]? = some (arrV cA n.toNatClampNeg (fun _ => .null)) := by rw [← hH1, Array.getElem?_push_size, ← arrV_new]
  have o1 : ∀ q : Nat, q < H.size → H1[q]? = H[q]? := fun q hq => by rw [← hH1, Array.getElem?_push, if_neg (Nat.ne_of_lt hq)]
  have K := kk p l e s m args below meth c H1 locs ls g X G (mc_Rel_push R hw (c1 := .inr (.inr (kd, List.replicate n.toNatClampNeg none))) (by
    show H1[g.1 + w.length]? = some (vp_cell (g.2.2.1 kd) ((List.replicate n.toNatClampNeg (none : Option Nat)).length, .inr (.inr (.inr (.inr (fun j => ((List.replicate n.toNatClampNeg (none : Option Nat)).getD j none).map (mc_ra g)))))))
    rw [← R.1, e1, hcA, List.length_replicate, vp_cell_q]
    congr 2
    funext j
    rw [List.getD_eq_getElem?_getD, List.getElem?_replicate]
    split <;> rfl) z1 o1) T hl
  rw [show List.map (mc_vm g) (.ref w.length :: st) = .ref (mc_ra g w.length) :: st.map (mc_vm g) from rfl, ea, ← R.1] at K
  exact K
theorem e_new {i ci N : Nat} {C : String} {T0 : u_T} {ty : Nat → FieldType} {fs : List Value} (hd : decode cc pc = .ok (.new i, 3)) (hf : mc_CF ci C T0 N ty) (hcl : Cond.classLink own i C ∈ mc_WS) (hins : Cond.instantiable C N ∈ mc_WS) (hini : Cond.initialized C ∈ mc_WS) (hfs : (List.range N).map (fun j => defaultValue (ty j)) = fs) (hw : w.length < 1000000) (hc : kc + 1 ≤ J.2.2.1.cells) (hs : ks + N ≤ J.2.2.1.slots)
    (kk : mc_E own cc nL J (pc + 3) L (.ref w.length :: st) (w ++ [.inl (ci, fs)]) (kc + 1) (ks + N)) : mc_E own cc nL J pc L st w kc ks := by
  intro p l e s m args below meth c H locs ls g X G R T hl
  obtain ⟨hcc, hws, hty, -⟩ := hf
  have hKn := G.1.1 ci _ hcc
  refine W.newcK X.1 X.2.1 X.2.2.2.1 (X.2.2.2.2.1 _ hcl) (X.2.2.2.2.1 _ hins) (X.2.2.2.2.1 _ hini) rfl hd hc hs hKn.2.1 R.1 fun H1 kC hkC e1 z1 o1 => ?_
  have ea : mc_ra g w.length = g.1 + w.length := mc_ra_lt hw
  have K := kk p l e s m args below meth c H1 locs ls g X G (mc_Rel_push R hw (c1 := .inl (ci, fs)) (by
    refine ⟨_, hcc, (u_born ty X.2.2.2.2.1 hws hKn hkC e1 hty).to fun j hj => ?_⟩
    show defaultValue (ty j) = vp_V (fs.map (mc_vm g)) j
    subst hfs
    have : (((List.range N).map (fun j => defaultValue (ty j))).map (mc_vm g))[j]? = some (mc_vm g (defaultValue (ty j))) := by
      rw [List.getElem?_map, List.getElem?_map, List.getElem?_range hj]
      rfl
    unfold vp_V
    rw [List.getD_eq_getElem?_getD, this]
    cases ty j <;> rfl) (by rw [z1, R.1]) (fun q hq => o1 q (by rw [← R.1]; exact hq))) T hl
  rw [show List.map (mc_vm g) (.ref w.length :: st) = .ref (mc_ra g w.length) :: st.map (mc_vm g) from rfl, ea] at K
  exact K
theorem e_alenq {a kd : Nat} {rs : List (Option Nat)} {v : Int32} (hd : decode cc pc = .ok (.arraylength, 1)) (hw : w[a]? = some (.inr (.inr (kd, rs)))) (hk : kd = 1 ∨ kd = 2) (hv : Int32.ofNat rs.length = v) (kk : mc_E own cc nL J (pc + 1) L (.int v :: st) w kc ks) : mc_E own cc nL J pc L (.ref a :: st) w kc ks := by
  intro p l e s m args below meth c H locs ls g X G R T hl
  have ea : mc_ra g a = g.1 + a := mc_ra_lt (mc_lt_of hw R.2.2.2)
  show W _ _ _ _ _ _ _ _ _ _ _ _ _ _ _ (F0 m pc ls (.ref (mc_ra g a) :: st.map (mc_vm g)))
  rw [ea]
  rcases hk with rfl | rfl
  · exact va_alen X.1 X.2.1 G.1 R.2.1 a 1 (mc_rl_at hw) (ty := .object RX5) rfl hv hd (kk p l e s m args below meth c H locs ls g X G R T hl)
  · exact va_alen X.1 X.2.1 G.1 R.2.1 a 2 (mc_rl_at hw) (ty := .object RX3) rfl hv hd (kk p l e s m args below meth c H locs ls g X G R T hl)
def mc_rf : Option Nat → Value
  | none => .null
  | some a => .ref a
theorem mc_rf_vm (g : mc_G) (r : Option Nat) : mc_vm g (mc_rf r) = va_rf (r.map (mc_ra g)) := by cases r <;> rfl
theorem e_aldq {a kd : Nat} {rs : List (Option Nat)} {i : Int32} {r : Option Nat} (hd : decode cc pc = .ok (.aaload, 1)) (hw : w[a]? = some (.inr (.inr (kd, rs)))) (hk : kd = 1 ∨ kd = 2) (hi : vp_in i rs.length) (hr : rs.getD i.toNatClampNeg none = r) (kk : mc_E own cc nL J (pc + 1) L (mc_rf r :: st) w kc ks) : mc_E own cc nL J pc L (.int i :: .ref a :: st) w kc ks := by
  intro p l e s m args below meth c H locs ls g X G R T hl
  subst hr
  have ea : mc_ra g a = g.1 + a := mc_ra_lt (mc_lt_of hw R.2.2.2)
  show W _ _ _ _ _ _ _ _ _ _ _ _ _ _ _ (F0 m pc ls (.int i :: .ref (mc_ra g a) :: st.map (mc_vm g)))
  rw [ea]
  have K := kk p l e s m args below meth c H locs ls g X G R T hl
  rw [show List.map (mc_vm g) (mc_rf (rs.getD i.toNatClampNeg none) :: st) = mc_vm g (mc_rf (rs.getD i.toNatClampNeg none)) :: st.map (mc_vm g) from rfl, mc_rf_vm] at K
  rcases hk with rfl | rfl
  · exact va_aldq X.1 X.2.1 G.1 R.2.1 a 1 (mc_rl_at hw) (C := RX5) rfl hi hd K
  · exact va_aldq X.1 X.2.1 G.1 R.2.1 a 2 (mc_rl_at hw) (C := RX3) rfl hi hd K
end Rules3
end Zj_06_calls
section Zj_07_ends
/-! stores of references, Math, answers, calls, a method's start, what stood there before -/
section Heaps3
variable {p : Program} {l : Launch} {e : Env} {R : Room} {s : State} {m : MethodId} {args : Array Value} {below : List Frame} {meth : Method} {c : Code} {H : Heap} {locs : List Loc} {cells slots : Nat} {Q : State → Prop}
variable {cc : ByteArray} {pc : Nat} {ls : Array Slot} {rest : List Value} {g : mc_G} {w : mc_W}
theorem mc_aast (hx : p.tables.exec = Jvm.exec) (hb : c.code = cc) {a v kd ci : Nat} {q0 : vw_C} {rs : List (Option Nat)} {vs : List Value} {i : Int32} (hK : va_K g.2.1 mc_cl (mc_tys g) s) (R0 : mc_Rel g w s H locs) (ht : (mc_tys g)[kd]? = some (g.2.2.1 kd, .object q0.1)) (hq : mc_cl[ci]? = some q0) (hw : w[a]? = some (.inr (.inr (kd, rs)))) (hv : w[v]? = some (.inl (ci, vs))) (hin : vp_in i rs.length) (hd : decode cc pc = .ok (.aastore, 1))
    (kk : ∀ (H1 : Heap) (locs1 : List Loc), mc_Rel g (w.set a (.inr (.inr (kd, rs.set i.toNatClampNeg (some v))))) s H1 locs1 → W p l e R s m args below meth c H1 locs1 cells slots Q (F0 m (pc + 1) ls rest)) : W p l e R s m args below meth c H locs cells slots Q (F0 m pc ls (.ref (g.1 + v) :: .int i :: .ref (g.1 + a) :: rest)) := by
  have ha := mc_rl_at (g := g) hw
  have hlt : i.toNatClampNeg < rs.length := Nat.not_le.mp fun q => hin (Or.inr q)
  have h0 : ¬ i < 0 := fun q => hin (Or.inl q)
  obtain ⟨r', hr', cellV, g1, g2, g3, -⟩ := R0.2.1 v _ (mc_rl_at hv)
  have hcls := (hK.1 ci q0 hq).2
  obtain ⟨kA, comp, k1, k2, k3, -⟩ := (hK.2 kd _ ht).2
  have hcomp : comp = g.2.1.1 ci := Option.some.inj (k3.symm.trans hcls.1)
  subst hcomp
  obtain ⟨kC, hkC, -⟩ := hcls.2
  have ev : mc_ra g v = g.1 + v := mc_ra_lt (mc_lt_of hv R0.2.2.2)
  refine W.aast hx hb (R0.2.1 a _ ha) (fun q h => by cases h) (fun h => by cases h) k1 k2 rfl hkC ⟨h0, by show _ < (arrV _ _ _).slots.size; rw [arrV_size]; exact hlt⟩ g1 (fun q h => by rw [g3] at h; cases h) (by rw [g2]; exact hkC) (by rw [g2]; exact va_assign hcls) rfl rfl hd fun H1 e1 z oq => ?_
  refine kk H1 _ (mc_Rel_set R0 hw ?_ z oq)
  show H1[g.1 + a]? = some (vp_cell _ _)
  rw [e1]
  show some ((vp_cell (g.2.2.1 kd) (rs.length, .inr (.inr (.inr (.inr (fun j => (rs.getD j none).map (mc_ra g))))))).setSlot i.toNatClampNeg (.ref (g.1 + v))) = some (vp_cell (g.2.2.1 kd) ((rs.set i.toNatClampNeg (some v)).length, .inr (.inr (.inr (.inr (fun j => ((rs.set i.toNatClampNeg (some v)).getD j none).map (mc_ra g)))))))
  rw [List.length_set, vp_cell_q, vp_cell_q, arrV_store]
  congr 2
  funext q
  have e2 := congrFun (mc_getD_set rs i.toNatClampNeg (some v) none hlt) q
  rw [e2]
  by_cases hq : q = i.toNatClampNeg
  · subst hq
    simp [updV, va_rf, ev]
  · simp [updV, hq]
end Heaps3
section Rules4
variable {own : String} {cc : ByteArray} {nL : Nat} {J : mc_J} {pc : Nat} {L : List (Option Value)} {st : List Value} {w : mc_W} {kc ks : Nat}
theorem e_aast {a v kd ci : Nat} {rs : List (Option Nat)} {vs : List Value} {i : Int32} (hd : decode cc pc = .ok (.aastore, 1)) (hk : (kd = 1 ∧ ci = 5) ∨ (kd = 2 ∧ ci = 3)) (hw : w[a]? = some (.inr (.inr (kd, rs)))) (hv : w[v]? = some (.inl (ci, vs))) (hi : vp_in i rs.length) (kk : mc_E own cc nL J (pc + 1) L st (w.set a (.inr (.inr (kd, rs.set i.toNatClampNeg (some v))))) kc ks) : mc_E own cc nL J pc L (.ref v :: .int i :: .ref a :: st) w kc ks := by
  intro p l e s m args below meth c H locs ls g X G R T hl
  have ea : mc_ra g a = g.1 + a := mc_ra_lt (mc_lt_of hw R.2.2.2)
  have ev : mc_ra g v = g.1 + v := mc_ra_lt (mc_lt_of hv R.2.2.2)
  show W _ _ _ _ _ _ _ _ _ _ _ _ _ _ _ (F0 m pc ls (.ref (mc_ra g v) :: .int i :: .ref (mc_ra g a) :: st.map (mc_vm g)))
  rw [ea, ev]
  rcases hk with ⟨rfl, rfl⟩ | ⟨rfl, rfl⟩
  · exact mc_aast X.1 X.2.1 G.1 R (q0 := (RX5, TX5, 3)) rfl rfl hw hv hi hd (fun H1 locs1 R1 => kk p l e s m args below meth c H1 locs1 ls g X G R1 T hl)
  · exact mc_aast X.1 X.2.1 G.1 R (q0 := (RX3, TX3, 3)) rfl rfl hw hv hi hd (fun H1 locs1 R1 => kk p l e s m args below meth c H1 locs1 ls g X G R1 T hl)
theorem mc_catsum (g : mc_G) (st : List Value) : ((st.map (mc_vm g)).map fun v => v.category).sum = (st.map fun v => v.category).sum := by
  rw [List.map_map]
  have : ((fun v : Value => v.category) ∘ mc_vm g) = fun v => v.category := funext (mc_vm_cat g)
  rw [this]
/-- an inner method of the machine's own Math: what its link says -/
def mc_MF (own : String) (i : Nat) (y : MethodName) (cc : ByteArray) (nL : Nat) (ret : Option FieldType) : Prop := Cond.methodLink own i y ∈ mc_WS ∧ Cond.static y ∈ mc_WS ∧ Cond.initialized "java/lang/Math" ∈ mc_WS ∧ Cond.code y cc nL ret ∈ mc_WS
def mc_JR (J : mc_J) (kc ks : Nat) (st : List Value) : Prop := 1 ≤ J.2.2.1.frames ∧ 64 ≤ J.2.2.1.locals ∧ kc ≤ J.2.2.1.cells ∧ ks ≤ J.2.2.1.slots ∧ (st.map fun v => v.category).sum ≤ 8
theorem e_max {i : Nat} {x y : Int32} (hd : decode cc pc = .ok (.invokestatic i, 3)) (hf : mc_MF own i Lib.Math.max.name Lib.Math.max.code 2 (some .int)) (hR : mc_JR J kc ks st) (k : mc_E own cc nL J (pc + 3) L (.int (if x < y then y else x) :: st) w kc ks) : mc_E own cc nL J pc L (.int y :: .int x :: st) w kc ks := by
  intro p l e s m args below meth c H locs ls g X G R T hl
  exact va_mmax X.1 X.2.1 (by rw [X.2.2.1]; exact hl.1.symm) X.2.2.2.1 (X.2.2.2.2.1 _ hf.1) (X.2.2.2.2.1 _ hf.2.1) (X.2.2.2.2.1 _ hf.2.2.1) (X.2.2.2.2.1 _ hf.2.2.2) hR.1 (by rw [mc_catsum]; have := hR.2.1; have := hR.2.2.2.2; omega) hR.2.2.1 hR.2.2.2.1 hd (k p l e s m args below meth c H locs ls g X G R T hl)
theorem e_min {i : Nat} {x y : Int32} (hd : decode cc pc = .ok (.invokestatic i, 3)) (hf : mc_MF own i Lib.Math.min.name Lib.Math.min.code 2 (some .int)) (hR : mc_JR J kc ks st) (k : mc_E own cc nL J (pc + 3) L (.int (if y < x then y else x) :: st) w kc ks) : mc_E own cc nL J pc L (.int y :: .int x :: st) w kc ks := by
  intro p l e s m args below meth c H locs ls g X G R T hl
  exact va_mmin X.1 X.2.1 (by rw [X.2.2.1]; exact hl.1.symm) X.2.2.2.1 (X.2.2.2.2.1 _ hf.1) (X.2.2.2.2.1 _ hf.2.1) (X.2.2.2.2.1 _ hf.2.2.1) (X.2.2.2.2.1 _ hf.2.2.2) hR.1 (by rw [mc_catsum]; have := hR.2.1; have := hR.2.2.2.2; omega) hR.2.2.1 hR.2.2.2.1 hd (k p l e s m args below meth c H locs ls g X G R T hl)
theorem e_abs {i : Nat} {x : Int32} (hd : decode cc pc = .ok (.invokestatic i, 3)) (hf : mc_MF own i Lib.Math.abs.name Lib.Math.abs.code 1 (some .int)) (hR : mc_JR J kc ks st) (k : mc_E own cc nL J (pc + 3) L (.int (if 0 ≤ x then x else -x) :: st) w kc ks) : mc_E own cc nL J pc L (.int x :: st) w kc ks := by
  intro p l e s m args below meth c H locs ls g X G R T hl
  exact va_mabs X.1 X.2.1 (by rw [X.2.2.1]; exact hl.1.symm) X.2.2.2.1 (X.2.2.2.2.1 _ hf.1) (X.2.2.2.2.1 _ hf.2.1) (X.2.2.2.2.1 _ hf.2.2.1) (X.2.2.2.2.1 _ hf.2.2.2) hR.1 (by rw [mc_catsum]; have := hR.2.1; have := hR.2.2.2.2; omega) hR.2.2.1 hR.2.2.2.1 hd (k p l e s m args below meth c H locs ls g X G R T hl)
theorem e_minl {i : Nat} {x y : Int64} (hd : decode cc pc = .ok (.invokestatic i, 3)) (hf : mc_MF own i Lib.MathLoose.min_long.x Lib.MathLoose.min_long.code 4 (some .long)) (hR : mc_JR J kc ks st) (k : mc_E own cc nL J (pc + 3) L (.long (if y < x then y else x) :: st) w kc ks) : mc_E own cc nL J pc L (.long y :: .long x :: st) w kc ks := by
  intro p l e s m args below meth c H locs ls g X G R T hl
  exact va_mmin_long X.1 X.2.1 (by rw [X.2.2.1]; exact hl.1.symm) X.2.2.2.1 (X.2.2.2.2.1 _ hf.1) (X.2.2.2.2.1 _ hf.2.1) (X.2.2.2.2.1 _ hf.2.2.1) (X.2.2.2.2.1 _ hf.2.2.2) hR.1 (by rw [mc_catsum]; have := hR.2.1; have := hR.2.2.2.2; omega) hR.2.2.1 hR.2.2.2.1 hd (k p l e s m args below meth c H locs ls g X G R T hl)
theorem e_absl {i : Nat} {x : Int64} (hd : decode cc pc = .ok (.invokestatic i, 3)) (hf : mc_MF own i Lib.MathLoose.abs_long.x Lib.MathLoose.abs_long.code 2 (some .long)) (hR : mc_JR J kc ks st) (k : mc_E own cc nL J (pc + 3) L (.long (if 0 < x then x else -x) :: st) w kc ks) : mc_E own cc nL J pc L (.long x :: st) w kc ks := by
  intro p l e s m args below meth c H locs ls g X G R T hl
  exact va_mabs_long X.1 X.2.1 (by rw [X.2.2.1]; exact hl.1.symm) X.2.2.2.1 (X.2.2.2.2.1 _ hf.1) (X.2.2.2.2.1 _ hf.2.1) (X.2.2.2.2.1 _ hf.2.2.1) (X.2.2.2.2.1 _ hf.2.2.2) hR.1 (by rw [mc_catsum]; have := hR.2.1; have := hR.2.2.2.2; omega) hR.2.2.1 hR.2.2.2.1 hd (k p l e s m args below meth c H locs ls g X G R T hl)
theorem e_objInit {i a : Nat} (hd : decode cc pc = .ok (.invokespecial i, 3)) (hlink : Cond.methodLink own i Lib.objectInit ∈ mc_WS) (hinst : Cond.instanceMethod Lib.objectInit ∈ mc_WS) (hcode : Cond.code Lib.objectInit ⟨#[0xb1]⟩ 1 none ∈ mc_WS) (hR : mc_JR J kc ks st) (k : mc_E own cc nL J (pc + 3) L st w kc ks) : mc_E own cc nL J pc L (.ref a :: st) w kc ks := by
  intro p l e s m args below meth c H locs ls g X G R T hl
  exact W.objInit X.1 X.2.1 X.2.2.2.1 (X.2.2.2.2.1 _ hlink) (X.2.2.2.2.1 _ hinst) (X.2.2.2.2.1 _ hcode) (g := F0 m pc ls ((.ref a :: st).map (mc_vm g))) rfl (by rw [X.2.2.1]; exact hl.1) rfl hd hR.1 (by show 2 * 0 + _ + 12 ≤ _; rw [mc_catsum]; have := hR.2.1; have := hR.2.2.2.2; omega) (k p l e s m args below meth c H locs ls g X G R T hl)
end Rules4
/-! answers -/
section Ends
variable {own : String} {cc : ByteArray} {nL : Nat} {pc : Nat} {L : List (Option Value)} {w : mc_W} {kc ks : Nat}
variable {ret : Option FieldType} {ini : Bool} {d mc ms : Nat} {P : Option Value → mc_W → Prop}
theorem mc_end {g : mc_G} {s t : State} {H : Heap} {locs : List Loc} {args : Array Value} {r : Option Value} (R : mc_Rel g w s H locs) (hP : P r w) (ht : t.heap = H) : mc_Q g P args s (.returned (r.map (mc_vm g))) t :=
  ⟨⟨r, w, rfl, hP, by rw [ht]; exact R.1, by rw [ht]; exact R.2.1, R.2.2.2⟩, R.2.2.1.F ht⟩
theorem e_iret {x : Int32} (hd : decode cc pc = .ok (.ireturn, 1)) (hr : ret = some .int) (hk : kc ≤ mc) (hs : ks ≤ ms) (hP : P (some (.int x)) w) : mc_E own cc nL (mc_JM ret ini d mc ms P) pc L [.int x] w kc ks := by
  intro p l e s m args below meth c H locs ls g X G R T hl
  subst hr
  exact W.widen hk hs (W.iret X.1 X.2.1 X.2.2.2.2.2.1 (fun t ht _ => mc_end R hP ht) R.2.2.1.2.2 hd (hlocks := X.2.2.2.2.2.2.1))
theorem e_zret {x : Int32} {t : FieldType} (hd : decode cc pc = .ok (.ireturn, 1)) (hr : ret = some t) (hn : narrow t (.int x) = .int x) (hk : kc ≤ mc) (hs : ks ≤ ms) (hP : P (some (.int x)) w) : mc_E own cc nL (mc_JM ret ini d mc ms P) pc L [.int x] w kc ks := by
  intro p l e s m args below meth c H locs ls g X G R T hl
  subst hr
  exact W.widen hk hs (W.zret X.1 X.2.1 X.2.2.2.2.2.1 hn (fun t ht _ => mc_end R hP ht) R.2.2.1.2.2 hd (hlocks := X.2.2.2.2.2.2.1))
theorem e_lret {x : Int64} (hd : decode cc pc = .ok (.lreturn, 1)) (hr : ret = some .long) (hk : kc ≤ mc) (hs : ks ≤ ms) (hP : P (some (.long x)) w) : mc_E own cc nL (mc_JM ret ini d mc ms P) pc L [.long x] w kc ks := by
  intro p l e s m args below meth c H locs ls g X G R T hl
  subst hr
  exact W.widen hk hs (W.lret X.1 X.2.1 X.2.2.2.2.2.1 (fun t ht _ => mc_end R hP ht) R.2.2.1.2.2 hd (hlocks := X.2.2.2.2.2.2.1))
theorem e_vret (hd : decode cc pc = .ok (.return_, 1)) (hr : ret = none) (hk : kc ≤ mc) (hs : ks ≤ ms) (hP : P none w) : mc_E own cc nL (mc_JM ret ini d mc ms P) pc L [] w kc ks := by
  intro p l e s m args below meth c H locs ls g X G R T hl
  subst hr
  exact W.widen hk hs (W.vret X.1 X.2.1 X.2.2.2.2.2.1 (fun t ht _ => mc_end R hP ht) R.2.2.1.2.2 hd (hlocks := X.2.2.2.2.2.2.1))
theorem e_aret {a : Nat} {t : FieldType} (hd : decode cc pc = .ok (.areturn, 1)) (hr : ret = some t) (ht : (∃ n, t = .object n) ∨ ∃ u, t = .array u) (hk : kc ≤ mc) (hs : ks ≤ ms) (hP : P (some (.ref a)) w) : mc_E own cc nL (mc_JM ret ini d mc ms P) pc L [.ref a] w kc ks := by
  intro p l e s m args below meth c H locs ls g X G R T hl
  subst hr
  exact W.widen hk hs (W.aret X.1 X.2.1 X.2.2.2.2.2.1 ht (Or.inr ⟨_, rfl⟩) (fun t ht _ => mc_end R hP ht) R.2.2.1.2.2 hd (hlocks := X.2.2.2.2.2.2.1))
end Ends
/-! a method's start -/
theorem mc_in_len (g : mc_G) : ∀ av : List Value, (lg_sl (av.map (mc_vm g))).length = (mc_in av).length := by
  intro av
  induction av with
  | nil => rfl
  | cons v r ih =>
    cases v <;> simp [lg_sl, mc_in, mc_vm, Value.category] at ih ⊢ <;> exact ih
theorem mc_as_in (g : mc_G) : ∀ (av : List Value) (i : Nat), mc_as g i (mc_in av) = lv_args i (av.map (mc_vm g)) := by
  intro av
  induction av with
  | nil => intro i; rfl
  | cons v r ih =>
    intro i
    cases v <;> simp [lv_args, mc_in, mc_vm, Value.category, mc_as, ih]
theorem mc_as_none (g : mc_G) : ∀ (n i : Nat), mc_as g i (List.replicate n none) = [] := by
  intro n
  induction n with
  | zero => intro i; rfl
  | succ n ih => intro i; exact ih (i + 1)
theorem mc_as_app (g : mc_G) : ∀ (A B : List (Option Value)) (i : Nat), mc_as g i (A ++ B) = mc_as g i A ++ mc_as g (i + A.length) B := by
  intro A
  induction A with
  | nil => intro B i; rfl
  | cons a r ih =>
    intro B i
    have e : i + (a :: r).length = i + 1 + r.length := by simp; omega
    cases a with
    | none => show mc_as g (i + 1) (r ++ B) = _; rw [ih, e]; rfl
    | some v => show _ :: mc_as g (i + 1) (r ++ B) = _; rw [ih, e]; rfl
theorem mc_start {y : MethodName} {own : String} {cc : ByteArray} {nL : Nat} {ret : Option FieldType} {ini : Bool} {d mc ms : Nat} {av : List Value} {w : mc_W} {P : Option Value → mc_W → Prop} (ho : y.cls = own) (hp : plainName own = true) (hini : ini = true → y.name = "<init>") (hL : (mc_in av).length ≤ nL)
    (k : mc_E own cc nL (mc_JM ret ini d mc ms P) 0 (mc_ent nL av) [] w 0 0) : mc_S y cc nL ret d mc ms av w P := by
  intro l g
  subst ho
  refine Met.ofW (cc := cc) (maxL := nL) (ret := ret) hp rfl ?_
  intro p e s m args below meth c s₁ B hml hv
  obtain ⟨rfl, hG, hz, hP, hlen⟩ := hv
  have hts := atoms_spec (ws := Cond.code y cc nL ret :: mc_WS) B.pre
  rw [lg_entry_eq]
  have hl := lv_entry (av.map (mc_vm g)) (n := nL) (by rw [mc_in_len]; exact hL)
  refine k p l e s m _ below meth c s.heap [] _ g ⟨B.exec, B.bytes, hml, findClass_of_methodNamed B.named, fun w hw => hts w (List.mem_cons_of_mem _ hw), B.returns, B.notSynchronized, fun h => ?_⟩ hG ⟨hz, hP, va_S.rf, hlen⟩ trivial ?_
  · rw [(name_of_methodNamed B.named B.method).1]; exact hini h
  · unfold mc_ent
    rw [mc_as_app, mc_as_none, List.append_nil, mc_as_in]
    exact hl
end Zj_07_ends
section Zj_08_invoke
/-! calls: the whole world goes in, a world comes back -/
def mc_CB (y : MethodName) (cc : ByteArray) (nL : Nat) (ret : Option FieldType) (n : Nat) : Prop :=
  (y.cls ≠ "java/lang/invoke/MethodHandle" ∧ y.cls ≠ "java/lang/invoke/VarHandle") ∧ (parseMethodDescriptor y.desc).map (fun d => d.parameters.length) = some n ∧ Cond.code y cc nL ret ∈ mc_WS ∧ Cond.initialized y.cls ∈ mc_WS
def mc_CV (own : String) (i : Nat) (y : MethodName) (cc : ByteArray) (nL : Nat) (ret : Option FieldType) (n : Nat) : Prop := mc_CB y cc nL ret n ∧ Cond.methodLink own i y ∈ mc_WS ∧ Cond.instanceMethod y ∈ mc_WS ∧ Cond.selects y.cls y y ∈ mc_WS
def mc_CS (own : String) (i : Nat) (y : MethodName) (cc : ByteArray) (nL : Nat) (ret : Option FieldType) (n : Nat) : Prop := mc_CB y cc nL ret n ∧ Cond.methodLink own i y ∈ mc_WS ∧ Cond.static y ∈ mc_WS
def mc_CI (own : String) (i : Nat) (y : MethodName) (cc : ByteArray) (nL : Nat) (n : Nat) : Prop := mc_CB y cc nL none n ∧ Cond.methodLink own i y ∈ mc_WS ∧ Cond.instanceMethod y ∈ mc_WS ∧ y.name = "<init>"
def mc_CN (own : String) (i : Nat) (y : MethodName) (cc : ByteArray) (nL : Nat) (ret : Option FieldType) (n : Nat) : Prop := mc_CB y cc nL ret n ∧ (own, i, y) ∈ mc_ns ∧ Cond.static y ∈ mc_WS
/-- there is room for the call -/
def mc_CR (J : mc_J) (d mc ms nL kc ks : Nat) : Prop := d + 1 ≤ J.2.2.1.frames ∧ 8 + (nL + 11) + 64 * d ≤ J.2.2.1.locals ∧ kc + mc ≤ J.2.2.1.cells ∧ ks + ms ≤ J.2.2.1.slots
theorem mc_CB_good {y : MethodName} {cc : ByteArray} {nL n : Nat} {ret : Option FieldType} (h : mc_CB y cc nL ret n) : GoodIn mc_WS (Cond.code y cc nL ret :: mc_WS) := by
  intro w hw
  rcases List.mem_cons.mp hw with rfl | hw
  · exact mc_WS_self _ h.2.2.1
  · exact mc_WS_self _ hw
theorem mc_Pc_blind {g : mc_G} {av : List Value} {w : mc_W} : FrameBlind (mc_Pc g av w) :=
  fun a U gf mk q => ⟨q.1, mc_GG_calling q.2.1, q.2.2.1, q.2.2.2.1, q.2.2.2.2⟩
theorem mc_Pc_pre {g : mc_G} {av : List Value} {w : mc_W} {s U : State} {H : Heap} {locs : List Loc} (G : mc_GG g s) (R : mc_Rel g w s H locs) (hU : U.heap = H) (hW : s.WarmedH U.vm) : mc_Pc g av w (av.map (mc_vm g)).toArray U :=
  ⟨rfl, mc_GG_moved G hW R.2.2.1.2.1 (Nat.le_trans G.2.1 R.2.2.1.1) hU, by rw [hU]; exact R.1, by rw [hU]; exact R.2.1, R.2.2.2⟩
section Goes
variable {p : Program} {l : Launch} {e : Env} {R : Room} {s : State} {m : MethodId} {args : Array Value} {below : List Frame} {meth : Method} {c : Code} {H : Heap} {locs : List Loc} {cells slots : Nat} {Q : State → Prop}
variable {pc : Nat} {ls : Array Slot} {rest st0 : List Value} {g : mc_G} {w : mc_W}
theorem mc_go {mc ms : Nat} {P2 : Option Value → mc_W → Prop} {a : Array Value} (hr : va_Run p l e R s m args below meth c H locs cells slots mc ms (F0 m pc ls st0) rest (mc_Q g P2 a) (mc_A g)) (R0 : mc_Rel g w s H locs)
    (kk : ∀ (r : Option Value) (w' : mc_W) (H1 : Heap) (locs1 : List Loc), P2 r w' → mc_Rel g w' s H1 locs1 → W p l e R s m args below meth c H1 locs1 (cells + mc) (slots + ms) Q (F0 m (pc + 3) ls ((r.map (mc_vm g)).toList ++ rest))) : W p l e R s m args below meth c H locs cells slots Q (F0 m pc ls st0) := by
  intro T hT X
  obtain ⟨v, st₀, t, T', L, h0, X', hL, e1, e2, ⟨⟨r, w', hv, hp, hz, hP, hlen⟩, hsz, hk⟩, st⟩ := hr T hT X
  cases hv
  rw [h0] at hsz hk
  obtain ⟨t2, a1, b1⟩ := kk r w' T'.heap (locs ++ L) hp ⟨by rw [e1]; exact hz, by rw [e1]; exact hP,
    ⟨Nat.le_trans R0.2.2.1.1 (by rw [e1]; exact hsz), fun q h1 h2 => by rw [e1, hk q (Nat.lt_of_lt_of_le h1 R0.2.2.1.1) h2]; exact R0.2.2.1.2.1 q h1 h2, fun q hq => by
      rcases List.mem_append.mp hq with h | h
      · exact R0.2.2.1.2.2 q h
      · exact hL q h⟩, hlen⟩ T' rfl X'
  exact ⟨t2, st t2 a1, b1⟩
end Goes
section Rules5
variable {own : String} {cc : ByteArray} {nL : Nat} {J : mc_J} {pc : Nat} {L : List (Option Value)} {st st0 : List Value} {w : mc_W} {kc ks : Nat}
variable {y : MethodName} {c2 : ByteArray} {n2 : Nat} {ret2 : Option FieldType} {d mc ms n i : Nat} {As : List Value} {P2 : Option Value → mc_W → Prop}
theorem e_callV {a ci : Nat} {fs : List Value} {C : String} {T0 : u_T} {N : Nat} (hS : mc_S y c2 n2 ret2 d mc ms (.ref a :: As) w P2) (hd : decode cc pc = .ok (.invokevirtual i, 3)) (hf : mc_CV own i y c2 n2 ret2 n) (hw : w[a]? = some (.inl (ci, fs))) (hc : mc_cl[ci]? = some (C, T0, N)) (hC : y.cls = C) (hn : As.length = n) (hR : mc_CR J d mc ms n2 kc ks) (hst : st0 = As.reverse ++ .ref a :: st) (hs : (st.map fun v => v.category).sum ≤ 8)
    (kk : ∀ (r : Option Value) (w' : mc_W), P2 r w' → mc_E own cc nL J (pc + 3) L (r.toList ++ st) w' (kc + mc) (ks + ms)) : mc_E own cc nL J pc L st0 w kc ks := by
  intro p l e s m args below meth c H locs ls g X G R T hl
  subst hst
  subst hC
  obtain ⟨hB, h1, h2, h3⟩ := hf
  have hts := X.2.2.2.2.1
  refine mc_go (P2 := P2) (rest := st.map (mc_vm g)) (va_runV (b := mc_ra g a) (As := As.map (mc_vm g)) (Ts := mc_WS) ⟨X.1, X.2.1, X.2.2.1, X.2.2.2.1, hts⟩ (hS l g)
    ⟨callB_of n hts (mc_CB_good hB) rfl rfl rfl (hts _ hB.2.2.2) (hts _ h1) ⟨hB.1.1, hB.1.2, hB.2.1⟩ ⟨hR.1, hR.2.1⟩, hts _ h2, hts _ h3⟩
    ⟨mc_Pc_blind, ?_, fun U hU hW => mc_Pc_pre G R hU hW⟩ rfl (by rw [List.length_map]; exact hn) hl.1 (by show List.map _ _ = _; rw [List.map_append, List.map_reverse]; rfl) (lv_room (by rw [mc_catsum]; exact hs)) hd hR.2.2) R (fun r w' H1 locs1 hp R1 => ?_)
  · have ea : mc_ra g a = g.1 + a := mc_ra_lt (mc_lt_of hw R.2.2.2)
    rw [ea]
    exact va_recv (q := (y.cls, T0, N)) G.1 R.2.1 hc (mc_rl_at hw)
  · have K := kk r w' hp p l e s m args below meth c H1 locs1 ls g X G R1 T hl
    rw [List.map_append] at K
    cases r <;> exact K
theorem e_callS (hS : mc_S y c2 n2 ret2 d mc ms As w P2) (hd : decode cc pc = .ok (.invokestatic i, 3)) (hf : mc_CS own i y c2 n2 ret2 n) (hn : As.length = n) (hR : mc_CR J d mc ms n2 kc ks) (hst : st0 = As.reverse ++ st) (hs : (st.map fun v => v.category).sum ≤ 8)
    (kk : ∀ (r : Option Value) (w' : mc_W), P2 r w' → mc_E own cc nL J (pc + 3) L (r.toList ++ st) w' (kc + mc) (ks + ms)) : mc_E own cc nL J pc L st0 w kc ks := by
  intro p l e s m args below meth c H locs ls g X G R T hl
  subst hst
  obtain ⟨hB, h1, h2⟩ := hf
  have hts := X.2.2.2.2.1
  refine mc_go (P2 := P2) (rest := st.map (mc_vm g)) (va_runS (As := As.map (mc_vm g)) (Ts := mc_WS) ⟨X.1, X.2.1, X.2.2.1, X.2.2.2.1, hts⟩ (hS l g)
    ⟨callB_of n hts (mc_CB_good hB) rfl rfl rfl (hts _ hB.2.2.2) (hts _ h1) ⟨hB.1.1, hB.1.2, hB.2.1⟩ ⟨hR.1, hR.2.1⟩, hts _ h2⟩
    ⟨mc_Pc_blind, fun U hU hW => mc_Pc_pre G R hU hW⟩ rfl (by rw [List.length_map]; exact hn) hl.1 (by show List.map _ _ = _; rw [List.map_append, List.map_reverse]) (lv_room (by rw [mc_catsum]; exact hs)) hd hR.2.2) R (fun r w' H1 locs1 hp R1 => ?_)
  have K := kk r w' hp p l e s m args below meth c H1 locs1 ls g X G R1 T hl
  rw [List.map_append] at K
  cases r <;> exact K
theorem e_callN (hS : mc_S y c2 n2 ret2 d mc ms As w P2) (hd : decode cc pc = .ok (.invokestatic i, 3)) (hf : mc_CN own i y c2 n2 ret2 n) (hn : As.length = n) (hR : mc_CR J d mc ms n2 kc ks) (hst : st0 = As.reverse ++ st) (hs : (st.map fun v => v.category).sum ≤ 8)
    (kk : ∀ (r : Option Value) (w' : mc_W), P2 r w' → mc_E own cc nL J (pc + 3) L (r.toList ++ st) w' (kc + mc) (ks + ms)) : mc_E own cc nL J pc L st0 w kc ks := by
  intro p l e s m args below meth c H locs ls g X G R T hl
  subst hst
  obtain ⟨hB, h1, h2⟩ := hf
  have hts := X.2.2.2.2.1
  have hNw := G.2.2.2.2.2.2.2.2.1 _ h1
  refine mc_go (P2 := P2) (rest := st.map (mc_vm g)) (va_runSN (host := "NoZeroWithin") (As := As.map (mc_vm g)) (Ts := mc_WS) ⟨X.1, X.2.1, X.2.2.1, X.2.2.2.1, hts⟩ (hS l g)
    ⟨va_cnB n hts (mc_CB_good hB) rfl rfl rfl hNw (hts _ hB.2.2.2) ⟨hB.1.1, hB.1.2, hB.2.1⟩ ⟨hR.1, hR.2.1⟩, hts _ h2, trivial⟩
    ⟨mc_Pc_blind, fun U hU hW => mc_Pc_pre G R hU hW⟩ rfl (by rw [List.length_map]; exact hn) hl.1 (by show List.map _ _ = _; rw [List.map_append, List.map_reverse]) (lv_room (by rw [mc_catsum]; exact hs)) hd hR.2.2) R (fun r w' H1 locs1 hp R1 => ?_)
  have K := kk r w' hp p l e s m args below meth c H1 locs1 ls g X G R1 T hl
  rw [List.map_append] at K
  cases r <;> exact K
theorem e_callI {a : Nat} (hS : mc_S y c2 n2 none d mc ms (.ref a :: As) w P2) (hd : decode cc pc = .ok (.invokespecial i, 3)) (hf : mc_CI own i y c2 n2 n) (hn : As.length = n) (hR : mc_CR J d mc ms n2 kc ks) (hst : st0 = As.reverse ++ .ref a :: st) (hs : (st.map fun v => v.category).sum ≤ 8)
    (kk : ∀ (r : Option Value) (w' : mc_W), P2 r w' → mc_E own cc nL J (pc + 3) L (r.toList ++ st) w' (kc + mc) (ks + ms)) : mc_E own cc nL J pc L st0 w kc ks := by
  intro p l e s m args below meth c H locs ls g X G R T hl
  subst hst
  obtain ⟨hB, h1, h2, h3⟩ := hf
  have hts := X.2.2.2.2.1
  refine mc_go (P2 := P2) (rest := st.map (mc_vm g)) (va_runI (b := mc_ra g a) (As := As.map (mc_vm g)) (Ts := mc_WS) ⟨X.1, X.2.1, X.2.2.1, X.2.2.2.1, hts⟩ (hS l g)
    ⟨callB_of n hts (mc_CB_good hB) rfl rfl rfl (hts _ hB.2.2.2) (hts _ h1) ⟨hB.1.1, hB.1.2, hB.2.1⟩ ⟨hR.1, hR.2.1⟩, h3, hts _ h2⟩
    ⟨mc_Pc_blind, fun U hU hW => mc_Pc_pre G R hU hW⟩ rfl (by rw [List.length_map]; exact hn) hl.1 (by show List.map _ _ = _; rw [List.map_append, List.map_reverse]; rfl) (lv_room (by rw [mc_catsum]; exact hs)) hd hR.2.2) R (fun r w' H1 locs1 hp R1 => ?_)
  have K := kk r w' hp p l e s m args below meth c H1 locs1 ls g X G R1 T hl
  rw [List.map_append] at K
  cases r <;> exact K
end Rules5
/-! what stood there before: the row of kinds, the texts, the statics -/
section Rules6
variable {own : String} {cc : ByteArray} {nL : Nat} {J : mc_J} {pc : Nat} {L : List (Option Value)} {st : List Value} {w : mc_W} {kc ks : Nat}
theorem mc_ra_old (g : mc_G) (k : Nat) : mc_ra g (1000000 + k) = g.2.2.2 k := by
  unfold mc_ra
  rw [if_neg (by omega), Nat.add_sub_cancel_left]
theorem e_getsKA {i : Nat} (hd : decode cc pc = .ok (.getstatic i, 3)) (hf : Cond.fieldLink own i "NoZeroWithin" "KIND_ABOVE" "[I" ∈ mc_WS) (kk : mc_E own cc nL J (pc + 3) L (.ref 1000000 :: st) w kc ks) : mc_E own cc nL J pc L st w kc ks := by
  intro p l e s m args below meth c H locs ls g X G R T hl
  have K := kk p l e s m args below meth c H locs ls g X G R T hl
  rw [show List.map (mc_vm g) (.ref 1000000 :: st) = .ref (mc_ra g (1000000 + 0)) :: st.map (mc_vm g) from rfl, mc_ra_old] at K
  exact va_gets X.1 X.2.1 G.2.2.1 R.2.2.1 X.2.2.2.1 (X.2.2.2.2.1 _ hf) (fun x h => h) hd K
theorem e_getsCS {i : Nat} (hd : decode cc pc = .ok (.getstatic i, 3)) (hf : Cond.fieldLink own i "java/lang/String" "COMPACT_STRINGS" "Z" ∈ mc_WS) (kk : mc_E own cc nL J (pc + 3) L (.int 1 :: st) w kc ks) : mc_E own cc nL J pc L st w kc ks := by
  intro p l e s m args below meth c H locs ls g X G R T hl
  exact va_gets X.1 X.2.1 G.2.2.2.2.1 R.2.2.1 X.2.2.2.1 (X.2.2.2.2.1 _ hf) (fun x h => h) hd (kk p l e s m args below meth c H locs ls g X G R T hl)
theorem e_getsFM {i : Nat} (hd : decode cc pc = .ok (.getstatic i, 3)) (hf : Cond.fieldLink own i "jdk/internal/util/Preconditions" "SIOOBE_FORMATTER" "Ljava/util/function/BiFunction;" ∈ mc_WS) (k1 : mc_E own cc nL J (pc + 3) L (.null :: st) w kc ks) (k2 : mc_E own cc nL J (pc + 3) L (.ref 1000200 :: st) w kc ks) : mc_E own cc nL J pc L st w kc ks := by
  intro p l e s m args below meth c H locs ls g X G R T hl
  rcases G.2.2.2.2.2.1 with h6 | h6
  · exact va_gets X.1 X.2.1 h6 R.2.2.1 X.2.2.2.1 (X.2.2.2.2.1 _ hf) (fun x h => h) hd (k1 p l e s m args below meth c H locs ls g X G R T hl)
  · have K := k2 p l e s m args below meth c H locs ls g X G R T hl
    rw [show List.map (mc_vm g) (.ref 1000200 :: st) = .ref (mc_ra g (1000000 + 200)) :: st.map (mc_vm g) from rfl, mc_ra_old] at K
    exact va_gets X.1 X.2.1 h6 R.2.2.1 X.2.2.2.1 (X.2.2.2.2.1 _ hf) (fun x h => h) hd K
theorem e_ialdKA {i x : Int32} (hd : decode cc pc = .ok (.iaload, 1)) (hi : vp_in i 6) (hx : mc_ka.getD i.toNatClampNeg 0 = x) (kk : mc_E own cc nL J (pc + 1) L (.int x :: st) w kc ks) : mc_E own cc nL J pc L (.int i :: .ref 1000000 :: st) w kc ks := by
  intro p l e s m args below meth c H locs ls g X G R T hl
  subst hx
  show W _ _ _ _ _ _ _ _ _ _ _ _ _ _ _ (F0 m pc ls (.int i :: .ref (mc_ra g (1000000 + 0)) :: st.map (mc_vm g)))
  rw [mc_ra_old]
  exact va_ti X.1 X.2.1 G.2.2.2.1 R.2.2.1 hi rfl hd (kk p l e s m args below meth c H locs ls g X G R T hl)
theorem e_alenKA (hd : decode cc pc = .ok (.arraylength, 1)) (kk : mc_E own cc nL J (pc + 1) L (.int 6 :: st) w kc ks) : mc_E own cc nL J pc L (.ref 1000000 :: st) w kc ks := by
  intro p l e s m args below meth c H locs ls g X G R T hl
  show W _ _ _ _ _ _ _ _ _ _ _ _ _ _ _ (F0 m pc ls (.ref (mc_ra g (1000000 + 0)) :: st.map (mc_vm g)))
  rw [mc_ra_old]
  exact va_tlen X.1 X.2.1 G.2.2.2.1 R.2.2.1 (v := 6) rfl hd (kk p l e s m args below meth c H locs ls g X G R T hl)
/-- the texts: number j of twelve at 1000001 + j, its bytes at 1000101 + j -/
theorem e_ldcS {i j : Nat} {tx : String} (hd : decode cc pc = .ok (.ldc i, 2)) (ho : own = "NoZeroWithin$Tape") (hj : j < 12) (hq : mc_tx[j]? = some (i, tx)) (kk : mc_E own cc nL J (pc + 2) L (.ref (1000000 + (1 + j)) :: st) w kc ks) : mc_E own cc nL J pc L st w kc ks := by
  intro p l e s m args below meth c H locs ls g X G R T hl
  subst ho
  have K := kk p l e s m args below meth c H locs ls g X G R T hl
  rw [show List.map (mc_vm g) (.ref (1000000 + (1 + j)) :: st) = .ref (mc_ra g (1000000 + (1 + j))) :: st.map (mc_vm g) from rfl, mc_ra_old] at K
  exact va_ldcS X.1 X.2.1 X.2.2.2.1 (G.2.2.2.2.2.2.2.1 j hj _ hq) hd K
theorem e_getSV {i j : Nat} (hd : decode cc pc = .ok (.getfield i, 3)) (hj : j < 12) (hf : Cond.fieldLink own i "java/lang/String" "value" "[B" ∈ mc_WS) (kk : mc_E own cc nL J (pc + 3) L (.ref (1000000 + (101 + j)) :: st) w kc ks) : mc_E own cc nL J pc L (.ref (1000000 + (1 + j)) :: st) w kc ks := by
  intro p l e s m args below meth c H locs ls g X G R T hl
  have K := kk p l e s m args below meth c H locs ls g X G R T hl
  rw [show List.map (mc_vm g) (.ref (1000000 + (101 + j)) :: st) = .ref (mc_ra g (1000000 + (101 + j))) :: st.map (mc_vm g) from rfl, mc_ra_old] at K
  show W _ _ _ _ _ _ _ _ _ _ _ _ _ _ _ (F0 m pc ls (.ref (mc_ra g (1000000 + (1 + j))) :: st.map (mc_vm g)))
  rw [mc_ra_old]
  exact vk_getf X.1 X.2.1 (G.2.2.2.2.2.2.1.1 j hj).2.2.1 R.2.2.1 X.2.2.2.1 (X.2.2.2.2.1 _ hf) (fun x h => h) hd K
theorem e_getSC {i j : Nat} (hd : decode cc pc = .ok (.getfield i, 3)) (hj : j < 12) (hf : Cond.fieldLink own i "java/lang/String" "coder" "B" ∈ mc_WS) (kk : mc_E own cc nL J (pc + 3) L (.int 0 :: st) w kc ks) : mc_E own cc nL J pc L (.ref (1000000 + (1 + j)) :: st) w kc ks := by
  intro p l e s m args below meth c H locs ls g X G R T hl
  show W _ _ _ _ _ _ _ _ _ _ _ _ _ _ _ (F0 m pc ls (.ref (mc_ra g (1000000 + (1 + j))) :: st.map (mc_vm g)))
  rw [mc_ra_old]
  exact vk_getf X.1 X.2.1 (G.2.2.2.2.2.2.1.1 j hj).2.1 R.2.2.1 X.2.2.2.1 (X.2.2.2.2.1 _ hf) (fun x h => h) hd (kk p l e s m args below meth c H locs ls g X G R T hl)
theorem e_alenS {j : Nat} {v : Int32} (hd : decode cc pc = .ok (.arraylength, 1)) (hj : j < 12) (hv : Int32.ofNat (mc_len.getD j 0) = v) (kk : mc_E own cc nL J (pc + 1) L (.int v :: st) w kc ks) : mc_E own cc nL J pc L (.ref (1000000 + (101 + j)) :: st) w kc ks := by
  intro p l e s m args below meth c H locs ls g X G R T hl
  show W _ _ _ _ _ _ _ _ _ _ _ _ _ _ _ (F0 m pc ls (.ref (mc_ra g (1000000 + (101 + j))) :: st.map (mc_vm g)))
  rw [mc_ra_old]
  exact va_tlen X.1 X.2.1 (G.2.2.2.2.2.2.1.1 j hj).2.2.2 R.2.2.1 hv hd (kk p l e s m args below meth c H locs ls g X G R T hl)
theorem e_baldS {j : Nat} {i x : Int32} (hd : decode cc pc = .ok (.baload, 1)) (hj : j < 12) (hi : vp_in i (mc_len.getD j 0)) (hx : (mc_byt.getD j []).getD i.toNatClampNeg 0 = x) (kk : mc_E own cc nL J (pc + 1) L (.int x :: st) w kc ks) : mc_E own cc nL J pc L (.int i :: .ref (1000000 + (101 + j)) :: st) w kc ks := by
  intro p l e s m args below meth c H locs ls g X G R T hl
  subst hx
  show W _ _ _ _ _ _ _ _ _ _ _ _ _ _ _ (F0 m pc ls (.int i :: .ref (mc_ra g (1000000 + (101 + j))) :: st.map (mc_vm g)))
  rw [mc_ra_old]
  exact va_tb X.1 X.2.1 (G.2.2.2.2.2.2.1.1 j hj).2.2.2 R.2.2.1 hi rfl hd (kk p l e s m args below meth c H locs ls g X G R T hl)
/-- a call on one of the texts -/
theorem e_callT {y : MethodName} {c2 : ByteArray} {n2 : Nat} {ret2 : Option FieldType} {d mc ms n i j : Nat} {As st0 : List Value} {P2 : Option Value → mc_W → Prop} (hS : mc_S y c2 n2 ret2 d mc ms (.ref (1000000 + (1 + j)) :: As) w P2) (hd : decode cc pc = .ok (.invokevirtual i, 3)) (hf : mc_CV own i y c2 n2 ret2 n) (hj : j < 12) (hC : y.cls = "java/lang/String") (hn : As.length = n) (hR : mc_CR J d mc ms n2 kc ks) (hst : st0 = As.reverse ++ .ref (1000000 + (1 + j)) :: st) (hs : (st.map fun v => v.category).sum ≤ 8)
    (kk : ∀ (r : Option Value) (w' : mc_W), P2 r w' → mc_E own cc nL J (pc + 3) L (r.toList ++ st) w' (kc + mc) (ks + ms)) : mc_E own cc nL J pc L st0 w kc ks := by
  intro p l e s m args below meth c H locs ls g X G R T hl
  subst hst
  obtain ⟨hB, h1, h2, h3⟩ := hf
  have hts := X.2.2.2.2.1
  refine mc_go (P2 := P2) (rest := st.map (mc_vm g)) (va_runV (C := y.cls) (b := mc_ra g (1000000 + (1 + j))) (As := As.map (mc_vm g)) (Ts := mc_WS) ⟨X.1, X.2.1, X.2.2.1, X.2.2.2.1, hts⟩ (hS l g)
    ⟨callB_of n hts (mc_CB_good hB) rfl rfl rfl (hts _ hB.2.2.2) (hts _ h1) ⟨hB.1.1, hB.1.2, hB.2.1⟩ ⟨hR.1, hR.2.1⟩, hts _ h2, hts _ h3⟩
    ⟨mc_Pc_blind, ?_, fun U hU hW => mc_Pc_pre G R hU hW⟩ rfl (by rw [List.length_map]; exact hn) hl.1 (by show List.map _ _ = _; rw [List.map_append, List.map_reverse]; rfl) (lv_room (by rw [mc_catsum]; exact hs)) hd hR.2.2) R (fun r w' H1 locs1 hp R1 => ?_)
  · rw [mc_ra_old, hC]
    exact vk_recv (i := j) G.2.2.2.2.2.2.1 hj R.2.2.1
  · have K := kk r w' hp p l e s m args below meth c H1 locs1 ls g X G R1 T hl
    rw [List.map_append] at K
    cases r <;> exact K
end Rules6
end Zj_08_invoke
section Zj_09_facts
set_option maxRecDepth 20000 in
theorem mc_mem {w : Cond} (h : w ∈ lw_tbl) (hg : goodWord w = true) : w ∈ mc_WS := List.mem_filter.mpr ⟨h, hg⟩
set_option maxRecDepth 20000 in
theorem sg1 {w : Cond} (h : w ∈ tables_1_1) (hg : goodWord w = true) : w ∈ mc_WS := mc_mem (List.mem_append_right _ (List.mem_append_left _ h)) hg
set_option maxRecDepth 20000 in
theorem sg2 {w : Cond} (h : w ∈ tables_1_2) (hg : goodWord w = true) : w ∈ mc_WS := mc_mem (List.mem_append_right _ (List.mem_append_right _ (List.mem_append_left _ h))) hg
set_option maxRecDepth 20000 in
theorem sg3 {w : Cond} (h : w ∈ tables_1_3) (hg : goodWord w = true) : w ∈ mc_WS := mc_mem (List.mem_append_right _ (List.mem_append_right _ (List.mem_append_right _ (List.mem_append_left _ h)))) hg
set_option maxRecDepth 20000 in
theorem sg4 {w : Cond} (h : w ∈ tables_1_4) (hg : goodWord w = true) : w ∈ mc_WS := mc_mem (List.mem_append_right _ (List.mem_append_right _ (List.mem_append_right _ (List.mem_append_right _ (List.mem_append_left _ h))))) hg
set_option maxRecDepth 20000 in
theorem sg5 {w : Cond} (h : w ∈ tables_1_5) (hg : goodWord w = true) : w ∈ mc_WS := mc_mem (List.mem_append_right _ (List.mem_append_right _ (List.mem_append_right _ (List.mem_append_right _ (List.mem_append_right _ (List.mem_append_left _ h)))))) hg
set_option maxRecDepth 20000 in
theorem sg6 {w : Cond} (h : w ∈ tables_1_6) (hg : goodWord w = true) : w ∈ mc_WS := mc_mem (List.mem_append_right _ (List.mem_append_right _ (List.mem_append_right _ (List.mem_append_right _ (List.mem_append_right _ (List.mem_append_right _ (h))))))) hg
set_option maxRecDepth 20000 in
theorem pr1 {q : MethodName × Nat} (h : q ∈ lw_privs_1) : q ∈ lw_privs := List.mem_append_left _ h
set_option maxRecDepth 20000 in
theorem pr2 {q : MethodName × Nat} (h : q ∈ lw_privs_2) : q ∈ lw_privs := List.mem_append_right _ (List.mem_append_left _ h)
set_option maxRecDepth 20000 in
theorem pr3 {q : MethodName × Nat} (h : q ∈ lw_privs_3) : q ∈ lw_privs := List.mem_append_right _ (List.mem_append_right _ (List.mem_append_left _ h))
set_option maxRecDepth 20000 in
theorem pr4 {q : MethodName × Nat} (h : q ∈ lw_privs_4) : q ∈ lw_privs := List.mem_append_right _ (List.mem_append_right _ (List.mem_append_right _ (h)))
set_option maxRecDepth 20000 in
theorem mc_sel {q : MethodName × Nat} (h : q ∈ lw_privs) : Cond.selects q.1.cls q.1 q.1 ∈ mc_WS := mc_mem (List.mem_append_left _ (List.mem_map.mpr ⟨q, h, rfl⟩)) rfl
set_option maxRecDepth 20000 in
theorem ws_in {C : String} {T : u_T} {N : Nat} (ps : List Nat) (h : ∀ k, k < N → tables_1[ps.getD k 0]? = some (u_lay C T k)) : ∀ w ∈ u_ws C T N, w ∈ tables_1 := by
  intro w hw
  obtain ⟨k, hk, rfl⟩ := List.mem_map.mp hw
  exact List.mem_of_getElem? (h k (List.mem_range.mp hk))
set_option maxRecDepth 20000 in
theorem mcf0 : mc_CF 0 RX0 TX0 2 tyX0 := ⟨rfl, fun w hw => mc_mem (List.mem_append_right _ (ws_in [87, 89] (show ∀ k, k < 2 → tables_1[[87, 89].getD k 0]? = some (u_lay RX0 TX0 k) by decide +kernel) w hw)) ((show ∀ w ∈ wsX00, goodWord w = true by decide +kernel) w hw), tyX0_ok, nmX0⟩
set_option maxRecDepth 20000 in
theorem mcf1 : mc_CF 1 RX1 TX1 6 tyX1 := ⟨rfl, fun w hw => mc_mem (List.mem_append_right _ (ws_in [131, 133, 135, 137, 139, 141] (show ∀ k, k < 6 → tables_1[[131, 133, 135, 137, 139, 141].getD k 0]? = some (u_lay RX1 TX1 k) by decide +kernel) w hw)) ((show ∀ w ∈ wsX10, goodWord w = true by decide +kernel) w hw), tyX1_ok, nmX1⟩
set_option maxRecDepth 20000 in
theorem mcf2 : mc_CF 2 RX2 TX2 6 tyX2 := ⟨rfl, fun w hw => mc_mem (List.mem_append_right _ (ws_in [106, 108, 110, 112, 114, 116] (show ∀ k, k < 6 → tables_1[[106, 108, 110, 112, 114, 116].getD k 0]? = some (u_lay RX2 TX2 k) by decide +kernel) w hw)) ((show ∀ w ∈ wsX20, goodWord w = true by decide +kernel) w hw), tyX2_ok, nmX2⟩
set_option maxRecDepth 20000 in
theorem mcf3 : mc_CF 3 RX3 TX3 3 tyX3 := ⟨rfl, fun w hw => mc_mem (List.mem_append_right _ (ws_in [152, 154, 156] (show ∀ k, k < 3 → tables_1[[152, 154, 156].getD k 0]? = some (u_lay RX3 TX3 k) by decide +kernel) w hw)) ((show ∀ w ∈ wsX30, goodWord w = true by decide +kernel) w hw), tyX3_ok, nmX3⟩
set_option maxRecDepth 20000 in
theorem mcf4 : mc_CF 4 RX4 TX4 9 tyX4 := ⟨rfl, fun w hw => mc_mem (List.mem_append_right _ (ws_in [58, 60, 62, 64, 66, 68, 70, 72, 74] (show ∀ k, k < 9 → tables_1[[58, 60, 62, 64, 66, 68, 70, 72, 74].getD k 0]? = some (u_lay RX4 TX4 k) by decide +kernel) w hw)) ((show ∀ w ∈ wsX40, goodWord w = true by decide +kernel) w hw), tyX4_ok, nmX4⟩
set_option maxRecDepth 20000 in
theorem mcf5 : mc_CF 5 RX5 TX5 3 tyX5 := ⟨rfl, fun w hw => mc_mem (List.mem_append_right _ (ws_in [34, 36, 38] (show ∀ k, k < 3 → tables_1[[34, 36, 38].getD k 0]? = some (u_lay RX5 TX5 k) by decide +kernel) w hw)) ((show ∀ w ∈ wsX50, goodWord w = true by decide +kernel) w hw), tyX5_ok, nmX5⟩
set_option maxRecDepth 20000 in
theorem mcf6 : mc_CF 6 RX6 TX6 14 tyX6 := ⟨rfl, fun w hw => mc_mem (List.mem_append_right _ (ws_in [173, 175, 177, 179, 181, 183, 185, 187, 189, 191, 193, 195, 197, 199] (show ∀ k, k < 14 → tables_1[[173, 175, 177, 179, 181, 183, 185, 187, 189, 191, 193, 195, 197, 199].getD k 0]? = some (u_lay RX6 TX6 k) by decide +kernel) w hw)) ((show ∀ w ∈ wsX60, goodWord w = true by decide +kernel) w hw), tyX6_ok, nmX6⟩
set_option maxRecDepth 20000 in
theorem mcf7 : mc_CF 7 RX7 TX7 35 tyX7 := ⟨rfl, fun w hw => mc_mem (List.mem_append_right _ (ws_in [968, 970, 972, 974, 976, 978, 980, 982, 984, 986, 988, 990, 992, 994, 996, 998, 1000, 1002, 1004, 1006, 1008, 1010, 1012, 1014, 1016, 1018, 1020, 1022, 1024, 1026, 1028, 1030, 1032, 1034, 1036] (show ∀ k, k < 35 → tables_1[[968, 970, 972, 974, 976, 978, 980, 982, 984, 986, 988, 990, 992, 994, 996, 998, 1000, 1002, 1004, 1006, 1008, 1010, 1012, 1014, 1016, 1018, 1020, 1022, 1024, 1026, 1028, 1030, 1032, 1034, 1036].getD k 0]? = some (u_lay RX7 TX7 k) by decide +kernel) w hw)) ((show ∀ w ∈ wsX70, goodWord w = true by decide +kernel) w hw), tyX7_ok, nmX7⟩
set_option maxRecDepth 20000 in
theorem nv_RX6 : (RX6 ≠ "java/lang/invoke/MethodHandle" ∧ RX6 ≠ "java/lang/invoke/VarHandle") := ⟨by decide +kernel, by decide +kernel⟩
set_option maxRecDepth 20000 in
theorem pd_0 : (parseMethodDescriptor "()V").map (fun d => d.parameters.length) = some 0 := by decide +kernel
set_option maxRecDepth 20000 in
theorem kL_9 : mc_CI "NoZeroWithinLaw" 9 yX6_init cX6_init 2 0 := ⟨⟨nv_RX6, pd_0, sg1 (List.mem_of_getElem? (i := 21) rfl) rfl, sg1 (List.mem_of_getElem? (i := 1) rfl) rfl⟩, sg1 (List.mem_of_getElem? (i := 19) rfl) rfl, sg1 (List.mem_of_getElem? (i := 20) rfl) rfl, rfl⟩
set_option maxRecDepth 20000 in
theorem oX6_1 : Cond.methodLink RX6 1 Lib.objectInit ∈ mc_WS := sg1 (List.mem_of_getElem? (i := 22) rfl) rfl
set_option maxRecDepth 20000 in
theorem nX6_23 : Cond.classLink RX6 23 RX5 ∈ mc_WS := sg1 (List.mem_of_getElem? (i := 25) rfl) rfl
set_option maxRecDepth 20000 in
theorem nv_RX5 : (RX5 ≠ "java/lang/invoke/MethodHandle" ∧ RX5 ≠ "java/lang/invoke/VarHandle") := ⟨by decide +kernel, by decide +kernel⟩
set_option maxRecDepth 20000 in
theorem pd_1 : (parseMethodDescriptor "([III)V").map (fun d => d.parameters.length) = some 3 := by decide +kernel
set_option maxRecDepth 20000 in
theorem kX6_25 : mc_CI RX6 25 yX5_init cX5_init 4 3 := ⟨⟨nv_RX5, pd_1, sg1 (List.mem_of_getElem? (i := 29) rfl) rfl, sg1 (List.mem_of_getElem? (i := 2) rfl) rfl⟩, sg1 (List.mem_of_getElem? (i := 27) rfl) rfl, sg1 (List.mem_of_getElem? (i := 28) rfl) rfl, rfl⟩
set_option maxRecDepth 20000 in
theorem oX5_3 : Cond.methodLink RX5 3 Lib.objectInit ∈ mc_WS := sg1 (List.mem_of_getElem? (i := 30) rfl) rfl
set_option maxRecDepth 20000 in
theorem lX5_9 : Cond.fieldLink RX5 9 (TX5 0).1 (TX5 0).2.1 (TX5 0).2.2.1 ∈ mc_WS := sg1 (List.mem_of_getElem? (i := 31) rfl) rfl
set_option maxRecDepth 20000 in
theorem fX5_9 : mc_FL RX5 9 5 0 := ⟨RX5, TX5, 3, tyX5, mcf5, by decide, lX5_9⟩
set_option maxRecDepth 20000 in
theorem pX5_9 : mc_FP RX5 9 5 0 (tyX5 0) true := ⟨RX5, TX5, 3, tyX5, mcf5, by decide, lX5_9, tyX5_ok 0 (by decide), rfl, rfl⟩
set_option maxRecDepth 20000 in
theorem lX5_15 : Cond.fieldLink RX5 15 (TX5 1).1 (TX5 1).2.1 (TX5 1).2.2.1 ∈ mc_WS := sg1 (List.mem_of_getElem? (i := 32) rfl) rfl
set_option maxRecDepth 20000 in
theorem fX5_15 : mc_FL RX5 15 5 1 := ⟨RX5, TX5, 3, tyX5, mcf5, by decide, lX5_15⟩
set_option maxRecDepth 20000 in
theorem pX5_15 : mc_FP RX5 15 5 1 (tyX5 1) true := ⟨RX5, TX5, 3, tyX5, mcf5, by decide, lX5_15, tyX5_ok 1 (by decide), rfl, rfl⟩
set_option maxRecDepth 20000 in
theorem lX5_19 : Cond.fieldLink RX5 19 (TX5 2).1 (TX5 2).2.1 (TX5 2).2.2.1 ∈ mc_WS := sg1 (List.mem_of_getElem? (i := 33) rfl) rfl
set_option maxRecDepth 20000 in
theorem fX5_19 : mc_FL RX5 19 5 2 := ⟨RX5, TX5, 3, tyX5, mcf5, by decide, lX5_19⟩
set_option maxRecDepth 20000 in
theorem pX5_19 : mc_FP RX5 19 5 2 (tyX5 2) true := ⟨RX5, TX5, 3, tyX5, mcf5, by decide, lX5_19, tyX5_ok 2 (by decide), rfl, rfl⟩
set_option maxRecDepth 20000 in
theorem nX6_39 : Cond.classLink RX6 39 RX4 ∈ mc_WS := sg1 (List.mem_of_getElem? (i := 43) rfl) rfl
set_option maxRecDepth 20000 in
theorem nv_RX4 : (RX4 ≠ "java/lang/invoke/MethodHandle" ∧ RX4 ≠ "java/lang/invoke/VarHandle") := ⟨by decide +kernel, by decide +kernel⟩
set_option maxRecDepth 20000 in
theorem kX6_41 : mc_CI RX6 41 yX4_init cX4_init 1 0 := ⟨⟨nv_RX4, pd_0, sg1 (List.mem_of_getElem? (i := 47) rfl) rfl, sg1 (List.mem_of_getElem? (i := 3) rfl) rfl⟩, sg1 (List.mem_of_getElem? (i := 45) rfl) rfl, sg1 (List.mem_of_getElem? (i := 46) rfl) rfl, rfl⟩
set_option maxRecDepth 20000 in
theorem oX4_3 : Cond.methodLink RX4 3 Lib.objectInit ∈ mc_WS := sg1 (List.mem_of_getElem? (i := 48) rfl) rfl
set_option maxRecDepth 20000 in
theorem lX4_9 : Cond.fieldLink RX4 9 (TX4 0).1 (TX4 0).2.1 (TX4 0).2.2.1 ∈ mc_WS := sg1 (List.mem_of_getElem? (i := 49) rfl) rfl
set_option maxRecDepth 20000 in
theorem fX4_9 : mc_FL RX4 9 4 0 := ⟨RX4, TX4, 9, tyX4, mcf4, by decide, lX4_9⟩
set_option maxRecDepth 20000 in
theorem pX4_9 : mc_FP RX4 9 4 0 (tyX4 0) true := ⟨RX4, TX4, 9, tyX4, mcf4, by decide, lX4_9, tyX4_ok 0 (by decide), rfl, rfl⟩
set_option maxRecDepth 20000 in
theorem lX4_18 : Cond.fieldLink RX4 18 (TX4 1).1 (TX4 1).2.1 (TX4 1).2.2.1 ∈ mc_WS := sg1 (List.mem_of_getElem? (i := 50) rfl) rfl
set_option maxRecDepth 20000 in
theorem fX4_18 : mc_FL RX4 18 4 1 := ⟨RX4, TX4, 9, tyX4, mcf4, by decide, lX4_18⟩
set_option maxRecDepth 20000 in
theorem pX4_18 : mc_FP RX4 18 4 1 (tyX4 1) false := ⟨RX4, TX4, 9, tyX4, mcf4, by decide, lX4_18, tyX4_ok 1 (by decide), rfl, rfl⟩
set_option maxRecDepth 20000 in
theorem lX4_44 : Cond.fieldLink RX4 44 (TX4 2).1 (TX4 2).2.1 (TX4 2).2.2.1 ∈ mc_WS := sg1 (List.mem_of_getElem? (i := 51) rfl) rfl
set_option maxRecDepth 20000 in
theorem fX4_44 : mc_FL RX4 44 4 2 := ⟨RX4, TX4, 9, tyX4, mcf4, by decide, lX4_44⟩
set_option maxRecDepth 20000 in
theorem pX4_44 : mc_FP RX4 44 4 2 (tyX4 2) false := ⟨RX4, TX4, 9, tyX4, mcf4, by decide, lX4_44, tyX4_ok 2 (by decide), rfl, rfl⟩
set_option maxRecDepth 20000 in
theorem lX4_22 : Cond.fieldLink RX4 22 (TX4 3).1 (TX4 3).2.1 (TX4 3).2.2.1 ∈ mc_WS := sg1 (List.mem_of_getElem? (i := 52) rfl) rfl
set_option maxRecDepth 20000 in
theorem fX4_22 : mc_FL RX4 22 4 3 := ⟨RX4, TX4, 9, tyX4, mcf4, by decide, lX4_22⟩
set_option maxRecDepth 20000 in
theorem pX4_22 : mc_FP RX4 22 4 3 (tyX4 3) false := ⟨RX4, TX4, 9, tyX4, mcf4, by decide, lX4_22, tyX4_ok 3 (by decide), rfl, rfl⟩
set_option maxRecDepth 20000 in
theorem lX4_41 : Cond.fieldLink RX4 41 (TX4 4).1 (TX4 4).2.1 (TX4 4).2.2.1 ∈ mc_WS := sg1 (List.mem_of_getElem? (i := 53) rfl) rfl
set_option maxRecDepth 20000 in
theorem fX4_41 : mc_FL RX4 41 4 4 := ⟨RX4, TX4, 9, tyX4, mcf4, by decide, lX4_41⟩
set_option maxRecDepth 20000 in
theorem pX4_41 : mc_FP RX4 41 4 4 (tyX4 4) false := ⟨RX4, TX4, 9, tyX4, mcf4, by decide, lX4_41, tyX4_ok 4 (by decide), rfl, rfl⟩
set_option maxRecDepth 20000 in
theorem lX4_15 : Cond.fieldLink RX4 15 (TX4 5).1 (TX4 5).2.1 (TX4 5).2.2.1 ∈ mc_WS := sg1 (List.mem_of_getElem? (i := 54) rfl) rfl
set_option maxRecDepth 20000 in
theorem fX4_15 : mc_FL RX4 15 4 5 := ⟨RX4, TX4, 9, tyX4, mcf4, by decide, lX4_15⟩
set_option maxRecDepth 20000 in
theorem pX4_15 : mc_FP RX4 15 4 5 (tyX4 5) true := ⟨RX4, TX4, 9, tyX4, mcf4, by decide, lX4_15, tyX4_ok 5 (by decide), rfl, rfl⟩
set_option maxRecDepth 20000 in
theorem lX4_25 : Cond.fieldLink RX4 25 (TX4 6).1 (TX4 6).2.1 (TX4 6).2.2.1 ∈ mc_WS := sg1 (List.mem_of_getElem? (i := 55) rfl) rfl
set_option maxRecDepth 20000 in
theorem fX4_25 : mc_FL RX4 25 4 6 := ⟨RX4, TX4, 9, tyX4, mcf4, by decide, lX4_25⟩
set_option maxRecDepth 20000 in
theorem pX4_25 : mc_FP RX4 25 4 6 (tyX4 6) false := ⟨RX4, TX4, 9, tyX4, mcf4, by decide, lX4_25, tyX4_ok 6 (by decide), rfl, rfl⟩
set_option maxRecDepth 20000 in
theorem lX4_35 : Cond.fieldLink RX4 35 (TX4 7).1 (TX4 7).2.1 (TX4 7).2.2.1 ∈ mc_WS := sg1 (List.mem_of_getElem? (i := 56) rfl) rfl
set_option maxRecDepth 20000 in
theorem fX4_35 : mc_FL RX4 35 4 7 := ⟨RX4, TX4, 9, tyX4, mcf4, by decide, lX4_35⟩
set_option maxRecDepth 20000 in
theorem pX4_35 : mc_FP RX4 35 4 7 (tyX4 7) false := ⟨RX4, TX4, 9, tyX4, mcf4, by decide, lX4_35, tyX4_ok 7 (by decide), rfl, rfl⟩
set_option maxRecDepth 20000 in
theorem lX4_38 : Cond.fieldLink RX4 38 (TX4 8).1 (TX4 8).2.1 (TX4 8).2.2.1 ∈ mc_WS := sg1 (List.mem_of_getElem? (i := 57) rfl) rfl
set_option maxRecDepth 20000 in
theorem fX4_38 : mc_FL RX4 38 4 8 := ⟨RX4, TX4, 9, tyX4, mcf4, by decide, lX4_38⟩
set_option maxRecDepth 20000 in
theorem pX4_38 : mc_FP RX4 38 4 8 (tyX4 8) false := ⟨RX4, TX4, 9, tyX4, mcf4, by decide, lX4_38, tyX4_ok 8 (by decide), rfl, rfl⟩
set_option maxRecDepth 20000 in
theorem nX6_46 : Cond.classLink RX6 46 RX3 ∈ mc_WS := sg1 (List.mem_of_getElem? (i := 77) rfl) rfl
set_option maxRecDepth 20000 in
theorem nX6_52 : Cond.classLink RX6 52 RX0 ∈ mc_WS := sg1 (List.mem_of_getElem? (i := 79) rfl) rfl
set_option maxRecDepth 20000 in
theorem nv_RX0 : (RX0 ≠ "java/lang/invoke/MethodHandle" ∧ RX0 ≠ "java/lang/invoke/VarHandle") := ⟨by decide +kernel, by decide +kernel⟩
set_option maxRecDepth 20000 in
theorem kX6_54 : mc_CI RX6 54 yX0_init cX0_init 1 0 := ⟨⟨nv_RX0, pd_0, sg1 (List.mem_of_getElem? (i := 83) rfl) rfl, sg1 (List.mem_of_getElem? (i := 4) rfl) rfl⟩, sg1 (List.mem_of_getElem? (i := 81) rfl) rfl, sg1 (List.mem_of_getElem? (i := 82) rfl) rfl, rfl⟩
set_option maxRecDepth 20000 in
theorem oX0_3 : Cond.methodLink RX0 3 Lib.objectInit ∈ mc_WS := sg1 (List.mem_of_getElem? (i := 84) rfl) rfl
set_option maxRecDepth 20000 in
theorem lX0_9 : Cond.fieldLink RX0 9 (TX0 0).1 (TX0 0).2.1 (TX0 0).2.2.1 ∈ mc_WS := sg1 (List.mem_of_getElem? (i := 85) rfl) rfl
set_option maxRecDepth 20000 in
theorem fX0_9 : mc_FL RX0 9 0 0 := ⟨RX0, TX0, 2, tyX0, mcf0, by decide, lX0_9⟩
set_option maxRecDepth 20000 in
theorem pX0_9 : mc_FP RX0 9 0 0 (tyX0 0) true := ⟨RX0, TX0, 2, tyX0, mcf0, by decide, lX0_9, tyX0_ok 0 (by decide), rfl, rfl⟩
set_option maxRecDepth 20000 in
theorem lX0_15 : Cond.fieldLink RX0 15 (TX0 1).1 (TX0 1).2.1 (TX0 1).2.2.1 ∈ mc_WS := sg1 (List.mem_of_getElem? (i := 86) rfl) rfl
set_option maxRecDepth 20000 in
theorem fX0_15 : mc_FL RX0 15 0 1 := ⟨RX0, TX0, 2, tyX0, mcf0, by decide, lX0_15⟩
set_option maxRecDepth 20000 in
theorem pX0_15 : mc_FP RX0 15 0 1 (tyX0 1) true := ⟨RX0, TX0, 2, tyX0, mcf0, by decide, lX0_15, tyX0_ok 1 (by decide), rfl, rfl⟩
set_option maxRecDepth 20000 in
theorem nX6_59 : Cond.classLink RX6 59 RX2 ∈ mc_WS := sg1 (List.mem_of_getElem? (i := 92) rfl) rfl
set_option maxRecDepth 20000 in
theorem nv_RX2 : (RX2 ≠ "java/lang/invoke/MethodHandle" ∧ RX2 ≠ "java/lang/invoke/VarHandle") := ⟨by decide +kernel, by decide +kernel⟩
set_option maxRecDepth 20000 in
theorem kX6_61 : mc_CI RX6 61 yX2_init cX2_init 1 0 := ⟨⟨nv_RX2, pd_0, sg1 (List.mem_of_getElem? (i := 96) rfl) rfl, sg1 (List.mem_of_getElem? (i := 5) rfl) rfl⟩, sg1 (List.mem_of_getElem? (i := 94) rfl) rfl, sg1 (List.mem_of_getElem? (i := 95) rfl) rfl, rfl⟩
set_option maxRecDepth 20000 in
theorem oX2_1 : Cond.methodLink RX2 1 Lib.objectInit ∈ mc_WS := sg1 (List.mem_of_getElem? (i := 97) rfl) rfl
set_option maxRecDepth 20000 in
theorem nX2_7 : Cond.classLink RX2 7 RX0 ∈ mc_WS := sg1 (List.mem_of_getElem? (i := 98) rfl) rfl
set_option maxRecDepth 20000 in
theorem kX2_9 : mc_CI RX2 9 yX0_init cX0_init 1 0 := ⟨⟨nv_RX0, pd_0, sg1 (List.mem_of_getElem? (i := 83) rfl) rfl, sg1 (List.mem_of_getElem? (i := 4) rfl) rfl⟩, sg1 (List.mem_of_getElem? (i := 99) rfl) rfl, sg1 (List.mem_of_getElem? (i := 82) rfl) rfl, rfl⟩
set_option maxRecDepth 20000 in
theorem lX2_16 : Cond.fieldLink RX2 16 (TX2 0).1 (TX2 0).2.1 (TX2 0).2.2.1 ∈ mc_WS := sg1 (List.mem_of_getElem? (i := 100) rfl) rfl
set_option maxRecDepth 20000 in
theorem fX2_16 : mc_FL RX2 16 2 0 := ⟨RX2, TX2, 6, tyX2, mcf2, by decide, lX2_16⟩
set_option maxRecDepth 20000 in
theorem pX2_16 : mc_FP RX2 16 2 0 (tyX2 0) false := ⟨RX2, TX2, 6, tyX2, mcf2, by decide, lX2_16, tyX2_ok 0 (by decide), rfl, rfl⟩
set_option maxRecDepth 20000 in
theorem lX2_20 : Cond.fieldLink RX2 20 (TX2 1).1 (TX2 1).2.1 (TX2 1).2.2.1 ∈ mc_WS := sg1 (List.mem_of_getElem? (i := 101) rfl) rfl
set_option maxRecDepth 20000 in
theorem fX2_20 : mc_FL RX2 20 2 1 := ⟨RX2, TX2, 6, tyX2, mcf2, by decide, lX2_20⟩
set_option maxRecDepth 20000 in
theorem pX2_20 : mc_FP RX2 20 2 1 (tyX2 1) false := ⟨RX2, TX2, 6, tyX2, mcf2, by decide, lX2_20, tyX2_ok 1 (by decide), rfl, rfl⟩
set_option maxRecDepth 20000 in
theorem lX2_24 : Cond.fieldLink RX2 24 (TX2 2).1 (TX2 2).2.1 (TX2 2).2.2.1 ∈ mc_WS := sg1 (List.mem_of_getElem? (i := 102) rfl) rfl
set_option maxRecDepth 20000 in
theorem fX2_24 : mc_FL RX2 24 2 2 := ⟨RX2, TX2, 6, tyX2, mcf2, by decide, lX2_24⟩
set_option maxRecDepth 20000 in
theorem pX2_24 : mc_FP RX2 24 2 2 (tyX2 2) false := ⟨RX2, TX2, 6, tyX2, mcf2, by decide, lX2_24, tyX2_ok 2 (by decide), rfl, rfl⟩
set_option maxRecDepth 20000 in
theorem lX2_27 : Cond.fieldLink RX2 27 (TX2 3).1 (TX2 3).2.1 (TX2 3).2.2.1 ∈ mc_WS := sg1 (List.mem_of_getElem? (i := 103) rfl) rfl
set_option maxRecDepth 20000 in
theorem fX2_27 : mc_FL RX2 27 2 3 := ⟨RX2, TX2, 6, tyX2, mcf2, by decide, lX2_27⟩
set_option maxRecDepth 20000 in
theorem pX2_27 : mc_FP RX2 27 2 3 (tyX2 3) false := ⟨RX2, TX2, 6, tyX2, mcf2, by decide, lX2_27, tyX2_ok 3 (by decide), rfl, rfl⟩
set_option maxRecDepth 20000 in
theorem lX2_30 : Cond.fieldLink RX2 30 (TX2 4).1 (TX2 4).2.1 (TX2 4).2.2.1 ∈ mc_WS := sg1 (List.mem_of_getElem? (i := 104) rfl) rfl
set_option maxRecDepth 20000 in
theorem fX2_30 : mc_FL RX2 30 2 4 := ⟨RX2, TX2, 6, tyX2, mcf2, by decide, lX2_30⟩
set_option maxRecDepth 20000 in
theorem pX2_30 : mc_FP RX2 30 2 4 (tyX2 4) false := ⟨RX2, TX2, 6, tyX2, mcf2, by decide, lX2_30, tyX2_ok 4 (by decide), rfl, rfl⟩
set_option maxRecDepth 20000 in
theorem lX2_10 : Cond.fieldLink RX2 10 (TX2 5).1 (TX2 5).2.1 (TX2 5).2.2.1 ∈ mc_WS := sg1 (List.mem_of_getElem? (i := 105) rfl) rfl
set_option maxRecDepth 20000 in
theorem fX2_10 : mc_FL RX2 10 2 5 := ⟨RX2, TX2, 6, tyX2, mcf2, by decide, lX2_10⟩
set_option maxRecDepth 20000 in
theorem pX2_10 : mc_FP RX2 10 2 5 (tyX2 5) true := ⟨RX2, TX2, 6, tyX2, mcf2, by decide, lX2_10, tyX2_ok 5 (by decide), rfl, rfl⟩
set_option maxRecDepth 20000 in
theorem nX6_66 : Cond.classLink RX6 66 RX1 ∈ mc_WS := sg1 (List.mem_of_getElem? (i := 119) rfl) rfl
set_option maxRecDepth 20000 in
theorem nv_RX1 : (RX1 ≠ "java/lang/invoke/MethodHandle" ∧ RX1 ≠ "java/lang/invoke/VarHandle") := ⟨by decide +kernel, by decide +kernel⟩
set_option maxRecDepth 20000 in
theorem pd_2 : (parseMethodDescriptor "(LNoZeroWithin$Text;)V").map (fun d => d.parameters.length) = some 1 := by decide +kernel
set_option maxRecDepth 20000 in
theorem kX6_68 : mc_CI RX6 68 yX1_init cX1_init 2 1 := ⟨⟨nv_RX1, pd_2, sg1 (List.mem_of_getElem? (i := 123) rfl) rfl, sg1 (List.mem_of_getElem? (i := 6) rfl) rfl⟩, sg1 (List.mem_of_getElem? (i := 121) rfl) rfl, sg1 (List.mem_of_getElem? (i := 122) rfl) rfl, rfl⟩
set_option maxRecDepth 20000 in
theorem oX1_3 : Cond.methodLink RX1 3 Lib.objectInit ∈ mc_WS := sg1 (List.mem_of_getElem? (i := 124) rfl) rfl
set_option maxRecDepth 20000 in
theorem lX1_25 : Cond.fieldLink RX1 25 (TX1 0).1 (TX1 0).2.1 (TX1 0).2.2.1 ∈ mc_WS := sg1 (List.mem_of_getElem? (i := 125) rfl) rfl
set_option maxRecDepth 20000 in
theorem fX1_25 : mc_FL RX1 25 1 0 := ⟨RX1, TX1, 6, tyX1, mcf1, by decide, lX1_25⟩
set_option maxRecDepth 20000 in
theorem pX1_25 : mc_FP RX1 25 1 0 (tyX1 0) false := ⟨RX1, TX1, 6, tyX1, mcf1, by decide, lX1_25, tyX1_ok 0 (by decide), rfl, rfl⟩
set_option maxRecDepth 20000 in
theorem lX1_21 : Cond.fieldLink RX1 21 (TX1 1).1 (TX1 1).2.1 (TX1 1).2.2.1 ∈ mc_WS := sg1 (List.mem_of_getElem? (i := 126) rfl) rfl
set_option maxRecDepth 20000 in
theorem fX1_21 : mc_FL RX1 21 1 1 := ⟨RX1, TX1, 6, tyX1, mcf1, by decide, lX1_21⟩
set_option maxRecDepth 20000 in
theorem pX1_21 : mc_FP RX1 21 1 1 (tyX1 1) false := ⟨RX1, TX1, 6, tyX1, mcf1, by decide, lX1_21, tyX1_ok 1 (by decide), rfl, rfl⟩
set_option maxRecDepth 20000 in
theorem lX1_11 : Cond.fieldLink RX1 11 (TX1 2).1 (TX1 2).2.1 (TX1 2).2.2.1 ∈ mc_WS := sg1 (List.mem_of_getElem? (i := 127) rfl) rfl
set_option maxRecDepth 20000 in
theorem fX1_11 : mc_FL RX1 11 1 2 := ⟨RX1, TX1, 6, tyX1, mcf1, by decide, lX1_11⟩
set_option maxRecDepth 20000 in
theorem pX1_11 : mc_FP RX1 11 1 2 (tyX1 2) true := ⟨RX1, TX1, 6, tyX1, mcf1, by decide, lX1_11, tyX1_ok 2 (by decide), rfl, rfl⟩
set_option maxRecDepth 20000 in
theorem lX1_15 : Cond.fieldLink RX1 15 (TX1 3).1 (TX1 3).2.1 (TX1 3).2.2.1 ∈ mc_WS := sg1 (List.mem_of_getElem? (i := 128) rfl) rfl
set_option maxRecDepth 20000 in
theorem fX1_15 : mc_FL RX1 15 1 3 := ⟨RX1, TX1, 6, tyX1, mcf1, by decide, lX1_15⟩
set_option maxRecDepth 20000 in
theorem pX1_15 : mc_FP RX1 15 1 3 (tyX1 3) true := ⟨RX1, TX1, 6, tyX1, mcf1, by decide, lX1_15, tyX1_ok 3 (by decide), rfl, rfl⟩
set_option maxRecDepth 20000 in
theorem lX1_18 : Cond.fieldLink RX1 18 (TX1 4).1 (TX1 4).2.1 (TX1 4).2.2.1 ∈ mc_WS := sg1 (List.mem_of_getElem? (i := 129) rfl) rfl
set_option maxRecDepth 20000 in
theorem fX1_18 : mc_FL RX1 18 1 4 := ⟨RX1, TX1, 6, tyX1, mcf1, by decide, lX1_18⟩
set_option maxRecDepth 20000 in
theorem pX1_18 : mc_FP RX1 18 1 4 (tyX1 4) true := ⟨RX1, TX1, 6, tyX1, mcf1, by decide, lX1_18, tyX1_ok 4 (by decide), rfl, rfl⟩
set_option maxRecDepth 20000 in
theorem lX1_61 : Cond.fieldLink RX1 61 (TX1 5).1 (TX1 5).2.1 (TX1 5).2.2.1 ∈ mc_WS := sg1 (List.mem_of_getElem? (i := 130) rfl) rfl
set_option maxRecDepth 20000 in
theorem fX1_61 : mc_FL RX1 61 1 5 := ⟨RX1, TX1, 6, tyX1, mcf1, by decide, lX1_61⟩
set_option maxRecDepth 20000 in
theorem pX1_61 : mc_FP RX1 61 1 5 (tyX1 5) false := ⟨RX1, TX1, 6, tyX1, mcf1, by decide, lX1_61, tyX1_ok 5 (by decide), rfl, rfl⟩
set_option maxRecDepth 20000 in
theorem nv_RX3 : (RX3 ≠ "java/lang/invoke/MethodHandle" ∧ RX3 ≠ "java/lang/invoke/VarHandle") := ⟨by decide +kernel, by decide +kernel⟩
set_option maxRecDepth 20000 in
theorem kX6_75 : mc_CI RX6 75 yX3_init cX3_init 1 0 := ⟨⟨nv_RX3, pd_0, sg1 (List.mem_of_getElem? (i := 147) rfl) rfl, sg1 (List.mem_of_getElem? (i := 7) rfl) rfl⟩, sg1 (List.mem_of_getElem? (i := 145) rfl) rfl, sg1 (List.mem_of_getElem? (i := 146) rfl) rfl, rfl⟩
set_option maxRecDepth 20000 in
theorem oX3_3 : Cond.methodLink RX3 3 Lib.objectInit ∈ mc_WS := sg1 (List.mem_of_getElem? (i := 148) rfl) rfl
set_option maxRecDepth 20000 in
theorem lX3_9 : Cond.fieldLink RX3 9 (TX3 0).1 (TX3 0).2.1 (TX3 0).2.2.1 ∈ mc_WS := sg1 (List.mem_of_getElem? (i := 149) rfl) rfl
set_option maxRecDepth 20000 in
theorem fX3_9 : mc_FL RX3 9 3 0 := ⟨RX3, TX3, 3, tyX3, mcf3, by decide, lX3_9⟩
set_option maxRecDepth 20000 in
theorem pX3_9 : mc_FP RX3 9 3 0 (tyX3 0) true := ⟨RX3, TX3, 3, tyX3, mcf3, by decide, lX3_9, tyX3_ok 0 (by decide), rfl, rfl⟩
set_option maxRecDepth 20000 in
theorem lX3_15 : Cond.fieldLink RX3 15 (TX3 1).1 (TX3 1).2.1 (TX3 1).2.2.1 ∈ mc_WS := sg1 (List.mem_of_getElem? (i := 150) rfl) rfl
set_option maxRecDepth 20000 in
theorem fX3_15 : mc_FL RX3 15 3 1 := ⟨RX3, TX3, 3, tyX3, mcf3, by decide, lX3_15⟩
set_option maxRecDepth 20000 in
theorem pX3_15 : mc_FP RX3 15 3 1 (tyX3 1) false := ⟨RX3, TX3, 3, tyX3, mcf3, by decide, lX3_15, tyX3_ok 1 (by decide), rfl, rfl⟩
set_option maxRecDepth 20000 in
theorem lX3_28 : Cond.fieldLink RX3 28 (TX3 2).1 (TX3 2).2.1 (TX3 2).2.2.1 ∈ mc_WS := sg1 (List.mem_of_getElem? (i := 151) rfl) rfl
set_option maxRecDepth 20000 in
theorem fX3_28 : mc_FL RX3 28 3 2 := ⟨RX3, TX3, 3, tyX3, mcf3, by decide, lX3_28⟩
set_option maxRecDepth 20000 in
theorem pX3_28 : mc_FP RX3 28 3 2 (tyX3 2) false := ⟨RX3, TX3, 3, tyX3, mcf3, by decide, lX3_28, tyX3_ok 2 (by decide), rfl, rfl⟩
set_option maxRecDepth 20000 in
theorem lX6_7 : Cond.fieldLink RX6 7 (TX6 0).1 (TX6 0).2.1 (TX6 0).2.2.1 ∈ mc_WS := sg1 (List.mem_of_getElem? (i := 159) rfl) rfl
set_option maxRecDepth 20000 in
theorem fX6_7 : mc_FL RX6 7 6 0 := ⟨RX6, TX6, 14, tyX6, mcf6, by decide, lX6_7⟩
set_option maxRecDepth 20000 in
theorem pX6_7 : mc_FP RX6 7 6 0 (tyX6 0) false := ⟨RX6, TX6, 14, tyX6, mcf6, by decide, lX6_7, tyX6_ok 0 (by decide), rfl, rfl⟩
set_option maxRecDepth 20000 in
theorem lX6_13 : Cond.fieldLink RX6 13 (TX6 1).1 (TX6 1).2.1 (TX6 1).2.2.1 ∈ mc_WS := sg1 (List.mem_of_getElem? (i := 160) rfl) rfl
set_option maxRecDepth 20000 in
theorem fX6_13 : mc_FL RX6 13 6 1 := ⟨RX6, TX6, 14, tyX6, mcf6, by decide, lX6_13⟩
set_option maxRecDepth 20000 in
theorem pX6_13 : mc_FP RX6 13 6 1 (tyX6 1) false := ⟨RX6, TX6, 14, tyX6, mcf6, by decide, lX6_13, tyX6_ok 1 (by decide), rfl, rfl⟩
set_option maxRecDepth 20000 in
theorem lX6_76 : Cond.fieldLink RX6 76 (TX6 2).1 (TX6 2).2.1 (TX6 2).2.2.1 ∈ mc_WS := sg1 (List.mem_of_getElem? (i := 161) rfl) rfl
set_option maxRecDepth 20000 in
theorem fX6_76 : mc_FL RX6 76 6 2 := ⟨RX6, TX6, 14, tyX6, mcf6, by decide, lX6_76⟩
set_option maxRecDepth 20000 in
theorem pX6_76 : mc_FP RX6 76 6 2 (tyX6 2) false := ⟨RX6, TX6, 14, tyX6, mcf6, by decide, lX6_76, tyX6_ok 2 (by decide), rfl, rfl⟩
set_option maxRecDepth 20000 in
theorem lX6_16 : Cond.fieldLink RX6 16 (TX6 3).1 (TX6 3).2.1 (TX6 3).2.2.1 ∈ mc_WS := sg1 (List.mem_of_getElem? (i := 162) rfl) rfl
set_option maxRecDepth 20000 in
theorem fX6_16 : mc_FL RX6 16 6 3 := ⟨RX6, TX6, 14, tyX6, mcf6, by decide, lX6_16⟩
set_option maxRecDepth 20000 in
theorem pX6_16 : mc_FP RX6 16 6 3 (tyX6 3) true := ⟨RX6, TX6, 14, tyX6, mcf6, by decide, lX6_16, tyX6_ok 3 (by decide), rfl, rfl⟩
set_option maxRecDepth 20000 in
theorem lX6_20 : Cond.fieldLink RX6 20 (TX6 4).1 (TX6 4).2.1 (TX6 4).2.2.1 ∈ mc_WS := sg1 (List.mem_of_getElem? (i := 163) rfl) rfl
set_option maxRecDepth 20000 in
theorem fX6_20 : mc_FL RX6 20 6 4 := ⟨RX6, TX6, 14, tyX6, mcf6, by decide, lX6_20⟩
set_option maxRecDepth 20000 in
theorem pX6_20 : mc_FP RX6 20 6 4 (tyX6 4) true := ⟨RX6, TX6, 14, tyX6, mcf6, by decide, lX6_20, tyX6_ok 4 (by decide), rfl, rfl⟩
set_option maxRecDepth 20000 in
theorem lX6_28 : Cond.fieldLink RX6 28 (TX6 5).1 (TX6 5).2.1 (TX6 5).2.2.1 ∈ mc_WS := sg1 (List.mem_of_getElem? (i := 164) rfl) rfl
set_option maxRecDepth 20000 in
theorem fX6_28 : mc_FL RX6 28 6 5 := ⟨RX6, TX6, 14, tyX6, mcf6, by decide, lX6_28⟩
set_option maxRecDepth 20000 in
theorem pX6_28 : mc_FP RX6 28 6 5 (tyX6 5) true := ⟨RX6, TX6, 14, tyX6, mcf6, by decide, lX6_28, tyX6_ok 5 (by decide), rfl, rfl⟩
set_option maxRecDepth 20000 in
theorem lX6_32 : Cond.fieldLink RX6 32 (TX6 6).1 (TX6 6).2.1 (TX6 6).2.2.1 ∈ mc_WS := sg1 (List.mem_of_getElem? (i := 165) rfl) rfl
set_option maxRecDepth 20000 in
theorem fX6_32 : mc_FL RX6 32 6 6 := ⟨RX6, TX6, 14, tyX6, mcf6, by decide, lX6_32⟩
set_option maxRecDepth 20000 in
theorem pX6_32 : mc_FP RX6 32 6 6 (tyX6 6) true := ⟨RX6, TX6, 14, tyX6, mcf6, by decide, lX6_32, tyX6_ok 6 (by decide), rfl, rfl⟩
set_option maxRecDepth 20000 in
theorem lX6_36 : Cond.fieldLink RX6 36 (TX6 7).1 (TX6 7).2.1 (TX6 7).2.2.1 ∈ mc_WS := sg1 (List.mem_of_getElem? (i := 166) rfl) rfl
set_option maxRecDepth 20000 in
theorem fX6_36 : mc_FL RX6 36 6 7 := ⟨RX6, TX6, 14, tyX6, mcf6, by decide, lX6_36⟩
set_option maxRecDepth 20000 in
theorem pX6_36 : mc_FP RX6 36 6 7 (tyX6 7) false := ⟨RX6, TX6, 14, tyX6, mcf6, by decide, lX6_36, tyX6_ok 7 (by decide), rfl, rfl⟩
set_option maxRecDepth 20000 in
theorem lX6_79 : Cond.fieldLink RX6 79 (TX6 8).1 (TX6 8).2.1 (TX6 8).2.2.1 ∈ mc_WS := sg1 (List.mem_of_getElem? (i := 167) rfl) rfl
set_option maxRecDepth 20000 in
theorem fX6_79 : mc_FL RX6 79 6 8 := ⟨RX6, TX6, 14, tyX6, mcf6, by decide, lX6_79⟩
set_option maxRecDepth 20000 in
theorem pX6_79 : mc_FP RX6 79 6 8 (tyX6 8) false := ⟨RX6, TX6, 14, tyX6, mcf6, by decide, lX6_79, tyX6_ok 8 (by decide), rfl, rfl⟩
set_option maxRecDepth 20000 in
theorem lX6_42 : Cond.fieldLink RX6 42 (TX6 9).1 (TX6 9).2.1 (TX6 9).2.2.1 ∈ mc_WS := sg1 (List.mem_of_getElem? (i := 168) rfl) rfl
set_option maxRecDepth 20000 in
theorem fX6_42 : mc_FL RX6 42 6 9 := ⟨RX6, TX6, 14, tyX6, mcf6, by decide, lX6_42⟩
set_option maxRecDepth 20000 in
theorem pX6_42 : mc_FP RX6 42 6 9 (tyX6 9) true := ⟨RX6, TX6, 14, tyX6, mcf6, by decide, lX6_42, tyX6_ok 9 (by decide), rfl, rfl⟩
set_option maxRecDepth 20000 in
theorem lX6_48 : Cond.fieldLink RX6 48 (TX6 10).1 (TX6 10).2.1 (TX6 10).2.2.1 ∈ mc_WS := sg1 (List.mem_of_getElem? (i := 169) rfl) rfl
set_option maxRecDepth 20000 in
theorem fX6_48 : mc_FL RX6 48 6 10 := ⟨RX6, TX6, 14, tyX6, mcf6, by decide, lX6_48⟩
set_option maxRecDepth 20000 in
theorem pX6_48 : mc_FP RX6 48 6 10 (tyX6 10) true := ⟨RX6, TX6, 14, tyX6, mcf6, by decide, lX6_48, tyX6_ok 10 (by decide), rfl, rfl⟩
set_option maxRecDepth 20000 in
theorem lX6_55 : Cond.fieldLink RX6 55 (TX6 11).1 (TX6 11).2.1 (TX6 11).2.2.1 ∈ mc_WS := sg1 (List.mem_of_getElem? (i := 170) rfl) rfl
set_option maxRecDepth 20000 in
theorem fX6_55 : mc_FL RX6 55 6 11 := ⟨RX6, TX6, 14, tyX6, mcf6, by decide, lX6_55⟩
set_option maxRecDepth 20000 in
theorem pX6_55 : mc_FP RX6 55 6 11 (tyX6 11) true := ⟨RX6, TX6, 14, tyX6, mcf6, by decide, lX6_55, tyX6_ok 11 (by decide), rfl, rfl⟩
set_option maxRecDepth 20000 in
theorem lX6_62 : Cond.fieldLink RX6 62 (TX6 12).1 (TX6 12).2.1 (TX6 12).2.2.1 ∈ mc_WS := sg1 (List.mem_of_getElem? (i := 171) rfl) rfl
set_option maxRecDepth 20000 in
theorem fX6_62 : mc_FL RX6 62 6 12 := ⟨RX6, TX6, 14, tyX6, mcf6, by decide, lX6_62⟩
set_option maxRecDepth 20000 in
theorem pX6_62 : mc_FP RX6 62 6 12 (tyX6 12) true := ⟨RX6, TX6, 14, tyX6, mcf6, by decide, lX6_62, tyX6_ok 12 (by decide), rfl, rfl⟩
set_option maxRecDepth 20000 in
theorem lX6_71 : Cond.fieldLink RX6 71 (TX6 13).1 (TX6 13).2.1 (TX6 13).2.2.1 ∈ mc_WS := sg1 (List.mem_of_getElem? (i := 172) rfl) rfl
set_option maxRecDepth 20000 in
theorem fX6_71 : mc_FL RX6 71 6 13 := ⟨RX6, TX6, 14, tyX6, mcf6, by decide, lX6_71⟩
set_option maxRecDepth 20000 in
theorem pX6_71 : mc_FP RX6 71 6 13 (tyX6 13) true := ⟨RX6, TX6, 14, tyX6, mcf6, by decide, lX6_71, tyX6_ok 13 (by decide), rfl, rfl⟩
set_option maxRecDepth 20000 in
theorem pd_3 : (parseMethodDescriptor "(I)I").map (fun d => d.parameters.length) = some 1 := by decide +kernel
set_option maxRecDepth 20000 in
theorem kL_13 : mc_CV "NoZeroWithinLaw" 13 yX6_count cX6_count 2 (some .int) 1 := ⟨⟨nv_RX6, pd_3, sg1 (List.mem_of_getElem? (i := 205) rfl) rfl, sg1 (List.mem_of_getElem? (i := 1) rfl) rfl⟩, sg1 (List.mem_of_getElem? (i := 202) rfl) rfl, sg1 (List.mem_of_getElem? (i := 203) rfl) rfl, sg1 (List.mem_of_getElem? (i := 204) rfl) rfl⟩
set_option maxRecDepth 20000 in
theorem pd_4 : (parseMethodDescriptor "()I").map (fun d => d.parameters.length) = some 0 := by decide +kernel
set_option maxRecDepth 20000 in
theorem kX6_82 : mc_CV RX6 82 yX4_size cX4_size 1 (some .int) 0 := ⟨⟨nv_RX4, pd_4, sg1 (List.mem_of_getElem? (i := 209) rfl) rfl, sg1 (List.mem_of_getElem? (i := 3) rfl) rfl⟩, sg1 (List.mem_of_getElem? (i := 206) rfl) rfl, sg1 (List.mem_of_getElem? (i := 207) rfl) rfl, sg1 (List.mem_of_getElem? (i := 208) rfl) rfl⟩
set_option maxRecDepth 20000 in
theorem pd_5 : (parseMethodDescriptor "(II)I").map (fun d => d.parameters.length) = some 2 := by decide +kernel
set_option maxRecDepth 20000 in
theorem kL_18 : mc_CV "NoZeroWithinLaw" 18 yX6_set cX6_set 4 (some .int) 2 := ⟨⟨nv_RX6, pd_5, sg1 (List.mem_of_getElem? (i := 213) rfl) rfl, sg1 (List.mem_of_getElem? (i := 1) rfl) rfl⟩, sg1 (List.mem_of_getElem? (i := 210) rfl) rfl, sg1 (List.mem_of_getElem? (i := 211) rfl) rfl, sg1 (List.mem_of_getElem? (i := 212) rfl) rfl⟩
set_option maxRecDepth 20000 in
theorem pd_6 : (parseMethodDescriptor "(III)Z").map (fun d => d.parameters.length) = some 3 := by decide +kernel
set_option maxRecDepth 20000 in
theorem kX6_86 : mc_CS RX6 86 yX6_isWithin cX6_isWithin 3 (some .boolean) 3 := ⟨⟨nv_RX6, pd_6, sg1 (List.mem_of_getElem? (i := 216) rfl) rfl, sg1 (List.mem_of_getElem? (i := 1) rfl) rfl⟩, sg1 (List.mem_of_getElem? (i := 214) rfl) rfl, sg1 (List.mem_of_getElem? (i := 215) rfl) rfl⟩
set_option maxRecDepth 20000 in
theorem pd_7 : (parseMethodDescriptor "(I)Z").map (fun d => d.parameters.length) = some 1 := by decide +kernel
set_option maxRecDepth 20000 in
theorem kX6_90 : mc_CS RX6 90 yX6_isYear cX6_isYear 1 (some .boolean) 1 := ⟨⟨nv_RX6, pd_7, sg1 (List.mem_of_getElem? (i := 219) rfl) rfl, sg1 (List.mem_of_getElem? (i := 1) rfl) rfl⟩, sg1 (List.mem_of_getElem? (i := 217) rfl) rfl, sg1 (List.mem_of_getElem? (i := 218) rfl) rfl⟩
set_option maxRecDepth 20000 in
theorem pd_8 : (parseMethodDescriptor "(IIIIII)I").map (fun d => d.parameters.length) = some 6 := by decide +kernel
set_option maxRecDepth 20000 in
theorem kL_23 : mc_CV "NoZeroWithinLaw" 23 yX6_feed cX6_feed 7 (some .int) 6 := ⟨⟨nv_RX6, pd_8, sg1 (List.mem_of_getElem? (i := 223) rfl) rfl, sg1 (List.mem_of_getElem? (i := 1) rfl) rfl⟩, sg1 (List.mem_of_getElem? (i := 220) rfl) rfl, sg1 (List.mem_of_getElem? (i := 221) rfl) rfl, sg1 (List.mem_of_getElem? (i := 222) rfl) rfl⟩
set_option maxRecDepth 20000 in
theorem kX6_94 : mc_CS RX6 94 yX6_isByte cX6_isByte 1 (some .boolean) 1 := ⟨⟨nv_RX6, pd_7, sg1 (List.mem_of_getElem? (i := 226) rfl) rfl, sg1 (List.mem_of_getElem? (i := 1) rfl) rfl⟩, sg1 (List.mem_of_getElem? (i := 224) rfl) rfl, sg1 (List.mem_of_getElem? (i := 225) rfl) rfl⟩
set_option maxRecDepth 20000 in
theorem pd_9 : (parseMethodDescriptor "(I)V").map (fun d => d.parameters.length) = some 1 := by decide +kernel
set_option maxRecDepth 20000 in
theorem kX6_97 : mc_CV RX6 97 yX4_append cX4_append 2 none 1 := ⟨⟨nv_RX4, pd_9, sg1 (List.mem_of_getElem? (i := 230) rfl) rfl, sg1 (List.mem_of_getElem? (i := 3) rfl) rfl⟩, sg1 (List.mem_of_getElem? (i := 227) rfl) rfl, sg1 (List.mem_of_getElem? (i := 228) rfl) rfl, sg1 (List.mem_of_getElem? (i := 229) rfl) rfl⟩
set_option maxRecDepth 20000 in
theorem kL_28 : mc_CV "NoZeroWithinLaw" 28 yX6_text cX6_text 3 (some .int) 0 := ⟨⟨nv_RX6, pd_4, sg1 (List.mem_of_getElem? (i := 234) rfl) rfl, sg1 (List.mem_of_getElem? (i := 1) rfl) rfl⟩, sg1 (List.mem_of_getElem? (i := 231) rfl) rfl, sg1 (List.mem_of_getElem? (i := 232) rfl) rfl, sg1 (List.mem_of_getElem? (i := 233) rfl) rfl⟩
set_option maxRecDepth 20000 in
theorem pd_10 : (parseMethodDescriptor "()Z").map (fun d => d.parameters.length) = some 0 := by decide +kernel
set_option maxRecDepth 20000 in
theorem kX6_101 : mc_CV RX6 101 yX4_isText cX4_isText 1 (some .boolean) 0 := ⟨⟨nv_RX4, pd_10, sg1 (List.mem_of_getElem? (i := 238) rfl) rfl, sg1 (List.mem_of_getElem? (i := 3) rfl) rfl⟩, sg1 (List.mem_of_getElem? (i := 235) rfl) rfl, sg1 (List.mem_of_getElem? (i := 236) rfl) rfl, sg1 (List.mem_of_getElem? (i := 237) rfl) rfl⟩
set_option maxRecDepth 20000 in
theorem kX4_28 : mc_CV RX4 28 yX4_goOn cX4_goOn 2 none 0 := ⟨⟨nv_RX4, pd_0, sg2 (List.mem_of_getElem? (i := 2) rfl) rfl, sg1 (List.mem_of_getElem? (i := 3) rfl) rfl⟩, sg1 (List.mem_of_getElem? (i := 239) rfl) rfl, sg2 (List.mem_of_getElem? (i := 1) rfl) rfl, mc_sel (pr1 (List.mem_of_getElem? (i := 0) rfl))⟩
set_option maxRecDepth 20000 in
theorem kX4_92 : mc_CV RX4 92 yX4_byteAt cX4_byteAt 2 (some .int) 1 := ⟨⟨nv_RX4, pd_3, sg2 (List.mem_of_getElem? (i := 6) rfl) rfl, sg1 (List.mem_of_getElem? (i := 3) rfl) rfl⟩, sg2 (List.mem_of_getElem? (i := 3) rfl) rfl, sg2 (List.mem_of_getElem? (i := 5) rfl) rfl, mc_sel (pr1 (List.mem_of_getElem? (i := 1) rfl))⟩
set_option maxRecDepth 20000 in
theorem kX4_96 : mc_CS RX4 96 yX4_isBlank cX4_isBlank 1 (some .boolean) 1 := ⟨⟨nv_RX4, pd_7, sg2 (List.mem_of_getElem? (i := 9) rfl) rfl, sg1 (List.mem_of_getElem? (i := 3) rfl) rfl⟩, sg2 (List.mem_of_getElem? (i := 7) rfl) rfl, sg2 (List.mem_of_getElem? (i := 8) rfl) rfl⟩
set_option maxRecDepth 20000 in
theorem kX4_99 : mc_CS RX4 99 yX4_isLetter cX4_isLetter 1 (some .boolean) 1 := ⟨⟨nv_RX4, pd_7, sg2 (List.mem_of_getElem? (i := 12) rfl) rfl, sg1 (List.mem_of_getElem? (i := 3) rfl) rfl⟩, sg2 (List.mem_of_getElem? (i := 10) rfl) rfl, sg2 (List.mem_of_getElem? (i := 11) rfl) rfl⟩
set_option maxRecDepth 20000 in
theorem kX4_102 : mc_CV RX4 102 yX4_wordToken cX4_wordToken 1 (some .int) 0 := ⟨⟨nv_RX4, pd_4, sg2 (List.mem_of_getElem? (i := 16) rfl) rfl, sg1 (List.mem_of_getElem? (i := 3) rfl) rfl⟩, sg2 (List.mem_of_getElem? (i := 13) rfl) rfl, sg2 (List.mem_of_getElem? (i := 15) rfl) rfl, mc_sel (pr1 (List.mem_of_getElem? (i := 2) rfl))⟩
set_option maxRecDepth 20000 in
theorem pd_11 : (parseMethodDescriptor "(Ljava/lang/String;)Z").map (fun d => d.parameters.length) = some 1 := by decide +kernel
set_option maxRecDepth 20000 in
theorem kX4_117 : mc_CV RX4 117 yX4_isWord cX4_isWord 3 (some .boolean) 1 := ⟨⟨nv_RX4, pd_11, sg2 (List.mem_of_getElem? (i := 21) rfl) rfl, sg1 (List.mem_of_getElem? (i := 3) rfl) rfl⟩, sg2 (List.mem_of_getElem? (i := 18) rfl) rfl, sg2 (List.mem_of_getElem? (i := 20) rfl) rfl, mc_sel (pr1 (List.mem_of_getElem? (i := 3) rfl))⟩
set_option maxRecDepth 20000 in
theorem nv_RJ0 : (RJ0 ≠ "java/lang/invoke/MethodHandle" ∧ RJ0 ≠ "java/lang/invoke/VarHandle") := ⟨by decide +kernel, by decide +kernel⟩
set_option maxRecDepth 20000 in
theorem kX4_143 : mc_CV RX4 143 yJ0_length_8abf5 cJ0_length_8abf5 1 (some .int) 0 := ⟨⟨nv_RJ0, pd_4, sg2 (List.mem_of_getElem? (i := 25) rfl) rfl, sg1 (List.mem_of_getElem? (i := 9) rfl) rfl⟩, sg2 (List.mem_of_getElem? (i := 22) rfl) rfl, sg2 (List.mem_of_getElem? (i := 23) rfl) rfl, sg2 (List.mem_of_getElem? (i := 24) rfl) rfl⟩
set_option maxRecDepth 20000 in
theorem pd_12 : (parseMethodDescriptor "()B").map (fun d => d.parameters.length) = some 0 := by decide +kernel
set_option maxRecDepth 20000 in
theorem kJ0_335 : mc_CV RJ0 335 yJ0_coder_7d493 cJ0_coder_7d493 1 (some .byte) 0 := ⟨⟨nv_RJ0, pd_12, sg2 (List.mem_of_getElem? (i := 29) rfl) rfl, sg1 (List.mem_of_getElem? (i := 9) rfl) rfl⟩, sg2 (List.mem_of_getElem? (i := 26) rfl) rfl, sg2 (List.mem_of_getElem? (i := 27) rfl) rfl, sg2 (List.mem_of_getElem? (i := 28) rfl) rfl⟩
set_option maxRecDepth 20000 in
theorem sJ0_38 : Cond.fieldLink RJ0 38 "java/lang/String" "COMPACT_STRINGS" "Z" ∈ mc_WS := sg2 (List.mem_of_getElem? (i := 30) rfl) rfl
set_option maxRecDepth 20000 in
theorem pd_13 : (parseMethodDescriptor "(I)C").map (fun d => d.parameters.length) = some 1 := by decide +kernel
set_option maxRecDepth 20000 in
theorem kX4_148 : mc_CV RX4 148 yJ0_charAt_5068e cJ0_charAt_5068e 2 (some .char) 1 := ⟨⟨nv_RJ0, pd_13, sg2 (List.mem_of_getElem? (i := 35) rfl) rfl, sg1 (List.mem_of_getElem? (i := 9) rfl) rfl⟩, sg2 (List.mem_of_getElem? (i := 32) rfl) rfl, sg2 (List.mem_of_getElem? (i := 33) rfl) rfl, sg2 (List.mem_of_getElem? (i := 34) rfl) rfl⟩
set_option maxRecDepth 20000 in
theorem kJ0_492 : mc_CV RJ0 492 yJ0_isLatin1_aae02 cJ0_isLatin1_aae02 1 (some .boolean) 0 := ⟨⟨nv_RJ0, pd_10, sg2 (List.mem_of_getElem? (i := 39) rfl) rfl, sg1 (List.mem_of_getElem? (i := 9) rfl) rfl⟩, sg2 (List.mem_of_getElem? (i := 36) rfl) rfl, sg2 (List.mem_of_getElem? (i := 37) rfl) rfl, sg2 (List.mem_of_getElem? (i := 38) rfl) rfl⟩
set_option maxRecDepth 20000 in
theorem nv_RJ1 : (RJ1 ≠ "java/lang/invoke/MethodHandle" ∧ RJ1 ≠ "java/lang/invoke/VarHandle") := ⟨by decide +kernel, by decide +kernel⟩
set_option maxRecDepth 20000 in
theorem pd_14 : (parseMethodDescriptor "([BI)C").map (fun d => d.parameters.length) = some 2 := by decide +kernel
set_option maxRecDepth 20000 in
theorem kJ0_495 : mc_CS RJ0 495 yJ1_charAt_3b067 cJ1_charAt_3b067 2 (some .char) 2 := ⟨⟨nv_RJ1, pd_14, sg2 (List.mem_of_getElem? (i := 42) rfl) rfl, sg1 (List.mem_of_getElem? (i := 10) rfl) rfl⟩, sg2 (List.mem_of_getElem? (i := 40) rfl) rfl, sg2 (List.mem_of_getElem? (i := 41) rfl) rfl⟩
set_option maxRecDepth 20000 in
theorem pd_15 : (parseMethodDescriptor "(II)V").map (fun d => d.parameters.length) = some 2 := by decide +kernel
set_option maxRecDepth 20000 in
theorem kJ1_9 : mc_CS RJ1 9 yJ0_checkIndex_df160 cJ0_checkIndex_df160 2 none 2 := ⟨⟨nv_RJ0, pd_15, sg2 (List.mem_of_getElem? (i := 45) rfl) rfl, sg1 (List.mem_of_getElem? (i := 9) rfl) rfl⟩, sg2 (List.mem_of_getElem? (i := 43) rfl) rfl, sg2 (List.mem_of_getElem? (i := 44) rfl) rfl⟩
set_option maxRecDepth 20000 in
theorem sJ0_1053 : Cond.fieldLink RJ0 1053 "jdk/internal/util/Preconditions" "SIOOBE_FORMATTER" "Ljava/util/function/BiFunction;" ∈ mc_WS := sg2 (List.mem_of_getElem? (i := 46) rfl) rfl
set_option maxRecDepth 20000 in
theorem nv_RJ3 : (RJ3 ≠ "java/lang/invoke/MethodHandle" ∧ RJ3 ≠ "java/lang/invoke/VarHandle") := ⟨by decide +kernel, by decide +kernel⟩
set_option maxRecDepth 20000 in
theorem pd_16 : (parseMethodDescriptor "(IILjava/util/function/BiFunction;)I").map (fun d => d.parameters.length) = some 3 := by decide +kernel
set_option maxRecDepth 20000 in
theorem kJ0_1059 : mc_CS RJ0 1059 yJ3_checkIndex_8e157 cJ3_checkIndex_8e157 3 (some .int) 3 := ⟨⟨nv_RJ3, pd_16, sg2 (List.mem_of_getElem? (i := 50) rfl) rfl, sg1 (List.mem_of_getElem? (i := 11) rfl) rfl⟩, sg2 (List.mem_of_getElem? (i := 48) rfl) rfl, sg2 (List.mem_of_getElem? (i := 49) rfl) rfl⟩
set_option maxRecDepth 20000 in
theorem nv_RJ2 : (RJ2 ≠ "java/lang/invoke/MethodHandle" ∧ RJ2 ≠ "java/lang/invoke/VarHandle") := ⟨by decide +kernel, by decide +kernel⟩
set_option maxRecDepth 20000 in
theorem kJ0_498 : mc_CS RJ0 498 yJ2_charAt_3b067 cJ2_charAt_3b067 2 (some .char) 2 := ⟨⟨nv_RJ2, pd_14, sg2 (List.mem_of_getElem? (i := 53) rfl) rfl, sg1 (List.mem_of_getElem? (i := 12) rfl) rfl⟩, sg2 (List.mem_of_getElem? (i := 51) rfl) rfl, sg2 (List.mem_of_getElem? (i := 52) rfl) rfl⟩
set_option maxRecDepth 20000 in
theorem pd_17 : (parseMethodDescriptor "(I[B)V").map (fun d => d.parameters.length) = some 2 := by decide +kernel
set_option maxRecDepth 20000 in
theorem kJ2_67 : mc_CS RJ2 67 yJ2_checkIndex_2214a cJ2_checkIndex_2214a 2 none 2 := ⟨⟨nv_RJ2, pd_17, sg2 (List.mem_of_getElem? (i := 56) rfl) rfl, sg1 (List.mem_of_getElem? (i := 12) rfl) rfl⟩, sg2 (List.mem_of_getElem? (i := 54) rfl) rfl, sg2 (List.mem_of_getElem? (i := 55) rfl) rfl⟩
set_option maxRecDepth 20000 in
theorem pd_18 : (parseMethodDescriptor "([B)I").map (fun d => d.parameters.length) = some 1 := by decide +kernel
set_option maxRecDepth 20000 in
theorem kJ2_48 : mc_CS RJ2 48 yJ2_length_9d52b cJ2_length_9d52b 1 (some .int) 1 := ⟨⟨nv_RJ2, pd_18, sg2 (List.mem_of_getElem? (i := 59) rfl) rfl, sg1 (List.mem_of_getElem? (i := 12) rfl) rfl⟩, sg2 (List.mem_of_getElem? (i := 57) rfl) rfl, sg2 (List.mem_of_getElem? (i := 58) rfl) rfl⟩
set_option maxRecDepth 20000 in
theorem kJ2_414 : mc_CS RJ2 414 yJ0_checkIndex_df160 cJ0_checkIndex_df160 2 none 2 := ⟨⟨nv_RJ0, pd_15, sg2 (List.mem_of_getElem? (i := 45) rfl) rfl, sg1 (List.mem_of_getElem? (i := 9) rfl) rfl⟩, sg2 (List.mem_of_getElem? (i := 60) rfl) rfl, sg2 (List.mem_of_getElem? (i := 44) rfl) rfl⟩
set_option maxRecDepth 20000 in
theorem kJ2_71 : mc_CS RJ2 71 yJ2_getChar_3b067 cJ2_getChar_3b067 2 (some .char) 2 := ⟨⟨nv_RJ2, pd_14, sg2 (List.mem_of_getElem? (i := 63) rfl) rfl, sg1 (List.mem_of_getElem? (i := 12) rfl) rfl⟩, sg2 (List.mem_of_getElem? (i := 61) rfl) rfl, sg2 (List.mem_of_getElem? (i := 62) rfl) rfl⟩
set_option maxRecDepth 20000 in
theorem sJ2_44 : Cond.fieldLink RJ2 44 "java/lang/StringUTF16" "$assertionsDisabled" "Z" ∈ mc_WS := sg2 (List.mem_of_getElem? (i := 64) rfl) rfl
set_option maxRecDepth 20000 in
theorem sJ2_59 : Cond.fieldLink RJ2 59 "java/lang/StringUTF16" "HI_BYTE_SHIFT" "I" ∈ mc_WS := sg2 (List.mem_of_getElem? (i := 66) rfl) rfl
set_option maxRecDepth 20000 in
theorem sJ2_63 : Cond.fieldLink RJ2 63 "java/lang/StringUTF16" "LO_BYTE_SHIFT" "I" ∈ mc_WS := sg2 (List.mem_of_getElem? (i := 68) rfl) rfl
set_option maxRecDepth 20000 in
theorem kX4_106 : mc_CS RX4 106 yX4_isDigit cX4_isDigit 1 (some .boolean) 1 := ⟨⟨nv_RX4, pd_7, sg2 (List.mem_of_getElem? (i := 83) rfl) rfl, sg1 (List.mem_of_getElem? (i := 3) rfl) rfl⟩, sg2 (List.mem_of_getElem? (i := 81) rfl) rfl, sg2 (List.mem_of_getElem? (i := 82) rfl) rfl⟩
set_option maxRecDepth 20000 in
theorem kX4_109 : mc_CV RX4 109 yX4_numberToken cX4_numberToken 2 (some .int) 0 := ⟨⟨nv_RX4, pd_4, sg2 (List.mem_of_getElem? (i := 87) rfl) rfl, sg1 (List.mem_of_getElem? (i := 3) rfl) rfl⟩, sg2 (List.mem_of_getElem? (i := 84) rfl) rfl, sg2 (List.mem_of_getElem? (i := 86) rfl) rfl, mc_sel (pr1 (List.mem_of_getElem? (i := 4) rfl))⟩
set_option maxRecDepth 20000 in
theorem kX4_112 : mc_CS RX4 112 yX4_signToken cX4_signToken 1 (some .int) 1 := ⟨⟨nv_RX4, pd_3, sg2 (List.mem_of_getElem? (i := 90) rfl) rfl, sg1 (List.mem_of_getElem? (i := 3) rfl) rfl⟩, sg2 (List.mem_of_getElem? (i := 88) rfl) rfl, sg2 (List.mem_of_getElem? (i := 89) rfl) rfl⟩
set_option maxRecDepth 20000 in
theorem kX4_31 : mc_CV RX4 31 yX4_isPart cX4_isPart 2 (some .boolean) 1 := ⟨⟨nv_RX4, pd_7, sg2 (List.mem_of_getElem? (i := 94) rfl) rfl, sg1 (List.mem_of_getElem? (i := 3) rfl) rfl⟩, sg2 (List.mem_of_getElem? (i := 91) rfl) rfl, sg2 (List.mem_of_getElem? (i := 93) rfl) rfl, mc_sel (pr1 (List.mem_of_getElem? (i := 5) rfl))⟩
set_option maxRecDepth 20000 in
theorem kX4_67 : mc_CV RX4 67 yX4_isNext cX4_isNext 2 (some .boolean) 1 := ⟨⟨nv_RX4, pd_7, sg2 (List.mem_of_getElem? (i := 98) rfl) rfl, sg1 (List.mem_of_getElem? (i := 3) rfl) rfl⟩, sg2 (List.mem_of_getElem? (i := 95) rfl) rfl, sg2 (List.mem_of_getElem? (i := 97) rfl) rfl, mc_sel (pr1 (List.mem_of_getElem? (i := 6) rfl))⟩
set_option maxRecDepth 20000 in
theorem kX4_70 : mc_CV RX4 70 yX4_isE cX4_isE 3 (some .boolean) 1 := ⟨⟨nv_RX4, pd_7, sg2 (List.mem_of_getElem? (i := 102) rfl) rfl, sg1 (List.mem_of_getElem? (i := 3) rfl) rfl⟩, sg2 (List.mem_of_getElem? (i := 99) rfl) rfl, sg2 (List.mem_of_getElem? (i := 101) rfl) rfl, mc_sel (pr1 (List.mem_of_getElem? (i := 7) rfl))⟩
set_option maxRecDepth 20000 in
theorem kX4_73 : mc_CV RX4 73 yX4_isAnd cX4_isAnd 3 (some .boolean) 1 := ⟨⟨nv_RX4, pd_7, sg2 (List.mem_of_getElem? (i := 106) rfl) rfl, sg1 (List.mem_of_getElem? (i := 3) rfl) rfl⟩, sg2 (List.mem_of_getElem? (i := 103) rfl) rfl, sg2 (List.mem_of_getElem? (i := 105) rfl) rfl, mc_sel (pr1 (List.mem_of_getElem? (i := 8) rfl))⟩
set_option maxRecDepth 20000 in
theorem kX4_80 : mc_CV RX4 80 yX4_isNot cX4_isNot 3 (some .boolean) 1 := ⟨⟨nv_RX4, pd_7, sg2 (List.mem_of_getElem? (i := 110) rfl) rfl, sg1 (List.mem_of_getElem? (i := 3) rfl) rfl⟩, sg2 (List.mem_of_getElem? (i := 107) rfl) rfl, sg2 (List.mem_of_getElem? (i := 109) rfl) rfl, mc_sel (pr1 (List.mem_of_getElem? (i := 9) rfl))⟩
set_option maxRecDepth 20000 in
theorem kX4_76 : mc_CV RX4 76 yX4_put cX4_put 2 none 1 := ⟨⟨nv_RX4, pd_9, sg2 (List.mem_of_getElem? (i := 114) rfl) rfl, sg1 (List.mem_of_getElem? (i := 3) rfl) rfl⟩, sg2 (List.mem_of_getElem? (i := 111) rfl) rfl, sg2 (List.mem_of_getElem? (i := 113) rfl) rfl, mc_sel (pr1 (List.mem_of_getElem? (i := 10) rfl))⟩
set_option maxRecDepth 20000 in
theorem kX4_83 : mc_CV RX4 83 yX4_isSum cX4_isSum 4 (some .boolean) 1 := ⟨⟨nv_RX4, pd_7, sg2 (List.mem_of_getElem? (i := 118) rfl) rfl, sg1 (List.mem_of_getElem? (i := 3) rfl) rfl⟩, sg2 (List.mem_of_getElem? (i := 115) rfl) rfl, sg2 (List.mem_of_getElem? (i := 117) rfl) rfl, mc_sel (pr1 (List.mem_of_getElem? (i := 11) rfl))⟩
set_option maxRecDepth 20000 in
theorem kX4_86 : mc_CV RX4 86 yX4_isTerm cX4_isTerm 3 (some .boolean) 1 := ⟨⟨nv_RX4, pd_7, sg2 (List.mem_of_getElem? (i := 122) rfl) rfl, sg1 (List.mem_of_getElem? (i := 3) rfl) rfl⟩, sg2 (List.mem_of_getElem? (i := 119) rfl) rfl, sg2 (List.mem_of_getElem? (i := 121) rfl) rfl, mc_sel (pr1 (List.mem_of_getElem? (i := 12) rfl))⟩
set_option maxRecDepth 20000 in
theorem kX4_89 : mc_CV RX4 89 yX4_isOne cX4_isOne 2 (some .boolean) 1 := ⟨⟨nv_RX4, pd_7, sg2 (List.mem_of_getElem? (i := 126) rfl) rfl, sg1 (List.mem_of_getElem? (i := 3) rfl) rfl⟩, sg2 (List.mem_of_getElem? (i := 123) rfl) rfl, sg2 (List.mem_of_getElem? (i := 125) rfl) rfl, mc_sel (pr1 (List.mem_of_getElem? (i := 13) rfl))⟩
set_option maxRecDepth 20000 in
theorem kX6_105 : mc_CV RX6 105 yX4_becomeEmpty cX4_becomeEmpty 1 none 0 := ⟨⟨nv_RX4, pd_0, sg2 (List.mem_of_getElem? (i := 130) rfl) rfl, sg1 (List.mem_of_getElem? (i := 3) rfl) rfl⟩, sg2 (List.mem_of_getElem? (i := 127) rfl) rfl, sg2 (List.mem_of_getElem? (i := 128) rfl) rfl, sg2 (List.mem_of_getElem? (i := 129) rfl) rfl⟩
set_option maxRecDepth 20000 in
theorem kX6_108 : mc_CV RX6 108 yX4_faultPlace cX4_faultPlace 1 (some .int) 0 := ⟨⟨nv_RX4, pd_4, sg2 (List.mem_of_getElem? (i := 134) rfl) rfl, sg1 (List.mem_of_getElem? (i := 3) rfl) rfl⟩, sg2 (List.mem_of_getElem? (i := 131) rfl) rfl, sg2 (List.mem_of_getElem? (i := 132) rfl) rfl, sg2 (List.mem_of_getElem? (i := 133) rfl) rfl⟩
set_option maxRecDepth 20000 in
theorem pd_19 : (parseMethodDescriptor "()LNoZeroWithin$Text;").map (fun d => d.parameters.length) = some 0 := by decide +kernel
set_option maxRecDepth 20000 in
theorem kX6_111 : mc_CV RX6 111 yX4_result cX4_result 1 (some (.object "NoZeroWithin$Text")) 0 := ⟨⟨nv_RX4, pd_19, sg2 (List.mem_of_getElem? (i := 138) rfl) rfl, sg1 (List.mem_of_getElem? (i := 3) rfl) rfl⟩, sg2 (List.mem_of_getElem? (i := 135) rfl) rfl, sg2 (List.mem_of_getElem? (i := 136) rfl) rfl, sg2 (List.mem_of_getElem? (i := 137) rfl) rfl⟩
set_option maxRecDepth 20000 in
theorem nX4_47 : Cond.classLink RX4 47 RX5 ∈ mc_WS := sg2 (List.mem_of_getElem? (i := 139) rfl) rfl
set_option maxRecDepth 20000 in
theorem mX4_49 : mc_MF RX4 49 Lib.Math.min.name Lib.Math.min.code 2 (some .int) := ⟨sg2 (List.mem_of_getElem? (i := 140) rfl) rfl, sg2 (List.mem_of_getElem? (i := 141) rfl) rfl, sg1 (List.mem_of_getElem? (i := 13) rfl) rfl, sg2 (List.mem_of_getElem? (i := 142) rfl) rfl⟩
set_option maxRecDepth 20000 in
theorem mX4_55 : mc_MF RX4 55 Lib.Math.max.name Lib.Math.max.code 2 (some .int) := ⟨sg2 (List.mem_of_getElem? (i := 143) rfl) rfl, sg2 (List.mem_of_getElem? (i := 144) rfl) rfl, sg1 (List.mem_of_getElem? (i := 13) rfl) rfl, sg2 (List.mem_of_getElem? (i := 145) rfl) rfl⟩
set_option maxRecDepth 20000 in
theorem nv_RJ7 : (RJ7 ≠ "java/lang/invoke/MethodHandle" ∧ RJ7 ≠ "java/lang/invoke/VarHandle") := ⟨by decide +kernel, by decide +kernel⟩
set_option maxRecDepth 20000 in
theorem pd_20 : (parseMethodDescriptor "([II)[I").map (fun d => d.parameters.length) = some 2 := by decide +kernel
set_option maxRecDepth 20000 in
theorem kX4_58 : mc_CS RX4 58 yJ7_copyOf_59c91 cJ7_copyOf_59c91 3 (some (.array .int)) 2 := ⟨⟨nv_RJ7, pd_20, sg2 (List.mem_of_getElem? (i := 148) rfl) rfl, sg1 (List.mem_of_getElem? (i := 14) rfl) rfl⟩, sg2 (List.mem_of_getElem? (i := 146) rfl) rfl, sg2 (List.mem_of_getElem? (i := 147) rfl) rfl⟩
set_option maxRecDepth 20000 in
theorem nJ7_317 : Cond.classLink RJ7 317 "[I" ∈ mc_WS := sg2 (List.mem_of_getElem? (i := 155) rfl) rfl
set_option maxRecDepth 20000 in
theorem mJ7_304 : mc_MF RJ7 304 Lib.Math.min.name Lib.Math.min.code 2 (some .int) := ⟨sg2 (List.mem_of_getElem? (i := 156) rfl) rfl, sg2 (List.mem_of_getElem? (i := 141) rfl) rfl, sg1 (List.mem_of_getElem? (i := 13) rfl) rfl, sg2 (List.mem_of_getElem? (i := 142) rfl) rfl⟩
set_option maxRecDepth 20000 in
theorem oJ7_150 : Cond.methodLink RJ7 150 arraycopyName ∈ mc_WS := sg2 (List.mem_of_getElem? (i := 157) rfl) rfl
set_option maxRecDepth 20000 in
theorem kX4_64 : mc_CI RX4 64 yX5_init cX5_init 4 3 := ⟨⟨nv_RX5, pd_1, sg1 (List.mem_of_getElem? (i := 29) rfl) rfl, sg1 (List.mem_of_getElem? (i := 2) rfl) rfl⟩, sg2 (List.mem_of_getElem? (i := 160) rfl) rfl, sg1 (List.mem_of_getElem? (i := 28) rfl) rfl, rfl⟩
set_option maxRecDepth 20000 in
theorem kL_33 : mc_CV "NoZeroWithinLaw" 33 yX6_force cX6_force 3 (some .int) 1 := ⟨⟨nv_RX6, pd_3, sg2 (List.mem_of_getElem? (i := 165) rfl) rfl, sg1 (List.mem_of_getElem? (i := 1) rfl) rfl⟩, sg2 (List.mem_of_getElem? (i := 162) rfl) rfl, sg2 (List.mem_of_getElem? (i := 163) rfl) rfl, sg2 (List.mem_of_getElem? (i := 164) rfl) rfl⟩
set_option maxRecDepth 20000 in
theorem pd_21 : (parseMethodDescriptor "(IIII)I").map (fun d => d.parameters.length) = some 4 := by decide +kernel
set_option maxRecDepth 20000 in
theorem kL_37 : mc_CV "NoZeroWithinLaw" 37 yX6_asks cX6_asks 5 (some .int) 4 := ⟨⟨nv_RX6, pd_21, sg2 (List.mem_of_getElem? (i := 169) rfl) rfl, sg1 (List.mem_of_getElem? (i := 1) rfl) rfl⟩, sg2 (List.mem_of_getElem? (i := 166) rfl) rfl, sg2 (List.mem_of_getElem? (i := 167) rfl) rfl, sg2 (List.mem_of_getElem? (i := 168) rfl) rfl⟩
set_option maxRecDepth 20000 in
theorem kX6_115 : mc_CV RX6 115 yX6_isClerk cX6_isClerk 2 (some .boolean) 1 := ⟨⟨nv_RX6, pd_7, sg2 (List.mem_of_getElem? (i := 173) rfl) rfl, sg1 (List.mem_of_getElem? (i := 1) rfl) rfl⟩, sg2 (List.mem_of_getElem? (i := 170) rfl) rfl, sg2 (List.mem_of_getElem? (i := 172) rfl) rfl, mc_sel (pr1 (List.mem_of_getElem? (i := 14) rfl))⟩
set_option maxRecDepth 20000 in
theorem kX6_118 : mc_CS RX6 118 yX6_isNumber cX6_isNumber 1 (some .boolean) 1 := ⟨⟨nv_RX6, pd_7, sg2 (List.mem_of_getElem? (i := 176) rfl) rfl, sg1 (List.mem_of_getElem? (i := 1) rfl) rfl⟩, sg2 (List.mem_of_getElem? (i := 174) rfl) rfl, sg2 (List.mem_of_getElem? (i := 175) rfl) rfl⟩
set_option maxRecDepth 20000 in
theorem qX6_354 : Cond.constant RX6 354 99999 ∈ mc_WS := sg2 (List.mem_of_getElem? (i := 177) rfl) rfl
set_option maxRecDepth 20000 in
theorem pd_22 : (parseMethodDescriptor "(I)LNoZeroWithin$Hand;").map (fun d => d.parameters.length) = some 1 := by decide +kernel
set_option maxRecDepth 20000 in
theorem kX6_121 : mc_CV RX6 121 yX6_handOf cX6_handOf 3 (some (.object "NoZeroWithin$Hand")) 1 := ⟨⟨nv_RX6, pd_22, sg2 (List.mem_of_getElem? (i := 181) rfl) rfl, sg1 (List.mem_of_getElem? (i := 1) rfl) rfl⟩, sg2 (List.mem_of_getElem? (i := 178) rfl) rfl, sg2 (List.mem_of_getElem? (i := 180) rfl) rfl, mc_sel (pr1 (List.mem_of_getElem? (i := 15) rfl))⟩
set_option maxRecDepth 20000 in
theorem pd_23 : (parseMethodDescriptor "(III)V").map (fun d => d.parameters.length) = some 3 := by decide +kernel
set_option maxRecDepth 20000 in
theorem kX6_281 : mc_CV RX6 281 yX1_become cX1_become 4 none 3 := ⟨⟨nv_RX1, pd_23, sg2 (List.mem_of_getElem? (i := 185) rfl) rfl, sg1 (List.mem_of_getElem? (i := 6) rfl) rfl⟩, sg2 (List.mem_of_getElem? (i := 182) rfl) rfl, sg2 (List.mem_of_getElem? (i := 183) rfl) rfl, sg2 (List.mem_of_getElem? (i := 184) rfl) rfl⟩
set_option maxRecDepth 20000 in
theorem pd_24 : (parseMethodDescriptor "(I)LNoZeroWithin$Text;").map (fun d => d.parameters.length) = some 1 := by decide +kernel
set_option maxRecDepth 20000 in
theorem kX6_216 : mc_CV RX6 216 yX6_textAt cX6_textAt 3 (some (.object "NoZeroWithin$Text")) 1 := ⟨⟨nv_RX6, pd_24, sg2 (List.mem_of_getElem? (i := 189) rfl) rfl, sg1 (List.mem_of_getElem? (i := 1) rfl) rfl⟩, sg2 (List.mem_of_getElem? (i := 186) rfl) rfl, sg2 (List.mem_of_getElem? (i := 188) rfl) rfl, mc_sel (pr2 (List.mem_of_getElem? (i := 0) rfl))⟩
set_option maxRecDepth 20000 in
theorem pd_25 : (parseMethodDescriptor "(IILNoZeroWithin$Text;)V").map (fun d => d.parameters.length) = some 3 := by decide +kernel
set_option maxRecDepth 20000 in
theorem kX6_220 : mc_CV RX6 220 yX1_liveBy cX1_liveBy 4 none 3 := ⟨⟨nv_RX1, pd_25, sg2 (List.mem_of_getElem? (i := 193) rfl) rfl, sg1 (List.mem_of_getElem? (i := 6) rfl) rfl⟩, sg2 (List.mem_of_getElem? (i := 190) rfl) rfl, sg2 (List.mem_of_getElem? (i := 191) rfl) rfl, sg2 (List.mem_of_getElem? (i := 192) rfl) rfl⟩
set_option maxRecDepth 20000 in
theorem pd_26 : (parseMethodDescriptor "(III)I").map (fun d => d.parameters.length) = some 3 := by decide +kernel
set_option maxRecDepth 20000 in
theorem kX6_125 : mc_CV RX6 125 yX1_says cX1_says 5 (some .int) 3 := ⟨⟨nv_RX1, pd_26, sg2 (List.mem_of_getElem? (i := 197) rfl) rfl, sg1 (List.mem_of_getElem? (i := 6) rfl) rfl⟩, sg2 (List.mem_of_getElem? (i := 194) rfl) rfl, sg2 (List.mem_of_getElem? (i := 195) rfl) rfl, sg2 (List.mem_of_getElem? (i := 196) rfl) rfl⟩
set_option maxRecDepth 20000 in
theorem pd_27 : (parseMethodDescriptor "(I[I[I)I").map (fun d => d.parameters.length) = some 3 := by decide +kernel
set_option maxRecDepth 20000 in
theorem kX1_39 : mc_CV RX1 39 yX5_reckon cX5_reckon 10 (some .int) 3 := ⟨⟨nv_RX5, pd_27, sg2 (List.mem_of_getElem? (i := 201) rfl) rfl, sg1 (List.mem_of_getElem? (i := 2) rfl) rfl⟩, sg2 (List.mem_of_getElem? (i := 198) rfl) rfl, sg2 (List.mem_of_getElem? (i := 199) rfl) rfl, sg2 (List.mem_of_getElem? (i := 200) rfl) rfl⟩
set_option maxRecDepth 20000 in
theorem mX5_22 : mc_MF RX5 22 Lib.Math.max.name Lib.Math.max.code 2 (some .int) := ⟨sg2 (List.mem_of_getElem? (i := 202) rfl) rfl, sg2 (List.mem_of_getElem? (i := 144) rfl) rfl, sg1 (List.mem_of_getElem? (i := 13) rfl) rfl, sg2 (List.mem_of_getElem? (i := 145) rfl) rfl⟩
set_option maxRecDepth 20000 in
theorem pd_28 : (parseMethodDescriptor "(I[I)I").map (fun d => d.parameters.length) = some 2 := by decide +kernel
set_option maxRecDepth 20000 in
theorem kX5_28 : mc_CS RX5 28 yX5_nameValue cX5_nameValue 3 (some .int) 2 := ⟨⟨nv_RX5, pd_28, sg2 (List.mem_of_getElem? (i := 205) rfl) rfl, sg1 (List.mem_of_getElem? (i := 2) rfl) rfl⟩, sg2 (List.mem_of_getElem? (i := 203) rfl) rfl, sg2 (List.mem_of_getElem? (i := 204) rfl) rfl⟩
set_option maxRecDepth 20000 in
theorem kX5_32 : mc_CS RX5 32 yX5_joined cX5_joined 3 (some .int) 3 := ⟨⟨nv_RX5, pd_26, sg2 (List.mem_of_getElem? (i := 208) rfl) rfl, sg1 (List.mem_of_getElem? (i := 2) rfl) rfl⟩, sg2 (List.mem_of_getElem? (i := 206) rfl) rfl, sg2 (List.mem_of_getElem? (i := 207) rfl) rfl⟩
set_option maxRecDepth 20000 in
theorem qX1_45 : Cond.constant RX1 45 99999 ∈ mc_WS := sg2 (List.mem_of_getElem? (i := 209) rfl) rfl
set_option maxRecDepth 20000 in
theorem mX1_46 : mc_MF RX1 46 Lib.Math.min.name Lib.Math.min.code 2 (some .int) := ⟨sg2 (List.mem_of_getElem? (i := 210) rfl) rfl, sg2 (List.mem_of_getElem? (i := 141) rfl) rfl, sg1 (List.mem_of_getElem? (i := 13) rfl) rfl, sg2 (List.mem_of_getElem? (i := 142) rfl) rfl⟩
set_option maxRecDepth 20000 in
theorem mX1_29 : mc_MF RX1 29 Lib.Math.max.name Lib.Math.max.code 2 (some .int) := ⟨sg2 (List.mem_of_getElem? (i := 211) rfl) rfl, sg2 (List.mem_of_getElem? (i := 144) rfl) rfl, sg1 (List.mem_of_getElem? (i := 13) rfl) rfl, sg2 (List.mem_of_getElem? (i := 145) rfl) rfl⟩
set_option maxRecDepth 20000 in
theorem kL_42 : mc_CV "NoZeroWithinLaw" 42 yX6_clerk cX6_clerk 4 (some .int) 2 := ⟨⟨nv_RX6, pd_5, sg2 (List.mem_of_getElem? (i := 215) rfl) rfl, sg1 (List.mem_of_getElem? (i := 1) rfl) rfl⟩, sg2 (List.mem_of_getElem? (i := 212) rfl) rfl, sg2 (List.mem_of_getElem? (i := 213) rfl) rfl, sg2 (List.mem_of_getElem? (i := 214) rfl) rfl⟩
set_option maxRecDepth 20000 in
theorem kL_46 : mc_CV "NoZeroWithinLaw" 46 yX6_told cX6_told 3 (some .int) 2 := ⟨⟨nv_RX6, pd_5, sg2 (List.mem_of_getElem? (i := 219) rfl) rfl, sg1 (List.mem_of_getElem? (i := 1) rfl) rfl⟩, sg2 (List.mem_of_getElem? (i := 216) rfl) rfl, sg2 (List.mem_of_getElem? (i := 217) rfl) rfl, sg2 (List.mem_of_getElem? (i := 218) rfl) rfl⟩
set_option maxRecDepth 20000 in
theorem kX6_129 : mc_CV RX6 129 yX1_figures cX1_figures 2 (some .int) 0 := ⟨⟨nv_RX1, pd_4, sg2 (List.mem_of_getElem? (i := 223) rfl) rfl, sg1 (List.mem_of_getElem? (i := 6) rfl) rfl⟩, sg2 (List.mem_of_getElem? (i := 220) rfl) rfl, sg2 (List.mem_of_getElem? (i := 221) rfl) rfl, sg2 (List.mem_of_getElem? (i := 222) rfl) rfl⟩
set_option maxRecDepth 20000 in
theorem kX6_132 : mc_CV RX6 132 yX1_isTurned cX1_isTurned 1 (some .boolean) 0 := ⟨⟨nv_RX1, pd_10, sg2 (List.mem_of_getElem? (i := 227) rfl) rfl, sg1 (List.mem_of_getElem? (i := 6) rfl) rfl⟩, sg2 (List.mem_of_getElem? (i := 224) rfl) rfl, sg2 (List.mem_of_getElem? (i := 225) rfl) rfl, sg2 (List.mem_of_getElem? (i := 226) rfl) rfl⟩
set_option maxRecDepth 20000 in
theorem sX6_358 : Cond.fieldLink RX6 358 "NoZeroWithin" "KIND_ABOVE" "[I" ∈ mc_WS := sg2 (List.mem_of_getElem? (i := 231) rfl) rfl
set_option maxRecDepth 20000 in
theorem kL_50 : mc_CV "NoZeroWithinLaw" 50 yX6_figure cX6_figure 5 (some .int) 3 := ⟨⟨nv_RX6, pd_26, sg2 (List.mem_of_getElem? (i := 236) rfl) rfl, sg1 (List.mem_of_getElem? (i := 1) rfl) rfl⟩, sg2 (List.mem_of_getElem? (i := 233) rfl) rfl, sg2 (List.mem_of_getElem? (i := 234) rfl) rfl, sg2 (List.mem_of_getElem? (i := 235) rfl) rfl⟩
set_option maxRecDepth 20000 in
theorem kX6_135 : mc_CV RX6 135 yX1_write cX1_write 5 none 1 := ⟨⟨nv_RX1, pd_9, sg3 (List.mem_of_getElem? (i := 0) rfl) rfl, sg1 (List.mem_of_getElem? (i := 6) rfl) rfl⟩, sg2 (List.mem_of_getElem? (i := 237) rfl) rfl, sg2 (List.mem_of_getElem? (i := 238) rfl) rfl, sg2 (List.mem_of_getElem? (i := 239) rfl) rfl⟩
set_option maxRecDepth 20000 in
theorem kX1_53 : mc_CV RX1 53 yX1_figures cX1_figures 2 (some .int) 0 := ⟨⟨nv_RX1, pd_4, sg2 (List.mem_of_getElem? (i := 223) rfl) rfl, sg1 (List.mem_of_getElem? (i := 6) rfl) rfl⟩, sg3 (List.mem_of_getElem? (i := 1) rfl) rfl, sg2 (List.mem_of_getElem? (i := 221) rfl) rfl, sg2 (List.mem_of_getElem? (i := 222) rfl) rfl⟩
set_option maxRecDepth 20000 in
theorem kX1_57 : mc_CV RX1 57 yX1_makes cX1_makes 3 (some .int) 1 := ⟨⟨nv_RX1, pd_3, sg3 (List.mem_of_getElem? (i := 5) rfl) rfl, sg1 (List.mem_of_getElem? (i := 6) rfl) rfl⟩, sg3 (List.mem_of_getElem? (i := 2) rfl) rfl, sg3 (List.mem_of_getElem? (i := 3) rfl) rfl, sg3 (List.mem_of_getElem? (i := 4) rfl) rfl⟩
set_option maxRecDepth 20000 in
theorem kX1_49 : mc_CV RX1 49 yX1_says cX1_says 5 (some .int) 3 := ⟨⟨nv_RX1, pd_26, sg2 (List.mem_of_getElem? (i := 197) rfl) rfl, sg1 (List.mem_of_getElem? (i := 6) rfl) rfl⟩, sg3 (List.mem_of_getElem? (i := 6) rfl) rfl, sg2 (List.mem_of_getElem? (i := 195) rfl) rfl, sg2 (List.mem_of_getElem? (i := 196) rfl) rfl⟩
set_option maxRecDepth 20000 in
theorem kX1_64 : mc_CV RX1 64 yX1_isTurned cX1_isTurned 1 (some .boolean) 0 := ⟨⟨nv_RX1, pd_10, sg2 (List.mem_of_getElem? (i := 227) rfl) rfl, sg1 (List.mem_of_getElem? (i := 6) rfl) rfl⟩, sg3 (List.mem_of_getElem? (i := 7) rfl) rfl, sg2 (List.mem_of_getElem? (i := 225) rfl) rfl, sg2 (List.mem_of_getElem? (i := 226) rfl) rfl⟩
set_option maxRecDepth 20000 in
theorem kX1_68 : mc_CV RX1 68 yX1_turnRow cX1_turnRow 4 none 0 := ⟨⟨nv_RX1, pd_0, sg3 (List.mem_of_getElem? (i := 11) rfl) rfl, sg1 (List.mem_of_getElem? (i := 6) rfl) rfl⟩, sg3 (List.mem_of_getElem? (i := 8) rfl) rfl, sg3 (List.mem_of_getElem? (i := 10) rfl) rfl, mc_sel (pr2 (List.mem_of_getElem? (i := 1) rfl))⟩
set_option maxRecDepth 20000 in
theorem kX6_138 : mc_CV RX6 138 yX1_many cX1_many 1 (some .int) 0 := ⟨⟨nv_RX1, pd_4, sg3 (List.mem_of_getElem? (i := 15) rfl) rfl, sg1 (List.mem_of_getElem? (i := 6) rfl) rfl⟩, sg3 (List.mem_of_getElem? (i := 12) rfl) rfl, sg3 (List.mem_of_getElem? (i := 13) rfl) rfl, sg3 (List.mem_of_getElem? (i := 14) rfl) rfl⟩
set_option maxRecDepth 20000 in
theorem kX6_141 : mc_CV RX6 141 yX1_written cX1_written 2 (some .int) 1 := ⟨⟨nv_RX1, pd_3, sg3 (List.mem_of_getElem? (i := 19) rfl) rfl, sg1 (List.mem_of_getElem? (i := 6) rfl) rfl⟩, sg3 (List.mem_of_getElem? (i := 16) rfl) rfl, sg3 (List.mem_of_getElem? (i := 17) rfl) rfl, sg3 (List.mem_of_getElem? (i := 18) rfl) rfl⟩
set_option maxRecDepth 20000 in
theorem pd_29 : (parseMethodDescriptor "(II)J").map (fun d => d.parameters.length) = some 2 := by decide +kernel
set_option maxRecDepth 20000 in
theorem kL_55 : mc_CV "NoZeroWithinLaw" 55 yX6_reads cX6_reads 9 (some .long) 2 := ⟨⟨nv_RX6, pd_29, sg3 (List.mem_of_getElem? (i := 23) rfl) rfl, sg1 (List.mem_of_getElem? (i := 1) rfl) rfl⟩, sg3 (List.mem_of_getElem? (i := 20) rfl) rfl, sg3 (List.mem_of_getElem? (i := 21) rfl) rfl, sg3 (List.mem_of_getElem? (i := 22) rfl) rfl⟩
set_option maxRecDepth 20000 in
theorem qX6_145 : Cond.constantLong RX6 145 (-5) ∈ mc_WS := sg3 (List.mem_of_getElem? (i := 24) rfl) rfl
set_option maxRecDepth 20000 in
theorem qX6_147 : Cond.constantLong RX6 147 (-7) ∈ mc_WS := sg3 (List.mem_of_getElem? (i := 25) rfl) rfl
set_option maxRecDepth 20000 in
theorem pd_30 : (parseMethodDescriptor "(IZ)J").map (fun d => d.parameters.length) = some 2 := by decide +kernel
set_option maxRecDepth 20000 in
theorem kX6_149 : mc_CV RX6 149 yX1_readWith cX1_readWith 6 (some .long) 2 := ⟨⟨nv_RX1, pd_30, sg3 (List.mem_of_getElem? (i := 29) rfl) rfl, sg1 (List.mem_of_getElem? (i := 6) rfl) rfl⟩, sg3 (List.mem_of_getElem? (i := 26) rfl) rfl, sg3 (List.mem_of_getElem? (i := 27) rfl) rfl, sg3 (List.mem_of_getElem? (i := 28) rfl) rfl⟩
set_option maxRecDepth 20000 in
theorem kX1_71 : mc_CV RX1 71 yX1_written cX1_written 2 (some .int) 1 := ⟨⟨nv_RX1, pd_3, sg3 (List.mem_of_getElem? (i := 19) rfl) rfl, sg1 (List.mem_of_getElem? (i := 6) rfl) rfl⟩, sg3 (List.mem_of_getElem? (i := 30) rfl) rfl, sg3 (List.mem_of_getElem? (i := 17) rfl) rfl, sg3 (List.mem_of_getElem? (i := 18) rfl) rfl⟩
set_option maxRecDepth 20000 in
theorem qX1_88 : Cond.constantLong RX1 88 999999999999 ∈ mc_WS := sg3 (List.mem_of_getElem? (i := 31) rfl) rfl
set_option maxRecDepth 20000 in
theorem mX1_90 : mc_MF RX1 90 Lib.MathLoose.min_long.x Lib.MathLoose.min_long.code 4 (some .long) := ⟨sg3 (List.mem_of_getElem? (i := 32) rfl) rfl, sg3 (List.mem_of_getElem? (i := 33) rfl) rfl, sg1 (List.mem_of_getElem? (i := 13) rfl) rfl, sg3 (List.mem_of_getElem? (i := 34) rfl) rfl⟩
set_option maxRecDepth 20000 in
theorem kL_60 : mc_CV "NoZeroWithinLaw" 60 yX6_plain cX6_plain 4 (some .long) 2 := ⟨⟨nv_RX6, pd_29, sg3 (List.mem_of_getElem? (i := 38) rfl) rfl, sg1 (List.mem_of_getElem? (i := 1) rfl) rfl⟩, sg3 (List.mem_of_getElem? (i := 35) rfl) rfl, sg3 (List.mem_of_getElem? (i := 36) rfl) rfl, sg3 (List.mem_of_getElem? (i := 37) rfl) rfl⟩
set_option maxRecDepth 20000 in
theorem pd_31 : (parseMethodDescriptor "()J").map (fun d => d.parameters.length) = some 0 := by decide +kernel
set_option maxRecDepth 20000 in
theorem kX6_153 : mc_CV RX6 153 yX1_readPlainly cX1_readPlainly 1 (some .long) 0 := ⟨⟨nv_RX1, pd_31, sg3 (List.mem_of_getElem? (i := 42) rfl) rfl, sg1 (List.mem_of_getElem? (i := 6) rfl) rfl⟩, sg3 (List.mem_of_getElem? (i := 39) rfl) rfl, sg3 (List.mem_of_getElem? (i := 40) rfl) rfl, sg3 (List.mem_of_getElem? (i := 41) rfl) rfl⟩
set_option maxRecDepth 20000 in
theorem kX1_93 : mc_CV RX1 93 yX1_readWith cX1_readWith 6 (some .long) 2 := ⟨⟨nv_RX1, pd_30, sg3 (List.mem_of_getElem? (i := 29) rfl) rfl, sg1 (List.mem_of_getElem? (i := 6) rfl) rfl⟩, sg3 (List.mem_of_getElem? (i := 43) rfl) rfl, sg3 (List.mem_of_getElem? (i := 27) rfl) rfl, sg3 (List.mem_of_getElem? (i := 28) rfl) rfl⟩
set_option maxRecDepth 20000 in
theorem pd_32 : (parseMethodDescriptor "(III)J").map (fun d => d.parameters.length) = some 3 := by decide +kernel
set_option maxRecDepth 20000 in
theorem kL_64 : mc_CV "NoZeroWithinLaw" 64 yX6_adds cX6_adds 5 (some .long) 3 := ⟨⟨nv_RX6, pd_32, sg3 (List.mem_of_getElem? (i := 47) rfl) rfl, sg1 (List.mem_of_getElem? (i := 1) rfl) rfl⟩, sg3 (List.mem_of_getElem? (i := 44) rfl) rfl, sg3 (List.mem_of_getElem? (i := 45) rfl) rfl, sg3 (List.mem_of_getElem? (i := 46) rfl) rfl⟩
set_option maxRecDepth 20000 in
theorem kX6_157 : mc_CV RX6 157 yX1_makes cX1_makes 3 (some .int) 1 := ⟨⟨nv_RX1, pd_3, sg3 (List.mem_of_getElem? (i := 5) rfl) rfl, sg1 (List.mem_of_getElem? (i := 6) rfl) rfl⟩, sg3 (List.mem_of_getElem? (i := 48) rfl) rfl, sg3 (List.mem_of_getElem? (i := 3) rfl) rfl, sg3 (List.mem_of_getElem? (i := 4) rfl) rfl⟩
set_option maxRecDepth 20000 in
theorem kL_69 : mc_CV "NoZeroWithinLaw" 69 yX6_apart cX6_apart 8 (some .int) 3 := ⟨⟨nv_RX6, pd_26, sg3 (List.mem_of_getElem? (i := 52) rfl) rfl, sg1 (List.mem_of_getElem? (i := 1) rfl) rfl⟩, sg3 (List.mem_of_getElem? (i := 49) rfl) rfl, sg3 (List.mem_of_getElem? (i := 50) rfl) rfl, sg3 (List.mem_of_getElem? (i := 51) rfl) rfl⟩
set_option maxRecDepth 20000 in
theorem kX6_160 : mc_CS RX6 160 yX6_isTwofold cX6_isTwofold 1 (some .boolean) 1 := ⟨⟨nv_RX6, pd_7, sg3 (List.mem_of_getElem? (i := 55) rfl) rfl, sg1 (List.mem_of_getElem? (i := 1) rfl) rfl⟩, sg3 (List.mem_of_getElem? (i := 53) rfl) rfl, sg3 (List.mem_of_getElem? (i := 54) rfl) rfl⟩
set_option maxRecDepth 20000 in
theorem mX6_163 : mc_MF RX6 163 Lib.Math.abs.name Lib.Math.abs.code 1 (some .int) := ⟨sg3 (List.mem_of_getElem? (i := 56) rfl) rfl, sg3 (List.mem_of_getElem? (i := 57) rfl) rfl, sg1 (List.mem_of_getElem? (i := 13) rfl) rfl, sg3 (List.mem_of_getElem? (i := 58) rfl) rfl⟩
set_option maxRecDepth 20000 in
theorem kL_73 : mc_CV "NoZeroWithinLaw" 73 yX6_book cX6_book 13 (some .long) 3 := ⟨⟨nv_RX6, pd_32, sg3 (List.mem_of_getElem? (i := 62) rfl) rfl, sg1 (List.mem_of_getElem? (i := 1) rfl) rfl⟩, sg3 (List.mem_of_getElem? (i := 59) rfl) rfl, sg3 (List.mem_of_getElem? (i := 60) rfl) rfl, sg3 (List.mem_of_getElem? (i := 61) rfl) rfl⟩
set_option maxRecDepth 20000 in
theorem kX6_168 : mc_CV RX6 168 yX6_refusalOfBook cX6_refusalOfBook 5 (some .int) 1 := ⟨⟨nv_RX6, pd_3, sg3 (List.mem_of_getElem? (i := 66) rfl) rfl, sg1 (List.mem_of_getElem? (i := 1) rfl) rfl⟩, sg3 (List.mem_of_getElem? (i := 63) rfl) rfl, sg3 (List.mem_of_getElem? (i := 65) rfl) rfl, mc_sel (pr2 (List.mem_of_getElem? (i := 2) rfl))⟩
set_option maxRecDepth 20000 in
theorem kX6_228 : mc_CV RX6 228 yX6_refusalOfSheet cX6_refusalOfSheet 2 (some .int) 1 := ⟨⟨nv_RX6, pd_3, sg3 (List.mem_of_getElem? (i := 70) rfl) rfl, sg1 (List.mem_of_getElem? (i := 1) rfl) rfl⟩, sg3 (List.mem_of_getElem? (i := 67) rfl) rfl, sg3 (List.mem_of_getElem? (i := 69) rfl) rfl, mc_sel (pr2 (List.mem_of_getElem? (i := 3) rfl))⟩
set_option maxRecDepth 20000 in
theorem kX6_289 : mc_CS RX6 289 yX6_isSheet cX6_isSheet 1 (some .boolean) 1 := ⟨⟨nv_RX6, pd_7, sg3 (List.mem_of_getElem? (i := 73) rfl) rfl, sg1 (List.mem_of_getElem? (i := 1) rfl) rfl⟩, sg3 (List.mem_of_getElem? (i := 71) rfl) rfl, sg3 (List.mem_of_getElem? (i := 72) rfl) rfl⟩
set_option maxRecDepth 20000 in
theorem pd_33 : (parseMethodDescriptor "(I)LNoZeroWithin$Sheet;").map (fun d => d.parameters.length) = some 1 := by decide +kernel
set_option maxRecDepth 20000 in
theorem kX6_171 : mc_CV RX6 171 yX6_sheetAt cX6_sheetAt 2 (some (.object "NoZeroWithin$Sheet")) 1 := ⟨⟨nv_RX6, pd_33, sg3 (List.mem_of_getElem? (i := 77) rfl) rfl, sg1 (List.mem_of_getElem? (i := 1) rfl) rfl⟩, sg3 (List.mem_of_getElem? (i := 74) rfl) rfl, sg3 (List.mem_of_getElem? (i := 76) rfl) rfl, mc_sel (pr2 (List.mem_of_getElem? (i := 4) rfl))⟩
set_option maxRecDepth 20000 in
theorem kX6_332 : mc_CV RX6 332 yX3_isMissing cX3_isMissing 1 (some .boolean) 0 := ⟨⟨nv_RX3, pd_10, sg3 (List.mem_of_getElem? (i := 81) rfl) rfl, sg1 (List.mem_of_getElem? (i := 7) rfl) rfl⟩, sg3 (List.mem_of_getElem? (i := 78) rfl) rfl, sg3 (List.mem_of_getElem? (i := 79) rfl) rfl, sg3 (List.mem_of_getElem? (i := 80) rfl) rfl⟩
set_option maxRecDepth 20000 in
theorem kX6_198 : mc_CV RX6 198 yX3_size cX3_size 1 (some .int) 0 := ⟨⟨nv_RX3, pd_4, sg3 (List.mem_of_getElem? (i := 85) rfl) rfl, sg1 (List.mem_of_getElem? (i := 7) rfl) rfl⟩, sg3 (List.mem_of_getElem? (i := 82) rfl) rfl, sg3 (List.mem_of_getElem? (i := 83) rfl) rfl, sg3 (List.mem_of_getElem? (i := 84) rfl) rfl⟩
set_option maxRecDepth 20000 in
theorem kX6_199 : mc_CV RX6 199 yX3_at cX3_at 2 (some .int) 1 := ⟨⟨nv_RX3, pd_3, sg3 (List.mem_of_getElem? (i := 89) rfl) rfl, sg1 (List.mem_of_getElem? (i := 7) rfl) rfl⟩, sg3 (List.mem_of_getElem? (i := 86) rfl) rfl, sg3 (List.mem_of_getElem? (i := 87) rfl) rfl, sg3 (List.mem_of_getElem? (i := 88) rfl) rfl⟩
set_option maxRecDepth 20000 in
theorem kX3_37 : mc_CV RX3 37 yX3_has cX3_has 2 (some .boolean) 1 := ⟨⟨nv_RX3, pd_7, sg3 (List.mem_of_getElem? (i := 93) rfl) rfl, sg1 (List.mem_of_getElem? (i := 7) rfl) rfl⟩, sg3 (List.mem_of_getElem? (i := 90) rfl) rfl, sg3 (List.mem_of_getElem? (i := 91) rfl) rfl, sg3 (List.mem_of_getElem? (i := 92) rfl) rfl⟩
set_option maxRecDepth 20000 in
theorem pd_34 : (parseMethodDescriptor "(LNoZeroWithin$Sheet;LNoZeroWithin$Hand;)J").map (fun d => d.parameters.length) = some 2 := by decide +kernel
set_option maxRecDepth 20000 in
theorem kX6_175 : mc_CS RX6 175 yX6_madeOf cX6_madeOf 5 (some .long) 2 := ⟨⟨nv_RX6, pd_34, sg3 (List.mem_of_getElem? (i := 96) rfl) rfl, sg1 (List.mem_of_getElem? (i := 1) rfl) rfl⟩, sg3 (List.mem_of_getElem? (i := 94) rfl) rfl, sg3 (List.mem_of_getElem? (i := 95) rfl) rfl⟩
set_option maxRecDepth 20000 in
theorem pd_35 : (parseMethodDescriptor "(LNoZeroWithin$Sheet;)J").map (fun d => d.parameters.length) = some 1 := by decide +kernel
set_option maxRecDepth 20000 in
theorem kX6_179 : mc_CS RX6 179 yX6_oursOf cX6_oursOf 4 (some .long) 1 := ⟨⟨nv_RX6, pd_35, sg3 (List.mem_of_getElem? (i := 99) rfl) rfl, sg1 (List.mem_of_getElem? (i := 1) rfl) rfl⟩, sg3 (List.mem_of_getElem? (i := 97) rfl) rfl, sg3 (List.mem_of_getElem? (i := 98) rfl) rfl⟩
set_option maxRecDepth 20000 in
theorem mX6_183 : mc_MF RX6 183 Lib.MathLoose.abs_long.x Lib.MathLoose.abs_long.code 2 (some .long) := ⟨sg3 (List.mem_of_getElem? (i := 100) rfl) rfl, sg3 (List.mem_of_getElem? (i := 101) rfl) rfl, sg1 (List.mem_of_getElem? (i := 13) rfl) rfl, sg3 (List.mem_of_getElem? (i := 102) rfl) rfl⟩
set_option maxRecDepth 20000 in
theorem qX6_186 : Cond.constantLong RX6 186 99999 ∈ mc_WS := sg3 (List.mem_of_getElem? (i := 103) rfl) rfl
set_option maxRecDepth 20000 in
theorem mX6_188 : mc_MF RX6 188 Lib.MathLoose.min_long.x Lib.MathLoose.min_long.code 4 (some .long) := ⟨sg3 (List.mem_of_getElem? (i := 104) rfl) rfl, sg3 (List.mem_of_getElem? (i := 33) rfl) rfl, sg1 (List.mem_of_getElem? (i := 13) rfl) rfl, sg3 (List.mem_of_getElem? (i := 34) rfl) rfl⟩
set_option maxRecDepth 20000 in
theorem kL_77 : mc_CV "NoZeroWithinLaw" 77 yX6_who cX6_who 13 (some .long) 2 := ⟨⟨nv_RX6, pd_29, sg3 (List.mem_of_getElem? (i := 108) rfl) rfl, sg1 (List.mem_of_getElem? (i := 1) rfl) rfl⟩, sg3 (List.mem_of_getElem? (i := 105) rfl) rfl, sg3 (List.mem_of_getElem? (i := 106) rfl) rfl, sg3 (List.mem_of_getElem? (i := 107) rfl) rfl⟩
set_option maxRecDepth 20000 in
theorem qX6_192 : Cond.constantLong RX6 192 (-1) ∈ mc_WS := sg3 (List.mem_of_getElem? (i := 109) rfl) rfl
set_option maxRecDepth 20000 in
theorem kL_81 : mc_CV "NoZeroWithinLaw" 81 yX6_smuggled cX6_smuggled 15 (some .long) 3 := ⟨⟨nv_RX6, pd_32, sg3 (List.mem_of_getElem? (i := 113) rfl) rfl, sg1 (List.mem_of_getElem? (i := 1) rfl) rfl⟩, sg3 (List.mem_of_getElem? (i := 110) rfl) rfl, sg3 (List.mem_of_getElem? (i := 111) rfl) rfl, sg3 (List.mem_of_getElem? (i := 112) rfl) rfl⟩
set_option maxRecDepth 20000 in
theorem kX6_194 : mc_CV RX6 194 yX6_refusalOfBookBy cX6_refusalOfBookBy 4 (some .int) 2 := ⟨⟨nv_RX6, pd_5, sg3 (List.mem_of_getElem? (i := 117) rfl) rfl, sg1 (List.mem_of_getElem? (i := 1) rfl) rfl⟩, sg3 (List.mem_of_getElem? (i := 114) rfl) rfl, sg3 (List.mem_of_getElem? (i := 116) rfl) rfl, mc_sel (pr2 (List.mem_of_getElem? (i := 5) rfl))⟩
set_option maxRecDepth 20000 in
theorem kL_85 : mc_CV "NoZeroWithinLaw" 85 yX6_slip cX6_slip 14 (some .long) 3 := ⟨⟨nv_RX6, pd_32, sg3 (List.mem_of_getElem? (i := 121) rfl) rfl, sg1 (List.mem_of_getElem? (i := 1) rfl) rfl⟩, sg3 (List.mem_of_getElem? (i := 118) rfl) rfl, sg3 (List.mem_of_getElem? (i := 119) rfl) rfl, sg3 (List.mem_of_getElem? (i := 120) rfl) rfl⟩
set_option maxRecDepth 20000 in
theorem kX6_202 : mc_CV RX6 202 yX1_readHimself cX1_readHimself 1 (some .long) 0 := ⟨⟨nv_RX1, pd_31, sg3 (List.mem_of_getElem? (i := 125) rfl) rfl, sg1 (List.mem_of_getElem? (i := 6) rfl) rfl⟩, sg3 (List.mem_of_getElem? (i := 122) rfl) rfl, sg3 (List.mem_of_getElem? (i := 123) rfl) rfl, sg3 (List.mem_of_getElem? (i := 124) rfl) rfl⟩
set_option maxRecDepth 20000 in
theorem kX6_205 : mc_CV RX6 205 yX1_slipAt cX1_slipAt 3 none 1 := ⟨⟨nv_RX1, pd_9, sg3 (List.mem_of_getElem? (i := 129) rfl) rfl, sg1 (List.mem_of_getElem? (i := 6) rfl) rfl⟩, sg3 (List.mem_of_getElem? (i := 126) rfl) rfl, sg3 (List.mem_of_getElem? (i := 127) rfl) rfl, sg3 (List.mem_of_getElem? (i := 128) rfl) rfl⟩
set_option maxRecDepth 20000 in
theorem kX1_74 : mc_CV RX1 74 yX1_putBack cX1_putBack 3 none 2 := ⟨⟨nv_RX1, pd_15, sg3 (List.mem_of_getElem? (i := 133) rfl) rfl, sg1 (List.mem_of_getElem? (i := 6) rfl) rfl⟩, sg3 (List.mem_of_getElem? (i := 130) rfl) rfl, sg3 (List.mem_of_getElem? (i := 131) rfl) rfl, sg3 (List.mem_of_getElem? (i := 132) rfl) rfl⟩
set_option maxRecDepth 20000 in
theorem kX6_208 : mc_CV RX6 208 yX1_putBack cX1_putBack 3 none 2 := ⟨⟨nv_RX1, pd_15, sg3 (List.mem_of_getElem? (i := 133) rfl) rfl, sg1 (List.mem_of_getElem? (i := 6) rfl) rfl⟩, sg3 (List.mem_of_getElem? (i := 134) rfl) rfl, sg3 (List.mem_of_getElem? (i := 131) rfl) rfl, sg3 (List.mem_of_getElem? (i := 132) rfl) rfl⟩
set_option maxRecDepth 20000 in
theorem kL_89 : mc_CV "NoZeroWithinLaw" 89 yX6_sure cX6_sure 9 (some .long) 2 := ⟨⟨nv_RX6, pd_29, sg3 (List.mem_of_getElem? (i := 138) rfl) rfl, sg1 (List.mem_of_getElem? (i := 1) rfl) rfl⟩, sg3 (List.mem_of_getElem? (i := 135) rfl) rfl, sg3 (List.mem_of_getElem? (i := 136) rfl) rfl, sg3 (List.mem_of_getElem? (i := 137) rfl) rfl⟩
set_option maxRecDepth 20000 in
theorem qX6_212 : Cond.constantLong RX6 212 1000000000 ∈ mc_WS := sg3 (List.mem_of_getElem? (i := 139) rfl) rfl
set_option maxRecDepth 20000 in
theorem qX6_214 : Cond.constantLong RX6 214 100 ∈ mc_WS := sg3 (List.mem_of_getElem? (i := 140) rfl) rfl
set_option maxRecDepth 20000 in
theorem kL_93 : mc_CV "NoZeroWithinLaw" 93 yX6_shortest cX6_shortest 11 (some .int) 3 := ⟨⟨nv_RX6, pd_26, sg3 (List.mem_of_getElem? (i := 144) rfl) rfl, sg1 (List.mem_of_getElem? (i := 1) rfl) rfl⟩, sg3 (List.mem_of_getElem? (i := 141) rfl) rfl, sg3 (List.mem_of_getElem? (i := 142) rfl) rfl, sg3 (List.mem_of_getElem? (i := 143) rfl) rfl⟩
set_option maxRecDepth 20000 in
theorem pd_36 : (parseMethodDescriptor "(LNoZeroWithin$Sheet;LNoZeroWithin$Hand;)I").map (fun d => d.parameters.length) = some 2 := by decide +kernel
set_option maxRecDepth 20000 in
theorem kX6_224 : mc_CS RX6 224 yX6_figuresFor cX6_figuresFor 4 (some .int) 2 := ⟨⟨nv_RX6, pd_36, sg3 (List.mem_of_getElem? (i := 147) rfl) rfl, sg1 (List.mem_of_getElem? (i := 1) rfl) rfl⟩, sg3 (List.mem_of_getElem? (i := 145) rfl) rfl, sg3 (List.mem_of_getElem? (i := 146) rfl) rfl⟩
set_option maxRecDepth 20000 in
theorem kL_97 : mc_CV "NoZeroWithinLaw" 97 yX6_lend cX6_lend 5 (some .int) 3 := ⟨⟨nv_RX6, pd_26, sg3 (List.mem_of_getElem? (i := 151) rfl) rfl, sg1 (List.mem_of_getElem? (i := 1) rfl) rfl⟩, sg3 (List.mem_of_getElem? (i := 148) rfl) rfl, sg3 (List.mem_of_getElem? (i := 149) rfl) rfl, sg3 (List.mem_of_getElem? (i := 150) rfl) rfl⟩
set_option maxRecDepth 20000 in
theorem pd_37 : (parseMethodDescriptor "(II)Z").map (fun d => d.parameters.length) = some 2 := by decide +kernel
set_option maxRecDepth 20000 in
theorem kX6_231 : mc_CS RX6 231 yX6_areTwoFolk cX6_areTwoFolk 2 (some .boolean) 2 := ⟨⟨nv_RX6, pd_37, sg3 (List.mem_of_getElem? (i := 154) rfl) rfl, sg1 (List.mem_of_getElem? (i := 1) rfl) rfl⟩, sg3 (List.mem_of_getElem? (i := 152) rfl) rfl, sg3 (List.mem_of_getElem? (i := 153) rfl) rfl⟩
set_option maxRecDepth 20000 in
theorem kX6_355 : mc_CS RX6 355 yX6_isFolk cX6_isFolk 1 (some .boolean) 1 := ⟨⟨nv_RX6, pd_7, sg3 (List.mem_of_getElem? (i := 157) rfl) rfl, sg1 (List.mem_of_getElem? (i := 1) rfl) rfl⟩, sg3 (List.mem_of_getElem? (i := 155) rfl) rfl, sg3 (List.mem_of_getElem? (i := 156) rfl) rfl⟩
set_option maxRecDepth 20000 in
theorem kX6_235 : mc_CV RX6 235 yX0_of cX0_of 3 (some .int) 2 := ⟨⟨nv_RX0, pd_5, sg3 (List.mem_of_getElem? (i := 161) rfl) rfl, sg1 (List.mem_of_getElem? (i := 4) rfl) rfl⟩, sg3 (List.mem_of_getElem? (i := 158) rfl) rfl, sg3 (List.mem_of_getElem? (i := 159) rfl) rfl, sg3 (List.mem_of_getElem? (i := 160) rfl) rfl⟩
set_option maxRecDepth 20000 in
theorem kX6_238 : mc_CV RX6 238 yX0_become cX0_become 4 none 3 := ⟨⟨nv_RX0, pd_23, sg3 (List.mem_of_getElem? (i := 166) rfl) rfl, sg1 (List.mem_of_getElem? (i := 4) rfl) rfl⟩, sg3 (List.mem_of_getElem? (i := 163) rfl) rfl, sg3 (List.mem_of_getElem? (i := 164) rfl) rfl, sg3 (List.mem_of_getElem? (i := 165) rfl) rfl⟩
set_option maxRecDepth 20000 in
theorem kL_101 : mc_CV "NoZeroWithinLaw" 101 yX6_debt cX6_debt 3 (some .int) 2 := ⟨⟨nv_RX6, pd_5, sg3 (List.mem_of_getElem? (i := 171) rfl) rfl, sg1 (List.mem_of_getElem? (i := 1) rfl) rfl⟩, sg3 (List.mem_of_getElem? (i := 168) rfl) rfl, sg3 (List.mem_of_getElem? (i := 169) rfl) rfl, sg3 (List.mem_of_getElem? (i := 170) rfl) rfl⟩
set_option maxRecDepth 20000 in
theorem kL_105 : mc_CV "NoZeroWithinLaw" 105 yX6_pay cX6_pay 7 (some .int) 3 := ⟨⟨nv_RX6, pd_26, sg3 (List.mem_of_getElem? (i := 175) rfl) rfl, sg1 (List.mem_of_getElem? (i := 1) rfl) rfl⟩, sg3 (List.mem_of_getElem? (i := 172) rfl) rfl, sg3 (List.mem_of_getElem? (i := 173) rfl) rfl, sg3 (List.mem_of_getElem? (i := 174) rfl) rfl⟩
set_option maxRecDepth 20000 in
theorem mX6_242 : mc_MF RX6 242 Lib.Math.min.name Lib.Math.min.code 2 (some .int) := ⟨sg3 (List.mem_of_getElem? (i := 176) rfl) rfl, sg2 (List.mem_of_getElem? (i := 141) rfl) rfl, sg1 (List.mem_of_getElem? (i := 13) rfl) rfl, sg2 (List.mem_of_getElem? (i := 142) rfl) rfl⟩
set_option maxRecDepth 20000 in
theorem kL_109 : mc_CV "NoZeroWithinLaw" 109 yX6_rings cX6_rings 1 (some .int) 0 := ⟨⟨nv_RX6, pd_4, sg3 (List.mem_of_getElem? (i := 180) rfl) rfl, sg1 (List.mem_of_getElem? (i := 1) rfl) rfl⟩, sg3 (List.mem_of_getElem? (i := 177) rfl) rfl, sg3 (List.mem_of_getElem? (i := 178) rfl) rfl, sg3 (List.mem_of_getElem? (i := 179) rfl) rfl⟩
set_option maxRecDepth 20000 in
theorem kX6_244 : mc_CV RX6 244 yX0_ringBits cX0_ringBits 3 (some .int) 0 := ⟨⟨nv_RX0, pd_4, sg3 (List.mem_of_getElem? (i := 184) rfl) rfl, sg1 (List.mem_of_getElem? (i := 4) rfl) rfl⟩, sg3 (List.mem_of_getElem? (i := 181) rfl) rfl, sg3 (List.mem_of_getElem? (i := 182) rfl) rfl, sg3 (List.mem_of_getElem? (i := 183) rfl) rfl⟩
set_option maxRecDepth 20000 in
theorem kX0_26 : mc_CV RX0 26 yX0_of cX0_of 3 (some .int) 2 := ⟨⟨nv_RX0, pd_5, sg3 (List.mem_of_getElem? (i := 161) rfl) rfl, sg1 (List.mem_of_getElem? (i := 4) rfl) rfl⟩, sg3 (List.mem_of_getElem? (i := 185) rfl) rfl, sg3 (List.mem_of_getElem? (i := 159) rfl) rfl, sg3 (List.mem_of_getElem? (i := 160) rfl) rfl⟩
set_option maxRecDepth 20000 in
theorem kL_113 : mc_CV "NoZeroWithinLaw" 113 yX6_clear cX6_clear 1 (some .int) 0 := ⟨⟨nv_RX6, pd_4, sg3 (List.mem_of_getElem? (i := 189) rfl) rfl, sg1 (List.mem_of_getElem? (i := 1) rfl) rfl⟩, sg3 (List.mem_of_getElem? (i := 186) rfl) rfl, sg3 (List.mem_of_getElem? (i := 187) rfl) rfl, sg3 (List.mem_of_getElem? (i := 188) rfl) rfl⟩
set_option maxRecDepth 20000 in
theorem kX6_247 : mc_CV RX6 247 yX0_clearPairs cX0_clearPairs 5 (some .int) 0 := ⟨⟨nv_RX0, pd_4, sg3 (List.mem_of_getElem? (i := 193) rfl) rfl, sg1 (List.mem_of_getElem? (i := 4) rfl) rfl⟩, sg3 (List.mem_of_getElem? (i := 190) rfl) rfl, sg3 (List.mem_of_getElem? (i := 191) rfl) rfl, sg3 (List.mem_of_getElem? (i := 192) rfl) rfl⟩
set_option maxRecDepth 20000 in
theorem mX0_44 : mc_MF RX0 44 Lib.Math.min.name Lib.Math.min.code 2 (some .int) := ⟨sg3 (List.mem_of_getElem? (i := 194) rfl) rfl, sg2 (List.mem_of_getElem? (i := 141) rfl) rfl, sg1 (List.mem_of_getElem? (i := 13) rfl) rfl, sg2 (List.mem_of_getElem? (i := 142) rfl) rfl⟩
set_option maxRecDepth 20000 in
theorem kX0_49 : mc_CV RX0 49 yX0_lower cX0_lower 4 none 3 := ⟨⟨nv_RX0, pd_23, sg3 (List.mem_of_getElem? (i := 198) rfl) rfl, sg1 (List.mem_of_getElem? (i := 4) rfl) rfl⟩, sg3 (List.mem_of_getElem? (i := 195) rfl) rfl, sg3 (List.mem_of_getElem? (i := 197) rfl) rfl, mc_sel (pr2 (List.mem_of_getElem? (i := 6) rfl))⟩
set_option maxRecDepth 20000 in
theorem kX0_30 : mc_CV RX0 30 yX0_become cX0_become 4 none 3 := ⟨⟨nv_RX0, pd_23, sg3 (List.mem_of_getElem? (i := 166) rfl) rfl, sg1 (List.mem_of_getElem? (i := 4) rfl) rfl⟩, sg3 (List.mem_of_getElem? (i := 199) rfl) rfl, sg3 (List.mem_of_getElem? (i := 164) rfl) rfl, sg3 (List.mem_of_getElem? (i := 165) rfl) rfl⟩
set_option maxRecDepth 20000 in
theorem kX6_250 : mc_CV RX6 250 yX0_clearThrees cX0_clearThrees 5 (some .int) 0 := ⟨⟨nv_RX0, pd_4, sg3 (List.mem_of_getElem? (i := 203) rfl) rfl, sg1 (List.mem_of_getElem? (i := 4) rfl) rfl⟩, sg3 (List.mem_of_getElem? (i := 200) rfl) rfl, sg3 (List.mem_of_getElem? (i := 201) rfl) rfl, sg3 (List.mem_of_getElem? (i := 202) rfl) rfl⟩
set_option maxRecDepth 20000 in
theorem kX0_52 : mc_CV RX0 52 yX0_clearThree cX0_clearThree 5 (some .int) 3 := ⟨⟨nv_RX0, pd_26, sg3 (List.mem_of_getElem? (i := 207) rfl) rfl, sg1 (List.mem_of_getElem? (i := 4) rfl) rfl⟩, sg3 (List.mem_of_getElem? (i := 204) rfl) rfl, sg3 (List.mem_of_getElem? (i := 206) rfl) rfl, mc_sel (pr2 (List.mem_of_getElem? (i := 7) rfl))⟩
set_option maxRecDepth 20000 in
theorem kL_117 : mc_CV "NoZeroWithinLaw" 117 yX6_forgive cX6_forgive 7 (some .int) 1 := ⟨⟨nv_RX6, pd_3, sg3 (List.mem_of_getElem? (i := 211) rfl) rfl, sg1 (List.mem_of_getElem? (i := 1) rfl) rfl⟩, sg3 (List.mem_of_getElem? (i := 208) rfl) rfl, sg3 (List.mem_of_getElem? (i := 209) rfl) rfl, sg3 (List.mem_of_getElem? (i := 210) rfl) rfl⟩
set_option maxRecDepth 20000 in
theorem nv_RJ6 : (RJ6 ≠ "java/lang/invoke/MethodHandle" ∧ RJ6 ≠ "java/lang/invoke/VarHandle") := ⟨by decide +kernel, by decide +kernel⟩
set_option maxRecDepth 20000 in
theorem kX6_253 : mc_CS RX6 253 yJ6_bitCount_0f7a4 cJ6_bitCount_0f7a4 1 (some .int) 1 := ⟨⟨nv_RJ6, pd_3, sg3 (List.mem_of_getElem? (i := 214) rfl) rfl, sg1 (List.mem_of_getElem? (i := 16) rfl) rfl⟩, sg3 (List.mem_of_getElem? (i := 212) rfl) rfl, sg3 (List.mem_of_getElem? (i := 213) rfl) rfl⟩
set_option maxRecDepth 20000 in
theorem qJ6_265 : Cond.constant RJ6 265 1431655765 ∈ mc_WS := sg3 (List.mem_of_getElem? (i := 215) rfl) rfl
set_option maxRecDepth 20000 in
theorem qJ6_266 : Cond.constant RJ6 266 858993459 ∈ mc_WS := sg3 (List.mem_of_getElem? (i := 216) rfl) rfl
set_option maxRecDepth 20000 in
theorem qJ6_267 : Cond.constant RJ6 267 252645135 ∈ mc_WS := sg3 (List.mem_of_getElem? (i := 217) rfl) rfl
set_option maxRecDepth 20000 in
theorem kX6_258 : mc_CV RX6 258 yX0_ringFolkWithout cX0_ringFolkWithout 5 (some .int) 2 := ⟨⟨nv_RX0, pd_5, sg3 (List.mem_of_getElem? (i := 221) rfl) rfl, sg1 (List.mem_of_getElem? (i := 4) rfl) rfl⟩, sg3 (List.mem_of_getElem? (i := 218) rfl) rfl, sg3 (List.mem_of_getElem? (i := 219) rfl) rfl, sg3 (List.mem_of_getElem? (i := 220) rfl) rfl⟩
set_option maxRecDepth 20000 in
theorem kX0_34 : mc_CV RX0 34 yX0_ringBits cX0_ringBits 3 (some .int) 0 := ⟨⟨nv_RX0, pd_4, sg3 (List.mem_of_getElem? (i := 184) rfl) rfl, sg1 (List.mem_of_getElem? (i := 4) rfl) rfl⟩, sg3 (List.mem_of_getElem? (i := 222) rfl) rfl, sg3 (List.mem_of_getElem? (i := 182) rfl) rfl, sg3 (List.mem_of_getElem? (i := 183) rfl) rfl⟩
set_option maxRecDepth 20000 in
theorem kX0_38 : mc_CS RX0 38 yJ6_bitCount_0f7a4 cJ6_bitCount_0f7a4 1 (some .int) 1 := ⟨⟨nv_RJ6, pd_3, sg3 (List.mem_of_getElem? (i := 214) rfl) rfl, sg1 (List.mem_of_getElem? (i := 16) rfl) rfl⟩, sg3 (List.mem_of_getElem? (i := 223) rfl) rfl, sg3 (List.mem_of_getElem? (i := 213) rfl) rfl⟩
set_option maxRecDepth 20000 in
theorem kL_121 : mc_CV "NoZeroWithinLaw" 121 yX6_span cX6_span 3 (some .int) 2 := ⟨⟨nv_RX6, pd_5, sg3 (List.mem_of_getElem? (i := 227) rfl) rfl, sg1 (List.mem_of_getElem? (i := 1) rfl) rfl⟩, sg3 (List.mem_of_getElem? (i := 224) rfl) rfl, sg3 (List.mem_of_getElem? (i := 225) rfl) rfl, sg3 (List.mem_of_getElem? (i := 226) rfl) rfl⟩
set_option maxRecDepth 20000 in
theorem qX6_261 : Cond.constant RX6 261 (-100000) ∈ mc_WS := sg3 (List.mem_of_getElem? (i := 228) rfl) rfl
set_option maxRecDepth 20000 in
theorem kX6_262 : mc_CS RX6 262 yX6_placeOfYear cX6_placeOfYear 1 (some .int) 1 := ⟨⟨nv_RX6, pd_3, sg3 (List.mem_of_getElem? (i := 231) rfl) rfl, sg1 (List.mem_of_getElem? (i := 1) rfl) rfl⟩, sg3 (List.mem_of_getElem? (i := 229) rfl) rfl, sg3 (List.mem_of_getElem? (i := 230) rfl) rfl⟩
set_option maxRecDepth 20000 in
theorem kL_125 : mc_CV "NoZeroWithinLaw" 125 yX6_behind cX6_behind 4 (some .int) 2 := ⟨⟨nv_RX6, pd_5, sg3 (List.mem_of_getElem? (i := 235) rfl) rfl, sg1 (List.mem_of_getElem? (i := 1) rfl) rfl⟩, sg3 (List.mem_of_getElem? (i := 232) rfl) rfl, sg3 (List.mem_of_getElem? (i := 233) rfl) rfl, sg3 (List.mem_of_getElem? (i := 234) rfl) rfl⟩
set_option maxRecDepth 20000 in
theorem kX6_265 : mc_CS RX6 265 yX6_yearAtPlace cX6_yearAtPlace 1 (some .int) 1 := ⟨⟨nv_RX6, pd_3, sg3 (List.mem_of_getElem? (i := 238) rfl) rfl, sg1 (List.mem_of_getElem? (i := 1) rfl) rfl⟩, sg3 (List.mem_of_getElem? (i := 236) rfl) rfl, sg3 (List.mem_of_getElem? (i := 237) rfl) rfl⟩
set_option maxRecDepth 20000 in
theorem qX6_268 : Cond.constant RX6 268 (-100001) ∈ mc_WS := sg3 (List.mem_of_getElem? (i := 239) rfl) rfl
set_option maxRecDepth 20000 in
theorem kL_129 : mc_CV "NoZeroWithinLaw" 129 yX6_alike cX6_alike 10 (some .int) 3 := ⟨⟨nv_RX6, pd_26, sg4 (List.mem_of_getElem? (i := 3) rfl) rfl, sg1 (List.mem_of_getElem? (i := 1) rfl) rfl⟩, sg4 (List.mem_of_getElem? (i := 0) rfl) rfl, sg4 (List.mem_of_getElem? (i := 1) rfl) rfl, sg4 (List.mem_of_getElem? (i := 2) rfl) rfl⟩
set_option maxRecDepth 20000 in
theorem qX6_269 : Cond.constant RX6 269 (-100005) ∈ mc_WS := sg4 (List.mem_of_getElem? (i := 4) rfl) rfl
set_option maxRecDepth 20000 in
theorem qX6_270 : Cond.constant RX6 270 (-100007) ∈ mc_WS := sg4 (List.mem_of_getElem? (i := 5) rfl) rfl
set_option maxRecDepth 20000 in
theorem pd_38 : (parseMethodDescriptor "(LNoZeroWithin$Hand;I)I").map (fun d => d.parameters.length) = some 2 := by decide +kernel
set_option maxRecDepth 20000 in
theorem kX6_271 : mc_CS RX6 271 yX6_lastFigureOf cX6_lastFigureOf 2 (some .int) 2 := ⟨⟨nv_RX6, pd_38, sg4 (List.mem_of_getElem? (i := 8) rfl) rfl, sg1 (List.mem_of_getElem? (i := 1) rfl) rfl⟩, sg4 (List.mem_of_getElem? (i := 6) rfl) rfl, sg4 (List.mem_of_getElem? (i := 7) rfl) rfl⟩
set_option maxRecDepth 20000 in
theorem kL_133 : mc_CV "NoZeroWithinLaw" 133 yX6_judge cX6_judge 4 (some .int) 2 := ⟨⟨nv_RX6, pd_5, sg4 (List.mem_of_getElem? (i := 12) rfl) rfl, sg1 (List.mem_of_getElem? (i := 1) rfl) rfl⟩, sg4 (List.mem_of_getElem? (i := 9) rfl) rfl, sg4 (List.mem_of_getElem? (i := 10) rfl) rfl, sg4 (List.mem_of_getElem? (i := 11) rfl) rfl⟩
set_option maxRecDepth 20000 in
theorem kX6_275 : mc_CV RX6 275 yX6_refusalOfRowsBy cX6_refusalOfRowsBy 4 (some .int) 2 := ⟨⟨nv_RX6, pd_5, sg4 (List.mem_of_getElem? (i := 16) rfl) rfl, sg1 (List.mem_of_getElem? (i := 1) rfl) rfl⟩, sg4 (List.mem_of_getElem? (i := 13) rfl) rfl, sg4 (List.mem_of_getElem? (i := 15) rfl) rfl, mc_sel (pr2 (List.mem_of_getElem? (i := 8) rfl))⟩
set_option maxRecDepth 20000 in
theorem kX6_286 : mc_CV RX6 286 yX6_refusalOfRows cX6_refusalOfRows 5 (some .int) 1 := ⟨⟨nv_RX6, pd_3, sg4 (List.mem_of_getElem? (i := 20) rfl) rfl, sg1 (List.mem_of_getElem? (i := 1) rfl) rfl⟩, sg4 (List.mem_of_getElem? (i := 17) rfl) rfl, sg4 (List.mem_of_getElem? (i := 19) rfl) rfl, mc_sel (pr2 (List.mem_of_getElem? (i := 9) rfl))⟩
set_option maxRecDepth 20000 in
theorem kX6_278 : mc_CS RX6 278 yX6_firstOtherwise cX6_firstOtherwise 3 (some .int) 2 := ⟨⟨nv_RX6, pd_36, sg4 (List.mem_of_getElem? (i := 23) rfl) rfl, sg1 (List.mem_of_getElem? (i := 1) rfl) rfl⟩, sg4 (List.mem_of_getElem? (i := 21) rfl) rfl, sg4 (List.mem_of_getElem? (i := 22) rfl) rfl⟩
set_option maxRecDepth 20000 in
theorem kL_137 : mc_CV "NoZeroWithinLaw" 137 yX6_kinds cX6_kinds 9 (some .int) 3 := ⟨⟨nv_RX6, pd_26, sg4 (List.mem_of_getElem? (i := 27) rfl) rfl, sg1 (List.mem_of_getElem? (i := 1) rfl) rfl⟩, sg4 (List.mem_of_getElem? (i := 24) rfl) rfl, sg4 (List.mem_of_getElem? (i := 25) rfl) rfl, sg4 (List.mem_of_getElem? (i := 26) rfl) rfl⟩
set_option maxRecDepth 20000 in
theorem pd_39 : (parseMethodDescriptor "(ILNoZeroWithin$Sheet;LNoZeroWithin$Hand;)I").map (fun d => d.parameters.length) = some 3 := by decide +kernel
set_option maxRecDepth 20000 in
theorem kX6_282 : mc_CS RX6 282 yX6_bitOf cX6_bitOf 3 (some .int) 3 := ⟨⟨nv_RX6, pd_39, sg4 (List.mem_of_getElem? (i := 30) rfl) rfl, sg1 (List.mem_of_getElem? (i := 1) rfl) rfl⟩, sg4 (List.mem_of_getElem? (i := 28) rfl) rfl, sg4 (List.mem_of_getElem? (i := 29) rfl) rfl⟩
set_option maxRecDepth 20000 in
theorem kL_141 : mc_CV "NoZeroWithinLaw" 141 yX6_whose cX6_whose 5 (some .int) 1 := ⟨⟨nv_RX6, pd_3, sg4 (List.mem_of_getElem? (i := 34) rfl) rfl, sg1 (List.mem_of_getElem? (i := 1) rfl) rfl⟩, sg4 (List.mem_of_getElem? (i := 31) rfl) rfl, sg4 (List.mem_of_getElem? (i := 32) rfl) rfl, sg4 (List.mem_of_getElem? (i := 33) rfl) rfl⟩
set_option maxRecDepth 20000 in
theorem kL_145 : mc_CV "NoZeroWithinLaw" 145 yX6_laws cX6_laws 7 (some .int) 2 := ⟨⟨nv_RX6, pd_5, sg4 (List.mem_of_getElem? (i := 38) rfl) rfl, sg1 (List.mem_of_getElem? (i := 1) rfl) rfl⟩, sg4 (List.mem_of_getElem? (i := 35) rfl) rfl, sg4 (List.mem_of_getElem? (i := 36) rfl) rfl, sg4 (List.mem_of_getElem? (i := 37) rfl) rfl⟩
set_option maxRecDepth 20000 in
theorem kL_149 : mc_CV "NoZeroWithinLaw" 149 yX6_film cX6_film 11 (some .int) 4 := ⟨⟨nv_RX6, pd_21, sg4 (List.mem_of_getElem? (i := 42) rfl) rfl, sg1 (List.mem_of_getElem? (i := 1) rfl) rfl⟩, sg4 (List.mem_of_getElem? (i := 39) rfl) rfl, sg4 (List.mem_of_getElem? (i := 40) rfl) rfl, sg4 (List.mem_of_getElem? (i := 41) rfl) rfl⟩
set_option maxRecDepth 20000 in
theorem kX6_292 : mc_CV RX6 292 yX3_become cX3_become 3 none 2 := ⟨⟨nv_RX3, pd_15, sg4 (List.mem_of_getElem? (i := 46) rfl) rfl, sg1 (List.mem_of_getElem? (i := 7) rfl) rfl⟩, sg4 (List.mem_of_getElem? (i := 43) rfl) rfl, sg4 (List.mem_of_getElem? (i := 44) rfl) rfl, sg4 (List.mem_of_getElem? (i := 45) rfl) rfl⟩
set_option maxRecDepth 20000 in
theorem mX3_19 : mc_MF RX3 19 Lib.Math.min.name Lib.Math.min.code 2 (some .int) := ⟨sg4 (List.mem_of_getElem? (i := 47) rfl) rfl, sg2 (List.mem_of_getElem? (i := 141) rfl) rfl, sg1 (List.mem_of_getElem? (i := 13) rfl) rfl, sg2 (List.mem_of_getElem? (i := 142) rfl) rfl⟩
set_option maxRecDepth 20000 in
theorem mX3_25 : mc_MF RX3 25 Lib.Math.max.name Lib.Math.max.code 2 (some .int) := ⟨sg4 (List.mem_of_getElem? (i := 48) rfl) rfl, sg2 (List.mem_of_getElem? (i := 144) rfl) rfl, sg1 (List.mem_of_getElem? (i := 13) rfl) rfl, sg2 (List.mem_of_getElem? (i := 145) rfl) rfl⟩
set_option maxRecDepth 20000 in
theorem pd_40 : (parseMethodDescriptor "([II)V").map (fun d => d.parameters.length) = some 2 := by decide +kernel
set_option maxRecDepth 20000 in
theorem kX3_31 : mc_CS RX3 31 yJ7_fill_53178 cJ7_fill_53178 4 none 2 := ⟨⟨nv_RJ7, pd_40, sg4 (List.mem_of_getElem? (i := 51) rfl) rfl, sg1 (List.mem_of_getElem? (i := 14) rfl) rfl⟩, sg4 (List.mem_of_getElem? (i := 49) rfl) rfl, sg4 (List.mem_of_getElem? (i := 50) rfl) rfl⟩
set_option maxRecDepth 20000 in
theorem kX6_294 : mc_CV RX6 294 yX3_store cX3_store 3 none 2 := ⟨⟨nv_RX3, pd_15, sg4 (List.mem_of_getElem? (i := 55) rfl) rfl, sg1 (List.mem_of_getElem? (i := 7) rfl) rfl⟩, sg4 (List.mem_of_getElem? (i := 52) rfl) rfl, sg4 (List.mem_of_getElem? (i := 53) rfl) rfl, sg4 (List.mem_of_getElem? (i := 54) rfl) rfl⟩
set_option maxRecDepth 20000 in
theorem qX6_297 : Cond.constantLong RX6 297 2147483647 ∈ mc_WS := sg4 (List.mem_of_getElem? (i := 56) rfl) rfl
set_option maxRecDepth 20000 in
theorem kL_153 : mc_CV "NoZeroWithinLaw" 153 yX6_drawn cX6_drawn 6 (some .long) 3 := ⟨⟨nv_RX6, pd_32, sg4 (List.mem_of_getElem? (i := 60) rfl) rfl, sg1 (List.mem_of_getElem? (i := 1) rfl) rfl⟩, sg4 (List.mem_of_getElem? (i := 57) rfl) rfl, sg4 (List.mem_of_getElem? (i := 58) rfl) rfl, sg4 (List.mem_of_getElem? (i := 59) rfl) rfl⟩
set_option maxRecDepth 20000 in
theorem kX6_299 : mc_CV RX6 299 yX1_slipByLots cX1_slipByLots 6 none 2 := ⟨⟨nv_RX1, pd_15, sg4 (List.mem_of_getElem? (i := 64) rfl) rfl, sg1 (List.mem_of_getElem? (i := 6) rfl) rfl⟩, sg4 (List.mem_of_getElem? (i := 61) rfl) rfl, sg4 (List.mem_of_getElem? (i := 62) rfl) rfl, sg4 (List.mem_of_getElem? (i := 63) rfl) rfl⟩
set_option maxRecDepth 20000 in
theorem qX1_78 : Cond.constantLong RX1 78 48271 ∈ mc_WS := sg4 (List.mem_of_getElem? (i := 65) rfl) rfl
set_option maxRecDepth 20000 in
theorem qX1_80 : Cond.constantLong RX1 80 2147483647 ∈ mc_WS := sg4 (List.mem_of_getElem? (i := 66) rfl) rfl
set_option maxRecDepth 20000 in
theorem qX1_82 : Cond.constantLong RX1 82 100 ∈ mc_WS := sg4 (List.mem_of_getElem? (i := 67) rfl) rfl
set_option maxRecDepth 20000 in
theorem kX1_84 : mc_CV RX1 84 yX1_slipAt cX1_slipAt 3 none 1 := ⟨⟨nv_RX1, pd_9, sg3 (List.mem_of_getElem? (i := 129) rfl) rfl, sg1 (List.mem_of_getElem? (i := 6) rfl) rfl⟩, sg4 (List.mem_of_getElem? (i := 68) rfl) rfl, sg3 (List.mem_of_getElem? (i := 127) rfl) rfl, sg3 (List.mem_of_getElem? (i := 128) rfl) rfl⟩
set_option maxRecDepth 20000 in
theorem pd_41 : (parseMethodDescriptor "(IIIII)J").map (fun d => d.parameters.length) = some 5 := by decide +kernel
set_option maxRecDepth 20000 in
theorem kL_157 : mc_CV "NoZeroWithinLaw" 157 yX6_odds cX6_odds 13 (some .long) 5 := ⟨⟨nv_RX6, pd_41, sg4 (List.mem_of_getElem? (i := 72) rfl) rfl, sg1 (List.mem_of_getElem? (i := 1) rfl) rfl⟩, sg4 (List.mem_of_getElem? (i := 69) rfl) rfl, sg4 (List.mem_of_getElem? (i := 70) rfl) rfl, sg4 (List.mem_of_getElem? (i := 71) rfl) rfl⟩
set_option maxRecDepth 20000 in
theorem qX6_302 : Cond.constantLong RX6 302 (-4611686018427387904) ∈ mc_WS := sg4 (List.mem_of_getElem? (i := 73) rfl) rfl
set_option maxRecDepth 20000 in
theorem kX6_304 : mc_CS RX6 304 yX6_commonDivisor cX6_commonDivisor 3 (some .int) 2 := ⟨⟨nv_RX6, pd_5, sg4 (List.mem_of_getElem? (i := 76) rfl) rfl, sg1 (List.mem_of_getElem? (i := 1) rfl) rfl⟩, sg4 (List.mem_of_getElem? (i := 74) rfl) rfl, sg4 (List.mem_of_getElem? (i := 75) rfl) rfl⟩
set_option maxRecDepth 20000 in
theorem mX6_307 : mc_MF RX6 307 Lib.Math.max.name Lib.Math.max.code 2 (some .int) := ⟨sg4 (List.mem_of_getElem? (i := 77) rfl) rfl, sg2 (List.mem_of_getElem? (i := 144) rfl) rfl, sg1 (List.mem_of_getElem? (i := 13) rfl) rfl, sg2 (List.mem_of_getElem? (i := 145) rfl) rfl⟩
set_option maxRecDepth 20000 in
theorem kL_162 : mc_CV "NoZeroWithinLaw" 162 yX6_image cX6_image 1 (some .int) 0 := ⟨⟨nv_RX6, pd_4, sg4 (List.mem_of_getElem? (i := 81) rfl) rfl, sg1 (List.mem_of_getElem? (i := 1) rfl) rfl⟩, sg4 (List.mem_of_getElem? (i := 78) rfl) rfl, sg4 (List.mem_of_getElem? (i := 79) rfl) rfl, sg4 (List.mem_of_getElem? (i := 80) rfl) rfl⟩
set_option maxRecDepth 20000 in
theorem pd_42 : (parseMethodDescriptor "(IIIILNoZeroWithin$Debts;)V").map (fun d => d.parameters.length) = some 5 := by decide +kernel
set_option maxRecDepth 20000 in
theorem kX6_310 : mc_CV RX6 310 yX2_keep cX2_keep 6 none 5 := ⟨⟨nv_RX2, pd_42, sg4 (List.mem_of_getElem? (i := 85) rfl) rfl, sg1 (List.mem_of_getElem? (i := 5) rfl) rfl⟩, sg4 (List.mem_of_getElem? (i := 82) rfl) rfl, sg4 (List.mem_of_getElem? (i := 83) rfl) rfl, sg4 (List.mem_of_getElem? (i := 84) rfl) rfl⟩
set_option maxRecDepth 20000 in
theorem pd_43 : (parseMethodDescriptor "(LNoZeroWithin$Debts;)V").map (fun d => d.parameters.length) = some 1 := by decide +kernel
set_option maxRecDepth 20000 in
theorem kX2_33 : mc_CV RX2 33 yX0_copyTo cX0_copyTo 2 none 1 := ⟨⟨nv_RX0, pd_43, sg4 (List.mem_of_getElem? (i := 89) rfl) rfl, sg1 (List.mem_of_getElem? (i := 4) rfl) rfl⟩, sg4 (List.mem_of_getElem? (i := 86) rfl) rfl, sg4 (List.mem_of_getElem? (i := 87) rfl) rfl, sg4 (List.mem_of_getElem? (i := 88) rfl) rfl⟩
set_option maxRecDepth 20000 in
theorem oX0_56 : Cond.methodLink RX0 56 arraycopyName ∈ mc_WS := sg4 (List.mem_of_getElem? (i := 90) rfl) rfl
set_option maxRecDepth 20000 in
theorem kL_166 : mc_CV "NoZeroWithinLaw" 166 yX6_back cX6_back 1 (some .int) 0 := ⟨⟨nv_RX6, pd_4, sg4 (List.mem_of_getElem? (i := 94) rfl) rfl, sg1 (List.mem_of_getElem? (i := 1) rfl) rfl⟩, sg4 (List.mem_of_getElem? (i := 91) rfl) rfl, sg4 (List.mem_of_getElem? (i := 92) rfl) rfl, sg4 (List.mem_of_getElem? (i := 93) rfl) rfl⟩
set_option maxRecDepth 20000 in
theorem kX6_314 : mc_CV RX6 314 yX2_isThere cX2_isThere 1 (some .boolean) 0 := ⟨⟨nv_RX2, pd_10, sg4 (List.mem_of_getElem? (i := 98) rfl) rfl, sg1 (List.mem_of_getElem? (i := 5) rfl) rfl⟩, sg4 (List.mem_of_getElem? (i := 95) rfl) rfl, sg4 (List.mem_of_getElem? (i := 96) rfl) rfl, sg4 (List.mem_of_getElem? (i := 97) rfl) rfl⟩
set_option maxRecDepth 20000 in
theorem kX6_317 : mc_CV RX6 317 yX2_base cX2_base 1 (some .int) 0 := ⟨⟨nv_RX2, pd_4, sg4 (List.mem_of_getElem? (i := 102) rfl) rfl, sg1 (List.mem_of_getElem? (i := 5) rfl) rfl⟩, sg4 (List.mem_of_getElem? (i := 99) rfl) rfl, sg4 (List.mem_of_getElem? (i := 100) rfl) rfl, sg4 (List.mem_of_getElem? (i := 101) rfl) rfl⟩
set_option maxRecDepth 20000 in
theorem kX6_319 : mc_CV RX6 319 yX2_year cX2_year 1 (some .int) 0 := ⟨⟨nv_RX2, pd_4, sg4 (List.mem_of_getElem? (i := 106) rfl) rfl, sg1 (List.mem_of_getElem? (i := 5) rfl) rfl⟩, sg4 (List.mem_of_getElem? (i := 103) rfl) rfl, sg4 (List.mem_of_getElem? (i := 104) rfl) rfl, sg4 (List.mem_of_getElem? (i := 105) rfl) rfl⟩
set_option maxRecDepth 20000 in
theorem kX6_321 : mc_CV RX6 321 yX2_clerks cX2_clerks 1 (some .int) 0 := ⟨⟨nv_RX2, pd_4, sg4 (List.mem_of_getElem? (i := 110) rfl) rfl, sg1 (List.mem_of_getElem? (i := 5) rfl) rfl⟩, sg4 (List.mem_of_getElem? (i := 107) rfl) rfl, sg4 (List.mem_of_getElem? (i := 108) rfl) rfl, sg4 (List.mem_of_getElem? (i := 109) rfl) rfl⟩
set_option maxRecDepth 20000 in
theorem kX6_323 : mc_CV RX6 323 yX2_lawNumber cX2_lawNumber 1 (some .int) 0 := ⟨⟨nv_RX2, pd_4, sg4 (List.mem_of_getElem? (i := 114) rfl) rfl, sg1 (List.mem_of_getElem? (i := 5) rfl) rfl⟩, sg4 (List.mem_of_getElem? (i := 111) rfl) rfl, sg4 (List.mem_of_getElem? (i := 112) rfl) rfl, sg4 (List.mem_of_getElem? (i := 113) rfl) rfl⟩
set_option maxRecDepth 20000 in
theorem kX6_325 : mc_CV RX6 325 yX2_restore cX2_restore 2 none 1 := ⟨⟨nv_RX2, pd_43, sg4 (List.mem_of_getElem? (i := 118) rfl) rfl, sg1 (List.mem_of_getElem? (i := 5) rfl) rfl⟩, sg4 (List.mem_of_getElem? (i := 115) rfl) rfl, sg4 (List.mem_of_getElem? (i := 116) rfl) rfl, sg4 (List.mem_of_getElem? (i := 117) rfl) rfl⟩
set_option maxRecDepth 20000 in
theorem kL_170 : mc_CV "NoZeroWithinLaw" 170 yX6_sheet cX6_sheet 5 (some .int) 3 := ⟨⟨nv_RX6, pd_26, sg4 (List.mem_of_getElem? (i := 122) rfl) rfl, sg1 (List.mem_of_getElem? (i := 1) rfl) rfl⟩, sg4 (List.mem_of_getElem? (i := 119) rfl) rfl, sg4 (List.mem_of_getElem? (i := 120) rfl) rfl, sg4 (List.mem_of_getElem? (i := 121) rfl) rfl⟩
set_option maxRecDepth 20000 in
theorem kL_174 : mc_CV "NoZeroWithinLaw" 174 yX6_cell cX6_cell 6 (some .int) 3 := ⟨⟨nv_RX6, pd_26, sg4 (List.mem_of_getElem? (i := 126) rfl) rfl, sg1 (List.mem_of_getElem? (i := 1) rfl) rfl⟩, sg4 (List.mem_of_getElem? (i := 123) rfl) rfl, sg4 (List.mem_of_getElem? (i := 124) rfl) rfl, sg4 (List.mem_of_getElem? (i := 125) rfl) rfl⟩
set_option maxRecDepth 20000 in
theorem kX6_329 : mc_CV RX6 329 yX3_has cX3_has 2 (some .boolean) 1 := ⟨⟨nv_RX3, pd_7, sg3 (List.mem_of_getElem? (i := 93) rfl) rfl, sg1 (List.mem_of_getElem? (i := 7) rfl) rfl⟩, sg4 (List.mem_of_getElem? (i := 127) rfl) rfl, sg3 (List.mem_of_getElem? (i := 91) rfl) rfl, sg3 (List.mem_of_getElem? (i := 92) rfl) rfl⟩
set_option maxRecDepth 20000 in
theorem pd_44 : (parseMethodDescriptor "(IIIII)I").map (fun d => d.parameters.length) = some 5 := by decide +kernel
set_option maxRecDepth 20000 in
theorem kL_178 : mc_CV "NoZeroWithinLaw" 178 yX6_copy cX6_copy 8 (some .int) 5 := ⟨⟨nv_RX6, pd_44, sg4 (List.mem_of_getElem? (i := 131) rfl) rfl, sg1 (List.mem_of_getElem? (i := 1) rfl) rfl⟩, sg4 (List.mem_of_getElem? (i := 128) rfl) rfl, sg4 (List.mem_of_getElem? (i := 129) rfl) rfl, sg4 (List.mem_of_getElem? (i := 130) rfl) rfl⟩
set_option maxRecDepth 20000 in
theorem kX6_335 : mc_CV RX6 335 yX3_sort cX3_sort 1 (some .int) 0 := ⟨⟨nv_RX3, pd_4, sg4 (List.mem_of_getElem? (i := 135) rfl) rfl, sg1 (List.mem_of_getElem? (i := 7) rfl) rfl⟩, sg4 (List.mem_of_getElem? (i := 132) rfl) rfl, sg4 (List.mem_of_getElem? (i := 133) rfl) rfl, sg4 (List.mem_of_getElem? (i := 134) rfl) rfl⟩
set_option maxRecDepth 20000 in
theorem kX6_338 : mc_CV RX6 338 yX3_hasRun cX3_hasRun 3 (some .boolean) 2 := ⟨⟨nv_RX3, pd_37, sg4 (List.mem_of_getElem? (i := 139) rfl) rfl, sg1 (List.mem_of_getElem? (i := 7) rfl) rfl⟩, sg4 (List.mem_of_getElem? (i := 136) rfl) rfl, sg4 (List.mem_of_getElem? (i := 137) rfl) rfl, sg4 (List.mem_of_getElem? (i := 138) rfl) rfl⟩
set_option maxRecDepth 20000 in
theorem pd_45 : (parseMethodDescriptor "(LNoZeroWithin$Sheet;III)V").map (fun d => d.parameters.length) = some 4 := by decide +kernel
set_option maxRecDepth 20000 in
theorem kX6_341 : mc_CV RX6 341 yX3_copyTo cX3_copyTo 5 none 4 := ⟨⟨nv_RX3, pd_45, sg4 (List.mem_of_getElem? (i := 143) rfl) rfl, sg1 (List.mem_of_getElem? (i := 7) rfl) rfl⟩, sg4 (List.mem_of_getElem? (i := 140) rfl) rfl, sg4 (List.mem_of_getElem? (i := 141) rfl) rfl, sg4 (List.mem_of_getElem? (i := 142) rfl) rfl⟩
set_option maxRecDepth 20000 in
theorem kX3_41 : mc_CV RX3 41 yX3_hasRun cX3_hasRun 3 (some .boolean) 2 := ⟨⟨nv_RX3, pd_37, sg4 (List.mem_of_getElem? (i := 139) rfl) rfl, sg1 (List.mem_of_getElem? (i := 7) rfl) rfl⟩, sg4 (List.mem_of_getElem? (i := 144) rfl) rfl, sg4 (List.mem_of_getElem? (i := 137) rfl) rfl, sg4 (List.mem_of_getElem? (i := 138) rfl) rfl⟩
set_option maxRecDepth 20000 in
theorem oX3_45 : Cond.methodLink RX3 45 arraycopyName ∈ mc_WS := sg4 (List.mem_of_getElem? (i := 145) rfl) rfl
set_option maxRecDepth 20000 in
theorem kL_183 : mc_CV "NoZeroWithinLaw" 183 yX6_clerksBy cX6_clerksBy 9 (some .int) 4 := ⟨⟨nv_RX6, pd_21, sg4 (List.mem_of_getElem? (i := 149) rfl) rfl, sg1 (List.mem_of_getElem? (i := 1) rfl) rfl⟩, sg4 (List.mem_of_getElem? (i := 146) rfl) rfl, sg4 (List.mem_of_getElem? (i := 147) rfl) rfl, sg4 (List.mem_of_getElem? (i := 148) rfl) rfl⟩
set_option maxRecDepth 20000 in
theorem kX6_345 : mc_CV RX6 345 yX6_clerk cX6_clerk 4 (some .int) 2 := ⟨⟨nv_RX6, pd_5, sg2 (List.mem_of_getElem? (i := 215) rfl) rfl, sg1 (List.mem_of_getElem? (i := 1) rfl) rfl⟩, sg4 (List.mem_of_getElem? (i := 150) rfl) rfl, sg2 (List.mem_of_getElem? (i := 213) rfl) rfl, sg2 (List.mem_of_getElem? (i := 214) rfl) rfl⟩
set_option maxRecDepth 20000 in
theorem kL_187 : mc_CV "NoZeroWithinLaw" 187 yX6_taken cX6_taken 4 (some .int) 2 := ⟨⟨nv_RX6, pd_5, sg4 (List.mem_of_getElem? (i := 154) rfl) rfl, sg1 (List.mem_of_getElem? (i := 1) rfl) rfl⟩, sg4 (List.mem_of_getElem? (i := 151) rfl) rfl, sg4 (List.mem_of_getElem? (i := 152) rfl) rfl, sg4 (List.mem_of_getElem? (i := 153) rfl) rfl⟩
set_option maxRecDepth 20000 in
theorem kX6_348 : mc_CV RX6 348 yX0_allOf cX0_allOf 4 (some .int) 1 := ⟨⟨nv_RX0, pd_3, sg4 (List.mem_of_getElem? (i := 158) rfl) rfl, sg1 (List.mem_of_getElem? (i := 4) rfl) rfl⟩, sg4 (List.mem_of_getElem? (i := 155) rfl) rfl, sg4 (List.mem_of_getElem? (i := 156) rfl) rfl, sg4 (List.mem_of_getElem? (i := 157) rfl) rfl⟩
set_option maxRecDepth 20000 in
theorem kX6_351 : mc_CS RX6 351 yX6_isOfKind cX6_isOfKind 4 (some .boolean) 2 := ⟨⟨nv_RX6, pd_37, sg2 (List.mem_of_getElem? (i := 230) rfl) rfl, sg1 (List.mem_of_getElem? (i := 1) rfl) rfl⟩, sg4 (List.mem_of_getElem? (i := 159) rfl) rfl, sg2 (List.mem_of_getElem? (i := 229) rfl) rfl⟩
set_option maxRecDepth 20000 in
theorem nv_RX7 : (RX7 ≠ "java/lang/invoke/MethodHandle" ∧ RX7 ≠ "java/lang/invoke/VarHandle") := ⟨by decide +kernel, by decide +kernel⟩
set_option maxRecDepth 20000 in
theorem kL_12 : mc_CI "NoZeroWithinLaw" 12 yX7_init cX7_init 2 0 := ⟨⟨nv_RX7, pd_0, sg4 (List.mem_of_getElem? (i := 164) rfl) rfl, sg1 (List.mem_of_getElem? (i := 8) rfl) rfl⟩, sg4 (List.mem_of_getElem? (i := 162) rfl) rfl, sg4 (List.mem_of_getElem? (i := 163) rfl) rfl, rfl⟩
set_option maxRecDepth 20000 in
theorem oX7_1 : Cond.methodLink RX7 1 Lib.objectInit ∈ mc_WS := sg4 (List.mem_of_getElem? (i := 165) rfl) rfl
set_option maxRecDepth 20000 in
theorem kX7_68 : mc_CV RX7 68 yX7_text cX7_text 3 (some .int) 0 := ⟨⟨nv_RX7, pd_4, sg4 (List.mem_of_getElem? (i := 169) rfl) rfl, sg1 (List.mem_of_getElem? (i := 8) rfl) rfl⟩, sg4 (List.mem_of_getElem? (i := 166) rfl) rfl, sg4 (List.mem_of_getElem? (i := 167) rfl) rfl, sg4 (List.mem_of_getElem? (i := 168) rfl) rfl⟩
set_option maxRecDepth 20000 in
theorem kX7_132 : mc_CV RX7 132 yX7_next cX7_next 3 none 0 := ⟨⟨nv_RX7, pd_0, sg4 (List.mem_of_getElem? (i := 173) rfl) rfl, sg1 (List.mem_of_getElem? (i := 8) rfl) rfl⟩, sg4 (List.mem_of_getElem? (i := 170) rfl) rfl, sg4 (List.mem_of_getElem? (i := 172) rfl) rfl, mc_sel (pr2 (List.mem_of_getElem? (i := 10) rfl))⟩
set_option maxRecDepth 20000 in
theorem kX7_75 : mc_CS RX7 75 yX7_in cX7_in 3 (some .boolean) 3 := ⟨⟨nv_RX7, pd_6, sg4 (List.mem_of_getElem? (i := 176) rfl) rfl, sg1 (List.mem_of_getElem? (i := 8) rfl) rfl⟩, sg4 (List.mem_of_getElem? (i := 174) rfl) rfl, sg4 (List.mem_of_getElem? (i := 175) rfl) rfl⟩
set_option maxRecDepth 20000 in
theorem kX7_105 : mc_CV RX7 105 yX7_wordFrom cX7_wordFrom 6 (some .int) 2 := ⟨⟨nv_RX7, pd_5, sg4 (List.mem_of_getElem? (i := 180) rfl) rfl, sg1 (List.mem_of_getElem? (i := 8) rfl) rfl⟩, sg4 (List.mem_of_getElem? (i := 177) rfl) rfl, sg4 (List.mem_of_getElem? (i := 179) rfl) rfl, mc_sel (pr2 (List.mem_of_getElem? (i := 11) rfl))⟩
set_option maxRecDepth 20000 in
theorem kX7_145 : mc_CV RX7 145 yX7_eRead cX7_eRead 4 (some .boolean) 0 := ⟨⟨nv_RX7, pd_10, sg4 (List.mem_of_getElem? (i := 184) rfl) rfl, sg1 (List.mem_of_getElem? (i := 8) rfl) rfl⟩, sg4 (List.mem_of_getElem? (i := 181) rfl) rfl, sg4 (List.mem_of_getElem? (i := 183) rfl) rfl, mc_sel (pr2 (List.mem_of_getElem? (i := 12) rfl))⟩
set_option maxRecDepth 20000 in
theorem qX7_135 : Cond.constant RX7 135 100000 ∈ mc_WS := sg4 (List.mem_of_getElem? (i := 185) rfl) rfl
set_option maxRecDepth 20000 in
theorem kX7_122 : mc_CV RX7 122 yX7_puts cX7_puts 2 none 1 := ⟨⟨nv_RX7, pd_9, sg4 (List.mem_of_getElem? (i := 189) rfl) rfl, sg1 (List.mem_of_getElem? (i := 8) rfl) rfl⟩, sg4 (List.mem_of_getElem? (i := 186) rfl) rfl, sg4 (List.mem_of_getElem? (i := 188) rfl) rfl, mc_sel (pr2 (List.mem_of_getElem? (i := 13) rfl))⟩
set_option maxRecDepth 20000 in
theorem kX7_129 : mc_CV RX7 129 yX7_unwinds cX7_unwinds 3 none 1 := ⟨⟨nv_RX7, pd_9, sg4 (List.mem_of_getElem? (i := 193) rfl) rfl, sg1 (List.mem_of_getElem? (i := 8) rfl) rfl⟩, sg4 (List.mem_of_getElem? (i := 190) rfl) rfl, sg4 (List.mem_of_getElem? (i := 192) rfl) rfl, mc_sel (pr2 (List.mem_of_getElem? (i := 14) rfl))⟩
set_option maxRecDepth 20000 in
theorem kX7_115 : mc_CS RX7 115 yX7_rank cX7_rank 1 (some .int) 1 := ⟨⟨nv_RX7, pd_3, sg4 (List.mem_of_getElem? (i := 196) rfl) rfl, sg1 (List.mem_of_getElem? (i := 8) rfl) rfl⟩, sg4 (List.mem_of_getElem? (i := 194) rfl) rfl, sg4 (List.mem_of_getElem? (i := 195) rfl) rfl⟩
set_option maxRecDepth 20000 in
theorem kX7_136 : mc_CV RX7 136 yX7_opensOne cX7_opensOne 2 (some .boolean) 1 := ⟨⟨nv_RX7, pd_7, sg4 (List.mem_of_getElem? (i := 200) rfl) rfl, sg1 (List.mem_of_getElem? (i := 8) rfl) rfl⟩, sg4 (List.mem_of_getElem? (i := 197) rfl) rfl, sg4 (List.mem_of_getElem? (i := 199) rfl) rfl, mc_sel (pr2 (List.mem_of_getElem? (i := 15) rfl))⟩
set_option maxRecDepth 20000 in
theorem kX7_126 : mc_CV RX7 126 yX7_holds cX7_holds 2 none 1 := ⟨⟨nv_RX7, pd_9, sg4 (List.mem_of_getElem? (i := 204) rfl) rfl, sg1 (List.mem_of_getElem? (i := 8) rfl) rfl⟩, sg4 (List.mem_of_getElem? (i := 201) rfl) rfl, sg4 (List.mem_of_getElem? (i := 203) rfl) rfl, mc_sel (pr3 (List.mem_of_getElem? (i := 0) rfl))⟩
set_option maxRecDepth 20000 in
theorem kX7_139 : mc_CV RX7 139 yX7_signOf cX7_signOf 1 (some .int) 0 := ⟨⟨nv_RX7, pd_4, sg4 (List.mem_of_getElem? (i := 208) rfl) rfl, sg1 (List.mem_of_getElem? (i := 8) rfl) rfl⟩, sg4 (List.mem_of_getElem? (i := 205) rfl) rfl, sg4 (List.mem_of_getElem? (i := 207) rfl) rfl, mc_sel (pr3 (List.mem_of_getElem? (i := 1) rfl))⟩
set_option maxRecDepth 20000 in
theorem kX7_142 : mc_CV RX7 142 yX7_between cX7_between 2 (some .boolean) 1 := ⟨⟨nv_RX7, pd_7, sg4 (List.mem_of_getElem? (i := 212) rfl) rfl, sg1 (List.mem_of_getElem? (i := 8) rfl) rfl⟩, sg4 (List.mem_of_getElem? (i := 209) rfl) rfl, sg4 (List.mem_of_getElem? (i := 211) rfl) rfl, mc_sel (pr3 (List.mem_of_getElem? (i := 2) rfl))⟩
set_option maxRecDepth 20000 in
theorem lX7_7 : Cond.fieldLink RX7 7 (TX7 0).1 (TX7 0).2.1 (TX7 0).2.2.1 ∈ mc_WS := sg4 (List.mem_of_getElem? (i := 213) rfl) rfl
set_option maxRecDepth 20000 in
theorem fX7_7 : mc_FL RX7 7 7 0 := ⟨RX7, TX7, 35, tyX7, mcf7, by decide, lX7_7⟩
set_option maxRecDepth 20000 in
theorem pX7_7 : mc_FP RX7 7 7 0 (tyX7 0) false := ⟨RX7, TX7, 35, tyX7, mcf7, by decide, lX7_7, tyX7_ok 0 (by decide), rfl, rfl⟩
set_option maxRecDepth 20000 in
theorem lX7_13 : Cond.fieldLink RX7 13 (TX7 1).1 (TX7 1).2.1 (TX7 1).2.2.1 ∈ mc_WS := sg4 (List.mem_of_getElem? (i := 214) rfl) rfl
set_option maxRecDepth 20000 in
theorem fX7_13 : mc_FL RX7 13 7 1 := ⟨RX7, TX7, 35, tyX7, mcf7, by decide, lX7_13⟩
set_option maxRecDepth 20000 in
theorem pX7_13 : mc_FP RX7 13 7 1 (tyX7 1) false := ⟨RX7, TX7, 35, tyX7, mcf7, by decide, lX7_13, tyX7_ok 1 (by decide), rfl, rfl⟩
set_option maxRecDepth 20000 in
theorem lX7_72 : Cond.fieldLink RX7 72 (TX7 2).1 (TX7 2).2.1 (TX7 2).2.2.1 ∈ mc_WS := sg4 (List.mem_of_getElem? (i := 215) rfl) rfl
set_option maxRecDepth 20000 in
theorem fX7_72 : mc_FL RX7 72 7 2 := ⟨RX7, TX7, 35, tyX7, mcf7, by decide, lX7_72⟩
set_option maxRecDepth 20000 in
theorem pX7_72 : mc_FP RX7 72 7 2 (tyX7 2) false := ⟨RX7, TX7, 35, tyX7, mcf7, by decide, lX7_72, tyX7_ok 2 (by decide), rfl, rfl⟩
set_option maxRecDepth 20000 in
theorem lX7_16 : Cond.fieldLink RX7 16 (TX7 3).1 (TX7 3).2.1 (TX7 3).2.2.1 ∈ mc_WS := sg4 (List.mem_of_getElem? (i := 216) rfl) rfl
set_option maxRecDepth 20000 in
theorem fX7_16 : mc_FL RX7 16 7 3 := ⟨RX7, TX7, 35, tyX7, mcf7, by decide, lX7_16⟩
set_option maxRecDepth 20000 in
theorem pX7_16 : mc_FP RX7 16 7 3 (tyX7 3) true := ⟨RX7, TX7, 35, tyX7, mcf7, by decide, lX7_16, tyX7_ok 3 (by decide), rfl, rfl⟩
set_option maxRecDepth 20000 in
theorem lX7_20 : Cond.fieldLink RX7 20 (TX7 4).1 (TX7 4).2.1 (TX7 4).2.2.1 ∈ mc_WS := sg4 (List.mem_of_getElem? (i := 217) rfl) rfl
set_option maxRecDepth 20000 in
theorem fX7_20 : mc_FL RX7 20 7 4 := ⟨RX7, TX7, 35, tyX7, mcf7, by decide, lX7_20⟩
set_option maxRecDepth 20000 in
theorem pX7_20 : mc_FP RX7 20 7 4 (tyX7 4) true := ⟨RX7, TX7, 35, tyX7, mcf7, by decide, lX7_20, tyX7_ok 4 (by decide), rfl, rfl⟩
set_option maxRecDepth 20000 in
theorem lX7_23 : Cond.fieldLink RX7 23 (TX7 5).1 (TX7 5).2.1 (TX7 5).2.2.1 ∈ mc_WS := sg4 (List.mem_of_getElem? (i := 218) rfl) rfl
set_option maxRecDepth 20000 in
theorem fX7_23 : mc_FL RX7 23 7 5 := ⟨RX7, TX7, 35, tyX7, mcf7, by decide, lX7_23⟩
set_option maxRecDepth 20000 in
theorem pX7_23 : mc_FP RX7 23 7 5 (tyX7 5) true := ⟨RX7, TX7, 35, tyX7, mcf7, by decide, lX7_23, tyX7_ok 5 (by decide), rfl, rfl⟩
set_option maxRecDepth 20000 in
theorem lX7_26 : Cond.fieldLink RX7 26 (TX7 6).1 (TX7 6).2.1 (TX7 6).2.2.1 ∈ mc_WS := sg4 (List.mem_of_getElem? (i := 219) rfl) rfl
set_option maxRecDepth 20000 in
theorem fX7_26 : mc_FL RX7 26 7 6 := ⟨RX7, TX7, 35, tyX7, mcf7, by decide, lX7_26⟩
set_option maxRecDepth 20000 in
theorem pX7_26 : mc_FP RX7 26 7 6 (tyX7 6) true := ⟨RX7, TX7, 35, tyX7, mcf7, by decide, lX7_26, tyX7_ok 6 (by decide), rfl, rfl⟩
set_option maxRecDepth 20000 in
theorem lX7_65 : Cond.fieldLink RX7 65 (TX7 7).1 (TX7 7).2.1 (TX7 7).2.2.1 ∈ mc_WS := sg4 (List.mem_of_getElem? (i := 220) rfl) rfl
set_option maxRecDepth 20000 in
theorem fX7_65 : mc_FL RX7 65 7 7 := ⟨RX7, TX7, 35, tyX7, mcf7, by decide, lX7_65⟩
set_option maxRecDepth 20000 in
theorem pX7_65 : mc_FP RX7 65 7 7 (tyX7 7) false := ⟨RX7, TX7, 35, tyX7, mcf7, by decide, lX7_65, tyX7_ok 7 (by decide), rfl, rfl⟩
set_option maxRecDepth 20000 in
theorem lX7_29 : Cond.fieldLink RX7 29 (TX7 8).1 (TX7 8).2.1 (TX7 8).2.2.1 ∈ mc_WS := sg4 (List.mem_of_getElem? (i := 221) rfl) rfl
set_option maxRecDepth 20000 in
theorem fX7_29 : mc_FL RX7 29 7 8 := ⟨RX7, TX7, 35, tyX7, mcf7, by decide, lX7_29⟩
set_option maxRecDepth 20000 in
theorem pX7_29 : mc_FP RX7 29 7 8 (tyX7 8) true := ⟨RX7, TX7, 35, tyX7, mcf7, by decide, lX7_29, tyX7_ok 8 (by decide), rfl, rfl⟩
set_option maxRecDepth 20000 in
theorem lX7_32 : Cond.fieldLink RX7 32 (TX7 9).1 (TX7 9).2.1 (TX7 9).2.2.1 ∈ mc_WS := sg4 (List.mem_of_getElem? (i := 222) rfl) rfl
set_option maxRecDepth 20000 in
theorem fX7_32 : mc_FL RX7 32 7 9 := ⟨RX7, TX7, 35, tyX7, mcf7, by decide, lX7_32⟩
set_option maxRecDepth 20000 in
theorem pX7_32 : mc_FP RX7 32 7 9 (tyX7 9) true := ⟨RX7, TX7, 35, tyX7, mcf7, by decide, lX7_32, tyX7_ok 9 (by decide), rfl, rfl⟩
set_option maxRecDepth 20000 in
theorem lX7_80 : Cond.fieldLink RX7 80 (TX7 10).1 (TX7 10).2.1 (TX7 10).2.2.1 ∈ mc_WS := sg4 (List.mem_of_getElem? (i := 223) rfl) rfl
set_option maxRecDepth 20000 in
theorem fX7_80 : mc_FL RX7 80 7 10 := ⟨RX7, TX7, 35, tyX7, mcf7, by decide, lX7_80⟩
set_option maxRecDepth 20000 in
theorem pX7_80 : mc_FP RX7 80 7 10 (tyX7 10) false := ⟨RX7, TX7, 35, tyX7, mcf7, by decide, lX7_80, tyX7_ok 10 (by decide), rfl, rfl⟩
set_option maxRecDepth 20000 in
theorem lX7_83 : Cond.fieldLink RX7 83 (TX7 11).1 (TX7 11).2.1 (TX7 11).2.2.1 ∈ mc_WS := sg4 (List.mem_of_getElem? (i := 224) rfl) rfl
set_option maxRecDepth 20000 in
theorem fX7_83 : mc_FL RX7 83 7 11 := ⟨RX7, TX7, 35, tyX7, mcf7, by decide, lX7_83⟩
set_option maxRecDepth 20000 in
theorem pX7_83 : mc_FP RX7 83 7 11 (tyX7 11) false := ⟨RX7, TX7, 35, tyX7, mcf7, by decide, lX7_83, tyX7_ok 11 (by decide), rfl, rfl⟩
set_option maxRecDepth 20000 in
theorem lX7_292 : Cond.fieldLink RX7 292 (TX7 12).1 (TX7 12).2.1 (TX7 12).2.2.1 ∈ mc_WS := sg4 (List.mem_of_getElem? (i := 225) rfl) rfl
set_option maxRecDepth 20000 in
theorem fX7_292 : mc_FL RX7 292 7 12 := ⟨RX7, TX7, 35, tyX7, mcf7, by decide, lX7_292⟩
set_option maxRecDepth 20000 in
theorem pX7_292 : mc_FP RX7 292 7 12 (tyX7 12) false := ⟨RX7, TX7, 35, tyX7, mcf7, by decide, lX7_292, tyX7_ok 12 (by decide), rfl, rfl⟩
set_option maxRecDepth 20000 in
theorem lX7_296 : Cond.fieldLink RX7 296 (TX7 13).1 (TX7 13).2.1 (TX7 13).2.2.1 ∈ mc_WS := sg4 (List.mem_of_getElem? (i := 226) rfl) rfl
set_option maxRecDepth 20000 in
theorem fX7_296 : mc_FL RX7 296 7 13 := ⟨RX7, TX7, 35, tyX7, mcf7, by decide, lX7_296⟩
set_option maxRecDepth 20000 in
theorem pX7_296 : mc_FP RX7 296 7 13 (tyX7 13) false := ⟨RX7, TX7, 35, tyX7, mcf7, by decide, lX7_296, tyX7_ok 13 (by decide), rfl, rfl⟩
set_option maxRecDepth 20000 in
theorem lX7_299 : Cond.fieldLink RX7 299 (TX7 14).1 (TX7 14).2.1 (TX7 14).2.2.1 ∈ mc_WS := sg4 (List.mem_of_getElem? (i := 227) rfl) rfl
set_option maxRecDepth 20000 in
theorem fX7_299 : mc_FL RX7 299 7 14 := ⟨RX7, TX7, 35, tyX7, mcf7, by decide, lX7_299⟩
set_option maxRecDepth 20000 in
theorem pX7_299 : mc_FP RX7 299 7 14 (tyX7 14) false := ⟨RX7, TX7, 35, tyX7, mcf7, by decide, lX7_299, tyX7_ok 14 (by decide), rfl, rfl⟩
set_option maxRecDepth 20000 in
theorem lX7_302 : Cond.fieldLink RX7 302 (TX7 15).1 (TX7 15).2.1 (TX7 15).2.2.1 ∈ mc_WS := sg4 (List.mem_of_getElem? (i := 228) rfl) rfl
set_option maxRecDepth 20000 in
theorem fX7_302 : mc_FL RX7 302 7 15 := ⟨RX7, TX7, 35, tyX7, mcf7, by decide, lX7_302⟩
set_option maxRecDepth 20000 in
theorem pX7_302 : mc_FP RX7 302 7 15 (tyX7 15) false := ⟨RX7, TX7, 35, tyX7, mcf7, by decide, lX7_302, tyX7_ok 15 (by decide), rfl, rfl⟩
set_option maxRecDepth 20000 in
theorem lX7_305 : Cond.fieldLink RX7 305 (TX7 16).1 (TX7 16).2.1 (TX7 16).2.2.1 ∈ mc_WS := sg4 (List.mem_of_getElem? (i := 229) rfl) rfl
set_option maxRecDepth 20000 in
theorem fX7_305 : mc_FL RX7 305 7 16 := ⟨RX7, TX7, 35, tyX7, mcf7, by decide, lX7_305⟩
set_option maxRecDepth 20000 in
theorem pX7_305 : mc_FP RX7 305 7 16 (tyX7 16) false := ⟨RX7, TX7, 35, tyX7, mcf7, by decide, lX7_305, tyX7_ok 16 (by decide), rfl, rfl⟩
set_option maxRecDepth 20000 in
theorem lX7_35 : Cond.fieldLink RX7 35 (TX7 17).1 (TX7 17).2.1 (TX7 17).2.2.1 ∈ mc_WS := sg4 (List.mem_of_getElem? (i := 230) rfl) rfl
set_option maxRecDepth 20000 in
theorem fX7_35 : mc_FL RX7 35 7 17 := ⟨RX7, TX7, 35, tyX7, mcf7, by decide, lX7_35⟩
set_option maxRecDepth 20000 in
theorem pX7_35 : mc_FP RX7 35 7 17 (tyX7 17) true := ⟨RX7, TX7, 35, tyX7, mcf7, by decide, lX7_35, tyX7_ok 17 (by decide), rfl, rfl⟩
set_option maxRecDepth 20000 in
theorem lX7_38 : Cond.fieldLink RX7 38 (TX7 18).1 (TX7 18).2.1 (TX7 18).2.2.1 ∈ mc_WS := sg4 (List.mem_of_getElem? (i := 231) rfl) rfl
set_option maxRecDepth 20000 in
theorem fX7_38 : mc_FL RX7 38 7 18 := ⟨RX7, TX7, 35, tyX7, mcf7, by decide, lX7_38⟩
set_option maxRecDepth 20000 in
theorem pX7_38 : mc_FP RX7 38 7 18 (tyX7 18) true := ⟨RX7, TX7, 35, tyX7, mcf7, by decide, lX7_38, tyX7_ok 18 (by decide), rfl, rfl⟩
set_option maxRecDepth 20000 in
theorem lX7_41 : Cond.fieldLink RX7 41 (TX7 19).1 (TX7 19).2.1 (TX7 19).2.2.1 ∈ mc_WS := sg4 (List.mem_of_getElem? (i := 232) rfl) rfl
set_option maxRecDepth 20000 in
theorem fX7_41 : mc_FL RX7 41 7 19 := ⟨RX7, TX7, 35, tyX7, mcf7, by decide, lX7_41⟩
set_option maxRecDepth 20000 in
theorem pX7_41 : mc_FP RX7 41 7 19 (tyX7 19) true := ⟨RX7, TX7, 35, tyX7, mcf7, by decide, lX7_41, tyX7_ok 19 (by decide), rfl, rfl⟩
set_option maxRecDepth 20000 in
theorem lX7_44 : Cond.fieldLink RX7 44 (TX7 20).1 (TX7 20).2.1 (TX7 20).2.2.1 ∈ mc_WS := sg4 (List.mem_of_getElem? (i := 233) rfl) rfl
set_option maxRecDepth 20000 in
theorem fX7_44 : mc_FL RX7 44 7 20 := ⟨RX7, TX7, 35, tyX7, mcf7, by decide, lX7_44⟩
set_option maxRecDepth 20000 in
theorem pX7_44 : mc_FP RX7 44 7 20 (tyX7 20) true := ⟨RX7, TX7, 35, tyX7, mcf7, by decide, lX7_44, tyX7_ok 20 (by decide), rfl, rfl⟩
set_option maxRecDepth 20000 in
theorem lX7_47 : Cond.fieldLink RX7 47 (TX7 21).1 (TX7 21).2.1 (TX7 21).2.2.1 ∈ mc_WS := sg4 (List.mem_of_getElem? (i := 234) rfl) rfl
set_option maxRecDepth 20000 in
theorem fX7_47 : mc_FL RX7 47 7 21 := ⟨RX7, TX7, 35, tyX7, mcf7, by decide, lX7_47⟩
set_option maxRecDepth 20000 in
theorem pX7_47 : mc_FP RX7 47 7 21 (tyX7 21) true := ⟨RX7, TX7, 35, tyX7, mcf7, by decide, lX7_47, tyX7_ok 21 (by decide), rfl, rfl⟩
set_option maxRecDepth 20000 in
theorem lX7_93 : Cond.fieldLink RX7 93 (TX7 22).1 (TX7 22).2.1 (TX7 22).2.2.1 ∈ mc_WS := sg4 (List.mem_of_getElem? (i := 235) rfl) rfl
set_option maxRecDepth 20000 in
theorem fX7_93 : mc_FL RX7 93 7 22 := ⟨RX7, TX7, 35, tyX7, mcf7, by decide, lX7_93⟩
set_option maxRecDepth 20000 in
theorem pX7_93 : mc_FP RX7 93 7 22 (tyX7 22) false := ⟨RX7, TX7, 35, tyX7, mcf7, by decide, lX7_93, tyX7_ok 22 (by decide), rfl, rfl⟩
set_option maxRecDepth 20000 in
theorem lX7_96 : Cond.fieldLink RX7 96 (TX7 23).1 (TX7 23).2.1 (TX7 23).2.2.1 ∈ mc_WS := sg4 (List.mem_of_getElem? (i := 236) rfl) rfl
set_option maxRecDepth 20000 in
theorem fX7_96 : mc_FL RX7 96 7 23 := ⟨RX7, TX7, 35, tyX7, mcf7, by decide, lX7_96⟩
set_option maxRecDepth 20000 in
theorem pX7_96 : mc_FP RX7 96 7 23 (tyX7 23) false := ⟨RX7, TX7, 35, tyX7, mcf7, by decide, lX7_96, tyX7_ok 23 (by decide), rfl, rfl⟩
set_option maxRecDepth 20000 in
theorem lX7_99 : Cond.fieldLink RX7 99 (TX7 24).1 (TX7 24).2.1 (TX7 24).2.2.1 ∈ mc_WS := sg4 (List.mem_of_getElem? (i := 237) rfl) rfl
set_option maxRecDepth 20000 in
theorem fX7_99 : mc_FL RX7 99 7 24 := ⟨RX7, TX7, 35, tyX7, mcf7, by decide, lX7_99⟩
set_option maxRecDepth 20000 in
theorem pX7_99 : mc_FP RX7 99 7 24 (tyX7 24) false := ⟨RX7, TX7, 35, tyX7, mcf7, by decide, lX7_99, tyX7_ok 24 (by decide), rfl, rfl⟩
set_option maxRecDepth 20000 in
theorem lX7_102 : Cond.fieldLink RX7 102 (TX7 25).1 (TX7 25).2.1 (TX7 25).2.2.1 ∈ mc_WS := sg4 (List.mem_of_getElem? (i := 238) rfl) rfl
set_option maxRecDepth 20000 in
theorem fX7_102 : mc_FL RX7 102 7 25 := ⟨RX7, TX7, 35, tyX7, mcf7, by decide, lX7_102⟩
set_option maxRecDepth 20000 in
theorem pX7_102 : mc_FP RX7 102 7 25 (tyX7 25) false := ⟨RX7, TX7, 35, tyX7, mcf7, by decide, lX7_102, tyX7_ok 25 (by decide), rfl, rfl⟩
set_option maxRecDepth 20000 in
theorem lX7_50 : Cond.fieldLink RX7 50 (TX7 26).1 (TX7 26).2.1 (TX7 26).2.2.1 ∈ mc_WS := sg4 (List.mem_of_getElem? (i := 239) rfl) rfl
set_option maxRecDepth 20000 in
theorem fX7_50 : mc_FL RX7 50 7 26 := ⟨RX7, TX7, 35, tyX7, mcf7, by decide, lX7_50⟩
set_option maxRecDepth 20000 in
theorem pX7_50 : mc_FP RX7 50 7 26 (tyX7 26) true := ⟨RX7, TX7, 35, tyX7, mcf7, by decide, lX7_50, tyX7_ok 26 (by decide), rfl, rfl⟩
set_option maxRecDepth 20000 in
theorem lX7_53 : Cond.fieldLink RX7 53 (TX7 27).1 (TX7 27).2.1 (TX7 27).2.2.1 ∈ mc_WS := sg5 (List.mem_of_getElem? (i := 0) rfl) rfl
set_option maxRecDepth 20000 in
theorem fX7_53 : mc_FL RX7 53 7 27 := ⟨RX7, TX7, 35, tyX7, mcf7, by decide, lX7_53⟩
set_option maxRecDepth 20000 in
theorem pX7_53 : mc_FP RX7 53 7 27 (tyX7 27) true := ⟨RX7, TX7, 35, tyX7, mcf7, by decide, lX7_53, tyX7_ok 27 (by decide), rfl, rfl⟩
set_option maxRecDepth 20000 in
theorem lX7_112 : Cond.fieldLink RX7 112 (TX7 28).1 (TX7 28).2.1 (TX7 28).2.2.1 ∈ mc_WS := sg5 (List.mem_of_getElem? (i := 1) rfl) rfl
set_option maxRecDepth 20000 in
theorem fX7_112 : mc_FL RX7 112 7 28 := ⟨RX7, TX7, 35, tyX7, mcf7, by decide, lX7_112⟩
set_option maxRecDepth 20000 in
theorem pX7_112 : mc_FP RX7 112 7 28 (tyX7 28) false := ⟨RX7, TX7, 35, tyX7, mcf7, by decide, lX7_112, tyX7_ok 28 (by decide), rfl, rfl⟩
set_option maxRecDepth 20000 in
theorem lX7_119 : Cond.fieldLink RX7 119 (TX7 29).1 (TX7 29).2.1 (TX7 29).2.2.1 ∈ mc_WS := sg5 (List.mem_of_getElem? (i := 2) rfl) rfl
set_option maxRecDepth 20000 in
theorem fX7_119 : mc_FL RX7 119 7 29 := ⟨RX7, TX7, 35, tyX7, mcf7, by decide, lX7_119⟩
set_option maxRecDepth 20000 in
theorem pX7_119 : mc_FP RX7 119 7 29 (tyX7 29) false := ⟨RX7, TX7, 35, tyX7, mcf7, by decide, lX7_119, tyX7_ok 29 (by decide), rfl, rfl⟩
set_option maxRecDepth 20000 in
theorem lX7_109 : Cond.fieldLink RX7 109 (TX7 30).1 (TX7 30).2.1 (TX7 30).2.2.1 ∈ mc_WS := sg5 (List.mem_of_getElem? (i := 3) rfl) rfl
set_option maxRecDepth 20000 in
theorem fX7_109 : mc_FL RX7 109 7 30 := ⟨RX7, TX7, 35, tyX7, mcf7, by decide, lX7_109⟩
set_option maxRecDepth 20000 in
theorem pX7_109 : mc_FP RX7 109 7 30 (tyX7 30) false := ⟨RX7, TX7, 35, tyX7, mcf7, by decide, lX7_109, tyX7_ok 30 (by decide), rfl, rfl⟩
set_option maxRecDepth 20000 in
theorem lX7_56 : Cond.fieldLink RX7 56 (TX7 31).1 (TX7 31).2.1 (TX7 31).2.2.1 ∈ mc_WS := sg5 (List.mem_of_getElem? (i := 4) rfl) rfl
set_option maxRecDepth 20000 in
theorem fX7_56 : mc_FL RX7 56 7 31 := ⟨RX7, TX7, 35, tyX7, mcf7, by decide, lX7_56⟩
set_option maxRecDepth 20000 in
theorem pX7_56 : mc_FP RX7 56 7 31 (tyX7 31) true := ⟨RX7, TX7, 35, tyX7, mcf7, by decide, lX7_56, tyX7_ok 31 (by decide), rfl, rfl⟩
set_option maxRecDepth 20000 in
theorem lX7_59 : Cond.fieldLink RX7 59 (TX7 32).1 (TX7 32).2.1 (TX7 32).2.2.1 ∈ mc_WS := sg5 (List.mem_of_getElem? (i := 5) rfl) rfl
set_option maxRecDepth 20000 in
theorem fX7_59 : mc_FL RX7 59 7 32 := ⟨RX7, TX7, 35, tyX7, mcf7, by decide, lX7_59⟩
set_option maxRecDepth 20000 in
theorem pX7_59 : mc_FP RX7 59 7 32 (tyX7 32) true := ⟨RX7, TX7, 35, tyX7, mcf7, by decide, lX7_59, tyX7_ok 32 (by decide), rfl, rfl⟩
set_option maxRecDepth 20000 in
theorem lX7_62 : Cond.fieldLink RX7 62 (TX7 33).1 (TX7 33).2.1 (TX7 33).2.2.1 ∈ mc_WS := sg5 (List.mem_of_getElem? (i := 6) rfl) rfl
set_option maxRecDepth 20000 in
theorem fX7_62 : mc_FL RX7 62 7 33 := ⟨RX7, TX7, 35, tyX7, mcf7, by decide, lX7_62⟩
set_option maxRecDepth 20000 in
theorem pX7_62 : mc_FP RX7 62 7 33 (tyX7 33) true := ⟨RX7, TX7, 35, tyX7, mcf7, by decide, lX7_62, tyX7_ok 33 (by decide), rfl, rfl⟩
set_option maxRecDepth 20000 in
theorem lX7_175 : Cond.fieldLink RX7 175 (TX7 34).1 (TX7 34).2.1 (TX7 34).2.2.1 ∈ mc_WS := sg5 (List.mem_of_getElem? (i := 7) rfl) rfl
set_option maxRecDepth 20000 in
theorem fX7_175 : mc_FL RX7 175 7 34 := ⟨RX7, TX7, 35, tyX7, mcf7, by decide, lX7_175⟩
set_option maxRecDepth 20000 in
theorem pX7_175 : mc_FP RX7 175 7 34 (tyX7 34) false := ⟨RX7, TX7, 35, tyX7, mcf7, by decide, lX7_175, tyX7_ok 34 (by decide), rfl, rfl⟩
set_option maxRecDepth 20000 in
theorem kL_17 : mc_CV "NoZeroWithinLaw" 17 yX7_count cX7_count 2 (some .int) 1 := ⟨⟨nv_RX7, pd_3, sg5 (List.mem_of_getElem? (i := 82) rfl) rfl, sg1 (List.mem_of_getElem? (i := 8) rfl) rfl⟩, sg5 (List.mem_of_getElem? (i := 79) rfl) rfl, sg5 (List.mem_of_getElem? (i := 80) rfl) rfl, sg5 (List.mem_of_getElem? (i := 81) rfl) rfl⟩
set_option maxRecDepth 20000 in
theorem kL_22 : mc_CV "NoZeroWithinLaw" 22 yX7_set cX7_set 4 (some .int) 2 := ⟨⟨nv_RX7, pd_5, sg5 (List.mem_of_getElem? (i := 86) rfl) rfl, sg1 (List.mem_of_getElem? (i := 8) rfl) rfl⟩, sg5 (List.mem_of_getElem? (i := 83) rfl) rfl, sg5 (List.mem_of_getElem? (i := 84) rfl) rfl, sg5 (List.mem_of_getElem? (i := 85) rfl) rfl⟩
set_option maxRecDepth 20000 in
theorem kX7_86 : mc_CS RX7 86 yX7_isYear cX7_isYear 1 (some .boolean) 1 := ⟨⟨nv_RX7, pd_7, sg5 (List.mem_of_getElem? (i := 89) rfl) rfl, sg1 (List.mem_of_getElem? (i := 8) rfl) rfl⟩, sg5 (List.mem_of_getElem? (i := 87) rfl) rfl, sg5 (List.mem_of_getElem? (i := 88) rfl) rfl⟩
set_option maxRecDepth 20000 in
theorem kL_27 : mc_CV "NoZeroWithinLaw" 27 yX7_feed cX7_feed 8 (some .int) 6 := ⟨⟨nv_RX7, pd_8, sg5 (List.mem_of_getElem? (i := 93) rfl) rfl, sg1 (List.mem_of_getElem? (i := 8) rfl) rfl⟩, sg5 (List.mem_of_getElem? (i := 90) rfl) rfl, sg5 (List.mem_of_getElem? (i := 91) rfl) rfl, sg5 (List.mem_of_getElem? (i := 92) rfl) rfl⟩
set_option maxRecDepth 20000 in
theorem kX7_90 : mc_CS RX7 90 yX7_isByte cX7_isByte 1 (some .boolean) 1 := ⟨⟨nv_RX7, pd_7, sg5 (List.mem_of_getElem? (i := 96) rfl) rfl, sg1 (List.mem_of_getElem? (i := 8) rfl) rfl⟩, sg5 (List.mem_of_getElem? (i := 94) rfl) rfl, sg5 (List.mem_of_getElem? (i := 95) rfl) rfl⟩
set_option maxRecDepth 20000 in
theorem kL_32 : mc_CV "NoZeroWithinLaw" 32 yX7_text cX7_text 3 (some .int) 0 := ⟨⟨nv_RX7, pd_4, sg4 (List.mem_of_getElem? (i := 169) rfl) rfl, sg1 (List.mem_of_getElem? (i := 8) rfl) rfl⟩, sg5 (List.mem_of_getElem? (i := 97) rfl) rfl, sg4 (List.mem_of_getElem? (i := 167) rfl) rfl, sg4 (List.mem_of_getElem? (i := 168) rfl) rfl⟩
set_option maxRecDepth 20000 in
theorem kL_36 : mc_CV "NoZeroWithinLaw" 36 yX7_force cX7_force 3 (some .int) 1 := ⟨⟨nv_RX7, pd_3, sg5 (List.mem_of_getElem? (i := 101) rfl) rfl, sg1 (List.mem_of_getElem? (i := 8) rfl) rfl⟩, sg5 (List.mem_of_getElem? (i := 98) rfl) rfl, sg5 (List.mem_of_getElem? (i := 99) rfl) rfl, sg5 (List.mem_of_getElem? (i := 100) rfl) rfl⟩
set_option maxRecDepth 20000 in
theorem kL_41 : mc_CV "NoZeroWithinLaw" 41 yX7_asks cX7_asks 5 (some .int) 4 := ⟨⟨nv_RX7, pd_21, sg5 (List.mem_of_getElem? (i := 105) rfl) rfl, sg1 (List.mem_of_getElem? (i := 8) rfl) rfl⟩, sg5 (List.mem_of_getElem? (i := 102) rfl) rfl, sg5 (List.mem_of_getElem? (i := 103) rfl) rfl, sg5 (List.mem_of_getElem? (i := 104) rfl) rfl⟩
set_option maxRecDepth 20000 in
theorem kX7_159 : mc_CV RX7 159 yX7_isClerk cX7_isClerk 2 (some .boolean) 1 := ⟨⟨nv_RX7, pd_7, sg5 (List.mem_of_getElem? (i := 109) rfl) rfl, sg1 (List.mem_of_getElem? (i := 8) rfl) rfl⟩, sg5 (List.mem_of_getElem? (i := 106) rfl) rfl, sg5 (List.mem_of_getElem? (i := 108) rfl) rfl, mc_sel (pr3 (List.mem_of_getElem? (i := 3) rfl))⟩
set_option maxRecDepth 20000 in
theorem kX7_162 : mc_CS RX7 162 yX7_isNumber cX7_isNumber 1 (some .boolean) 1 := ⟨⟨nv_RX7, pd_7, sg5 (List.mem_of_getElem? (i := 112) rfl) rfl, sg1 (List.mem_of_getElem? (i := 8) rfl) rfl⟩, sg5 (List.mem_of_getElem? (i := 110) rfl) rfl, sg5 (List.mem_of_getElem? (i := 111) rfl) rfl⟩
set_option maxRecDepth 20000 in
theorem qX7_79 : Cond.constant RX7 79 99999 ∈ mc_WS := sg5 (List.mem_of_getElem? (i := 113) rfl) rfl
set_option maxRecDepth 20000 in
theorem kX7_165 : mc_CV RX7 165 yX7_asksOf cX7_asksOf 5 (some .int) 4 := ⟨⟨nv_RX7, pd_21, sg5 (List.mem_of_getElem? (i := 117) rfl) rfl, sg1 (List.mem_of_getElem? (i := 8) rfl) rfl⟩, sg5 (List.mem_of_getElem? (i := 114) rfl) rfl, sg5 (List.mem_of_getElem? (i := 116) rfl) rfl, mc_sel (pr3 (List.mem_of_getElem? (i := 4) rfl))⟩
set_option maxRecDepth 20000 in
theorem kX7_153 : mc_CV RX7 153 yX7_says cX7_says 5 (some .int) 1 := ⟨⟨nv_RX7, pd_3, sg5 (List.mem_of_getElem? (i := 121) rfl) rfl, sg1 (List.mem_of_getElem? (i := 8) rfl) rfl⟩, sg5 (List.mem_of_getElem? (i := 118) rfl) rfl, sg5 (List.mem_of_getElem? (i := 120) rfl) rfl, mc_sel (pr3 (List.mem_of_getElem? (i := 5) rfl))⟩
set_option maxRecDepth 20000 in
theorem kX7_149 : mc_CS RX7 149 yX7_two cX7_two 3 (some .int) 3 := ⟨⟨nv_RX7, pd_26, sg5 (List.mem_of_getElem? (i := 124) rfl) rfl, sg1 (List.mem_of_getElem? (i := 8) rfl) rfl⟩, sg5 (List.mem_of_getElem? (i := 122) rfl) rfl, sg5 (List.mem_of_getElem? (i := 123) rfl) rfl⟩
set_option maxRecDepth 20000 in
theorem kX7_156 : mc_CS RX7 156 yX7_within cX7_within 3 (some .int) 3 := ⟨⟨nv_RX7, pd_26, sg5 (List.mem_of_getElem? (i := 127) rfl) rfl, sg1 (List.mem_of_getElem? (i := 8) rfl) rfl⟩, sg5 (List.mem_of_getElem? (i := 125) rfl) rfl, sg5 (List.mem_of_getElem? (i := 126) rfl) rfl⟩
set_option maxRecDepth 20000 in
theorem kL_45 : mc_CV "NoZeroWithinLaw" 45 yX7_clerk cX7_clerk 3 (some .int) 2 := ⟨⟨nv_RX7, pd_5, sg5 (List.mem_of_getElem? (i := 131) rfl) rfl, sg1 (List.mem_of_getElem? (i := 8) rfl) rfl⟩, sg5 (List.mem_of_getElem? (i := 128) rfl) rfl, sg5 (List.mem_of_getElem? (i := 129) rfl) rfl, sg5 (List.mem_of_getElem? (i := 130) rfl) rfl⟩
set_option maxRecDepth 20000 in
theorem kL_49 : mc_CV "NoZeroWithinLaw" 49 yX7_told cX7_told 3 (some .int) 2 := ⟨⟨nv_RX7, pd_5, sg5 (List.mem_of_getElem? (i := 135) rfl) rfl, sg1 (List.mem_of_getElem? (i := 8) rfl) rfl⟩, sg5 (List.mem_of_getElem? (i := 132) rfl) rfl, sg5 (List.mem_of_getElem? (i := 133) rfl) rfl, sg5 (List.mem_of_getElem? (i := 134) rfl) rfl⟩
set_option maxRecDepth 20000 in
theorem kX7_169 : mc_CV RX7 169 yX7_figuresOf cX7_figuresOf 3 (some .int) 1 := ⟨⟨nv_RX7, pd_3, sg5 (List.mem_of_getElem? (i := 139) rfl) rfl, sg1 (List.mem_of_getElem? (i := 8) rfl) rfl⟩, sg5 (List.mem_of_getElem? (i := 136) rfl) rfl, sg5 (List.mem_of_getElem? (i := 138) rfl) rfl, mc_sel (pr3 (List.mem_of_getElem? (i := 6) rfl))⟩
set_option maxRecDepth 20000 in
theorem kX7_172 : mc_CV RX7 172 yX7_isTurned cX7_isTurned 2 (some .boolean) 1 := ⟨⟨nv_RX7, pd_7, sg5 (List.mem_of_getElem? (i := 143) rfl) rfl, sg1 (List.mem_of_getElem? (i := 8) rfl) rfl⟩, sg5 (List.mem_of_getElem? (i := 140) rfl) rfl, sg5 (List.mem_of_getElem? (i := 142) rfl) rfl, mc_sel (pr3 (List.mem_of_getElem? (i := 7) rfl))⟩
set_option maxRecDepth 20000 in
theorem kL_54 : mc_CV "NoZeroWithinLaw" 54 yX7_figure cX7_figure 4 (some .int) 3 := ⟨⟨nv_RX7, pd_26, sg5 (List.mem_of_getElem? (i := 147) rfl) rfl, sg1 (List.mem_of_getElem? (i := 8) rfl) rfl⟩, sg5 (List.mem_of_getElem? (i := 144) rfl) rfl, sg5 (List.mem_of_getElem? (i := 145) rfl) rfl, sg5 (List.mem_of_getElem? (i := 146) rfl) rfl⟩
set_option maxRecDepth 20000 in
theorem kX7_186 : mc_CV RX7 186 yX7_writes cX7_writes 6 none 2 := ⟨⟨nv_RX7, pd_15, sg5 (List.mem_of_getElem? (i := 151) rfl) rfl, sg1 (List.mem_of_getElem? (i := 8) rfl) rfl⟩, sg5 (List.mem_of_getElem? (i := 148) rfl) rfl, sg5 (List.mem_of_getElem? (i := 150) rfl) rfl, mc_sel (pr3 (List.mem_of_getElem? (i := 8) rfl))⟩
set_option maxRecDepth 20000 in
theorem kX7_178 : mc_CV RX7 178 yX7_makesOf cX7_makesOf 4 (some .int) 2 := ⟨⟨nv_RX7, pd_5, sg5 (List.mem_of_getElem? (i := 155) rfl) rfl, sg1 (List.mem_of_getElem? (i := 8) rfl) rfl⟩, sg5 (List.mem_of_getElem? (i := 152) rfl) rfl, sg5 (List.mem_of_getElem? (i := 154) rfl) rfl, mc_sel (pr3 (List.mem_of_getElem? (i := 9) rfl))⟩
set_option maxRecDepth 20000 in
theorem kX7_181 : mc_CV RX7 181 yX7_turnsFigures cX7_turnsFigures 3 none 0 := ⟨⟨nv_RX7, pd_0, sg5 (List.mem_of_getElem? (i := 159) rfl) rfl, sg1 (List.mem_of_getElem? (i := 8) rfl) rfl⟩, sg5 (List.mem_of_getElem? (i := 156) rfl) rfl, sg5 (List.mem_of_getElem? (i := 158) rfl) rfl, mc_sel (pr3 (List.mem_of_getElem? (i := 10) rfl))⟩
set_option maxRecDepth 20000 in
theorem kL_59 : mc_CV "NoZeroWithinLaw" 59 yX7_reads cX7_reads 5 (some .long) 2 := ⟨⟨nv_RX7, pd_29, sg5 (List.mem_of_getElem? (i := 163) rfl) rfl, sg1 (List.mem_of_getElem? (i := 8) rfl) rfl⟩, sg5 (List.mem_of_getElem? (i := 160) rfl) rfl, sg5 (List.mem_of_getElem? (i := 161) rfl) rfl, sg5 (List.mem_of_getElem? (i := 162) rfl) rfl⟩
set_option maxRecDepth 20000 in
theorem qX7_190 : Cond.constantLong RX7 190 (-5) ∈ mc_WS := sg5 (List.mem_of_getElem? (i := 164) rfl) rfl
set_option maxRecDepth 20000 in
theorem qX7_192 : Cond.constantLong RX7 192 (-7) ∈ mc_WS := sg5 (List.mem_of_getElem? (i := 165) rfl) rfl
set_option maxRecDepth 20000 in
theorem kX7_194 : mc_CV RX7 194 yX7_readsBy cX7_readsBy 6 (some .long) 2 := ⟨⟨nv_RX7, pd_30, sg5 (List.mem_of_getElem? (i := 169) rfl) rfl, sg1 (List.mem_of_getElem? (i := 8) rfl) rfl⟩, sg5 (List.mem_of_getElem? (i := 166) rfl) rfl, sg5 (List.mem_of_getElem? (i := 168) rfl) rfl, mc_sel (pr3 (List.mem_of_getElem? (i := 11) rfl))⟩
set_option maxRecDepth 20000 in
theorem qX7_184 : Cond.constantLong RX7 184 999999999999 ∈ mc_WS := sg5 (List.mem_of_getElem? (i := 170) rfl) rfl
set_option maxRecDepth 20000 in
theorem kL_63 : mc_CV "NoZeroWithinLaw" 63 yX7_plain cX7_plain 3 (some .long) 2 := ⟨⟨nv_RX7, pd_29, sg5 (List.mem_of_getElem? (i := 174) rfl) rfl, sg1 (List.mem_of_getElem? (i := 8) rfl) rfl⟩, sg5 (List.mem_of_getElem? (i := 171) rfl) rfl, sg5 (List.mem_of_getElem? (i := 172) rfl) rfl, sg5 (List.mem_of_getElem? (i := 173) rfl) rfl⟩
set_option maxRecDepth 20000 in
theorem kX7_198 : mc_CV RX7 198 yX7_plainOf cX7_plainOf 3 (some .long) 2 := ⟨⟨nv_RX7, pd_29, sg5 (List.mem_of_getElem? (i := 178) rfl) rfl, sg1 (List.mem_of_getElem? (i := 8) rfl) rfl⟩, sg5 (List.mem_of_getElem? (i := 175) rfl) rfl, sg5 (List.mem_of_getElem? (i := 177) rfl) rfl, mc_sel (pr3 (List.mem_of_getElem? (i := 12) rfl))⟩
set_option maxRecDepth 20000 in
theorem kL_68 : mc_CV "NoZeroWithinLaw" 68 yX7_adds cX7_adds 4 (some .long) 3 := ⟨⟨nv_RX7, pd_32, sg5 (List.mem_of_getElem? (i := 182) rfl) rfl, sg1 (List.mem_of_getElem? (i := 8) rfl) rfl⟩, sg5 (List.mem_of_getElem? (i := 179) rfl) rfl, sg5 (List.mem_of_getElem? (i := 180) rfl) rfl, sg5 (List.mem_of_getElem? (i := 181) rfl) rfl⟩
set_option maxRecDepth 20000 in
theorem kX7_202 : mc_CV RX7 202 yX7_addsOf cX7_addsOf 4 (some .long) 3 := ⟨⟨nv_RX7, pd_32, sg5 (List.mem_of_getElem? (i := 186) rfl) rfl, sg1 (List.mem_of_getElem? (i := 8) rfl) rfl⟩, sg5 (List.mem_of_getElem? (i := 183) rfl) rfl, sg5 (List.mem_of_getElem? (i := 185) rfl) rfl, mc_sel (pr3 (List.mem_of_getElem? (i := 13) rfl))⟩
set_option maxRecDepth 20000 in
theorem kL_72 : mc_CV "NoZeroWithinLaw" 72 yX7_apart cX7_apart 7 (some .int) 3 := ⟨⟨nv_RX7, pd_26, sg5 (List.mem_of_getElem? (i := 190) rfl) rfl, sg1 (List.mem_of_getElem? (i := 8) rfl) rfl⟩, sg5 (List.mem_of_getElem? (i := 187) rfl) rfl, sg5 (List.mem_of_getElem? (i := 188) rfl) rfl, sg5 (List.mem_of_getElem? (i := 189) rfl) rfl⟩
set_option maxRecDepth 20000 in
theorem qX7_206 : Cond.constantLong RX7 206 2 ∈ mc_WS := sg5 (List.mem_of_getElem? (i := 191) rfl) rfl
set_option maxRecDepth 20000 in
theorem pd_46 : (parseMethodDescriptor "(JJ)J").map (fun d => d.parameters.length) = some 2 := by decide +kernel
set_option maxRecDepth 20000 in
theorem kX7_208 : mc_CS RX7 208 yX7_far cX7_far 4 (some .long) 2 := ⟨⟨nv_RX7, pd_46, sg5 (List.mem_of_getElem? (i := 194) rfl) rfl, sg1 (List.mem_of_getElem? (i := 8) rfl) rfl⟩, sg5 (List.mem_of_getElem? (i := 192) rfl) rfl, sg5 (List.mem_of_getElem? (i := 193) rfl) rfl⟩
set_option maxRecDepth 20000 in
theorem kL_76 : mc_CV "NoZeroWithinLaw" 76 yX7_book cX7_book 9 (some .long) 3 := ⟨⟨nv_RX7, pd_32, sg5 (List.mem_of_getElem? (i := 198) rfl) rfl, sg1 (List.mem_of_getElem? (i := 8) rfl) rfl⟩, sg5 (List.mem_of_getElem? (i := 195) rfl) rfl, sg5 (List.mem_of_getElem? (i := 196) rfl) rfl, sg5 (List.mem_of_getElem? (i := 197) rfl) rfl⟩
set_option maxRecDepth 20000 in
theorem kX7_214 : mc_CV RX7 214 yX7_bookWrong cX7_bookWrong 3 (some .int) 1 := ⟨⟨nv_RX7, pd_3, sg5 (List.mem_of_getElem? (i := 202) rfl) rfl, sg1 (List.mem_of_getElem? (i := 8) rfl) rfl⟩, sg5 (List.mem_of_getElem? (i := 199) rfl) rfl, sg5 (List.mem_of_getElem? (i := 201) rfl) rfl, mc_sel (pr3 (List.mem_of_getElem? (i := 14) rfl))⟩
set_option maxRecDepth 20000 in
theorem kX7_217 : mc_CV RX7 217 yX7_hisBook cX7_hisBook 6 (some .long) 2 := ⟨⟨nv_RX7, pd_29, sg5 (List.mem_of_getElem? (i := 206) rfl) rfl, sg1 (List.mem_of_getElem? (i := 8) rfl) rfl⟩, sg5 (List.mem_of_getElem? (i := 203) rfl) rfl, sg5 (List.mem_of_getElem? (i := 205) rfl) rfl, mc_sel (pr3 (List.mem_of_getElem? (i := 15) rfl))⟩
set_option maxRecDepth 20000 in
theorem pd_47 : (parseMethodDescriptor "(I)J").map (fun d => d.parameters.length) = some 1 := by decide +kernel
set_option maxRecDepth 20000 in
theorem kX7_220 : mc_CV RX7 220 yX7_ourBook cX7_ourBook 5 (some .long) 1 := ⟨⟨nv_RX7, pd_47, sg5 (List.mem_of_getElem? (i := 210) rfl) rfl, sg1 (List.mem_of_getElem? (i := 8) rfl) rfl⟩, sg5 (List.mem_of_getElem? (i := 207) rfl) rfl, sg5 (List.mem_of_getElem? (i := 209) rfl) rfl, mc_sel (pr4 (List.mem_of_getElem? (i := 0) rfl))⟩
set_option maxRecDepth 20000 in
theorem pd_48 : (parseMethodDescriptor "(J)I").map (fun d => d.parameters.length) = some 1 := by decide +kernel
set_option maxRecDepth 20000 in
theorem kX7_224 : mc_CS RX7 224 yX7_great cX7_great 2 (some .int) 1 := ⟨⟨nv_RX7, pd_48, sg5 (List.mem_of_getElem? (i := 213) rfl) rfl, sg1 (List.mem_of_getElem? (i := 8) rfl) rfl⟩, sg5 (List.mem_of_getElem? (i := 211) rfl) rfl, sg5 (List.mem_of_getElem? (i := 212) rfl) rfl⟩
set_option maxRecDepth 20000 in
theorem qX7_212 : Cond.constantLong RX7 212 99999 ∈ mc_WS := sg5 (List.mem_of_getElem? (i := 214) rfl) rfl
set_option maxRecDepth 20000 in
theorem kL_80 : mc_CV "NoZeroWithinLaw" 80 yX7_who cX7_who 11 (some .long) 2 := ⟨⟨nv_RX7, pd_29, sg5 (List.mem_of_getElem? (i := 218) rfl) rfl, sg1 (List.mem_of_getElem? (i := 8) rfl) rfl⟩, sg5 (List.mem_of_getElem? (i := 215) rfl) rfl, sg5 (List.mem_of_getElem? (i := 216) rfl) rfl, sg5 (List.mem_of_getElem? (i := 217) rfl) rfl⟩
set_option maxRecDepth 20000 in
theorem qX7_228 : Cond.constantLong RX7 228 (-1) ∈ mc_WS := sg5 (List.mem_of_getElem? (i := 219) rfl) rfl
set_option maxRecDepth 20000 in
theorem kL_84 : mc_CV "NoZeroWithinLaw" 84 yX7_smuggled cX7_smuggled 14 (some .long) 3 := ⟨⟨nv_RX7, pd_32, sg5 (List.mem_of_getElem? (i := 223) rfl) rfl, sg1 (List.mem_of_getElem? (i := 8) rfl) rfl⟩, sg5 (List.mem_of_getElem? (i := 220) rfl) rfl, sg5 (List.mem_of_getElem? (i := 221) rfl) rfl, sg5 (List.mem_of_getElem? (i := 222) rfl) rfl⟩
set_option maxRecDepth 20000 in
theorem kL_88 : mc_CV "NoZeroWithinLaw" 88 yX7_slip cX7_slip 14 (some .long) 3 := ⟨⟨nv_RX7, pd_32, sg5 (List.mem_of_getElem? (i := 227) rfl) rfl, sg1 (List.mem_of_getElem? (i := 8) rfl) rfl⟩, sg5 (List.mem_of_getElem? (i := 224) rfl) rfl, sg5 (List.mem_of_getElem? (i := 225) rfl) rfl, sg5 (List.mem_of_getElem? (i := 226) rfl) rfl⟩
set_option maxRecDepth 20000 in
theorem kX7_230 : mc_CV RX7 230 yX7_slipped cX7_slipped 3 (some .int) 2 := ⟨⟨nv_RX7, pd_5, sg5 (List.mem_of_getElem? (i := 231) rfl) rfl, sg1 (List.mem_of_getElem? (i := 8) rfl) rfl⟩, sg5 (List.mem_of_getElem? (i := 228) rfl) rfl, sg5 (List.mem_of_getElem? (i := 230) rfl) rfl, mc_sel (pr4 (List.mem_of_getElem? (i := 1) rfl))⟩
set_option maxRecDepth 20000 in
theorem kL_92 : mc_CV "NoZeroWithinLaw" 92 yX7_sure cX7_sure 6 (some .long) 2 := ⟨⟨nv_RX7, pd_29, sg5 (List.mem_of_getElem? (i := 235) rfl) rfl, sg1 (List.mem_of_getElem? (i := 8) rfl) rfl⟩, sg5 (List.mem_of_getElem? (i := 232) rfl) rfl, sg5 (List.mem_of_getElem? (i := 233) rfl) rfl, sg5 (List.mem_of_getElem? (i := 234) rfl) rfl⟩
set_option maxRecDepth 20000 in
theorem qX7_233 : Cond.constantLong RX7 233 1000000000 ∈ mc_WS := sg5 (List.mem_of_getElem? (i := 236) rfl) rfl
set_option maxRecDepth 20000 in
theorem qX7_235 : Cond.constantLong RX7 235 100 ∈ mc_WS := sg5 (List.mem_of_getElem? (i := 237) rfl) rfl
set_option maxRecDepth 20000 in
theorem kL_96 : mc_CV "NoZeroWithinLaw" 96 yX7_shortest cX7_shortest 11 (some .int) 3 := ⟨⟨nv_RX7, pd_26, sg6 (List.mem_of_getElem? (i := 1) rfl) rfl, sg1 (List.mem_of_getElem? (i := 8) rfl) rfl⟩, sg5 (List.mem_of_getElem? (i := 238) rfl) rfl, sg5 (List.mem_of_getElem? (i := 239) rfl) rfl, sg6 (List.mem_of_getElem? (i := 0) rfl) rfl⟩
set_option maxRecDepth 20000 in
theorem kX7_237 : mc_CV RX7 237 yX7_figuresAll cX7_figuresAll 5 (some .int) 2 := ⟨⟨nv_RX7, pd_5, sg6 (List.mem_of_getElem? (i := 5) rfl) rfl, sg1 (List.mem_of_getElem? (i := 8) rfl) rfl⟩, sg6 (List.mem_of_getElem? (i := 2) rfl) rfl, sg6 (List.mem_of_getElem? (i := 4) rfl) rfl, mc_sel (pr4 (List.mem_of_getElem? (i := 2) rfl))⟩
set_option maxRecDepth 20000 in
theorem kL_100 : mc_CV "NoZeroWithinLaw" 100 yX7_lend cX7_lend 5 (some .int) 3 := ⟨⟨nv_RX7, pd_26, sg6 (List.mem_of_getElem? (i := 9) rfl) rfl, sg1 (List.mem_of_getElem? (i := 8) rfl) rfl⟩, sg6 (List.mem_of_getElem? (i := 6) rfl) rfl, sg6 (List.mem_of_getElem? (i := 7) rfl) rfl, sg6 (List.mem_of_getElem? (i := 8) rfl) rfl⟩
set_option maxRecDepth 20000 in
theorem kX7_240 : mc_CS RX7 240 yX7_areFolk cX7_areFolk 2 (some .boolean) 2 := ⟨⟨nv_RX7, pd_37, sg6 (List.mem_of_getElem? (i := 12) rfl) rfl, sg1 (List.mem_of_getElem? (i := 8) rfl) rfl⟩, sg6 (List.mem_of_getElem? (i := 10) rfl) rfl, sg6 (List.mem_of_getElem? (i := 11) rfl) rfl⟩
set_option maxRecDepth 20000 in
theorem kL_104 : mc_CV "NoZeroWithinLaw" 104 yX7_debt cX7_debt 3 (some .int) 2 := ⟨⟨nv_RX7, pd_5, sg6 (List.mem_of_getElem? (i := 16) rfl) rfl, sg1 (List.mem_of_getElem? (i := 8) rfl) rfl⟩, sg6 (List.mem_of_getElem? (i := 13) rfl) rfl, sg6 (List.mem_of_getElem? (i := 14) rfl) rfl, sg6 (List.mem_of_getElem? (i := 15) rfl) rfl⟩
set_option maxRecDepth 20000 in
theorem kL_108 : mc_CV "NoZeroWithinLaw" 108 yX7_pay cX7_pay 5 (some .int) 3 := ⟨⟨nv_RX7, pd_26, sg6 (List.mem_of_getElem? (i := 20) rfl) rfl, sg1 (List.mem_of_getElem? (i := 8) rfl) rfl⟩, sg6 (List.mem_of_getElem? (i := 17) rfl) rfl, sg6 (List.mem_of_getElem? (i := 18) rfl) rfl, sg6 (List.mem_of_getElem? (i := 19) rfl) rfl⟩
set_option maxRecDepth 20000 in
theorem kL_112 : mc_CV "NoZeroWithinLaw" 112 yX7_rings cX7_rings 1 (some .int) 0 := ⟨⟨nv_RX7, pd_4, sg6 (List.mem_of_getElem? (i := 24) rfl) rfl, sg1 (List.mem_of_getElem? (i := 8) rfl) rfl⟩, sg6 (List.mem_of_getElem? (i := 21) rfl) rfl, sg6 (List.mem_of_getElem? (i := 22) rfl) rfl, sg6 (List.mem_of_getElem? (i := 23) rfl) rfl⟩
set_option maxRecDepth 20000 in
theorem kX7_247 : mc_CV RX7 247 yX7_ringsNow cX7_ringsNow 3 (some .int) 0 := ⟨⟨nv_RX7, pd_4, sg6 (List.mem_of_getElem? (i := 28) rfl) rfl, sg1 (List.mem_of_getElem? (i := 8) rfl) rfl⟩, sg6 (List.mem_of_getElem? (i := 25) rfl) rfl, sg6 (List.mem_of_getElem? (i := 27) rfl) rfl, mc_sel (pr4 (List.mem_of_getElem? (i := 3) rfl))⟩
set_option maxRecDepth 20000 in
theorem kX7_244 : mc_CV RX7 244 yX7_reachedFrom cX7_reachedFrom 7 (some .int) 1 := ⟨⟨nv_RX7, pd_3, sg6 (List.mem_of_getElem? (i := 32) rfl) rfl, sg1 (List.mem_of_getElem? (i := 8) rfl) rfl⟩, sg6 (List.mem_of_getElem? (i := 29) rfl) rfl, sg6 (List.mem_of_getElem? (i := 31) rfl) rfl, mc_sel (pr4 (List.mem_of_getElem? (i := 4) rfl))⟩
set_option maxRecDepth 20000 in
theorem kL_116 : mc_CV "NoZeroWithinLaw" 116 yX7_clear cX7_clear 7 (some .int) 0 := ⟨⟨nv_RX7, pd_4, sg6 (List.mem_of_getElem? (i := 36) rfl) rfl, sg1 (List.mem_of_getElem? (i := 8) rfl) rfl⟩, sg6 (List.mem_of_getElem? (i := 33) rfl) rfl, sg6 (List.mem_of_getElem? (i := 34) rfl) rfl, sg6 (List.mem_of_getElem? (i := 35) rfl) rfl⟩
set_option maxRecDepth 20000 in
theorem kX7_250 : mc_CS RX7 250 yX7_least cX7_least 2 (some .int) 2 := ⟨⟨nv_RX7, pd_5, sg6 (List.mem_of_getElem? (i := 39) rfl) rfl, sg1 (List.mem_of_getElem? (i := 8) rfl) rfl⟩, sg6 (List.mem_of_getElem? (i := 37) rfl) rfl, sg6 (List.mem_of_getElem? (i := 38) rfl) rfl⟩
set_option maxRecDepth 20000 in
theorem kL_120 : mc_CV "NoZeroWithinLaw" 120 yX7_forgive cX7_forgive 7 (some .int) 1 := ⟨⟨nv_RX7, pd_3, sg6 (List.mem_of_getElem? (i := 43) rfl) rfl, sg1 (List.mem_of_getElem? (i := 8) rfl) rfl⟩, sg6 (List.mem_of_getElem? (i := 40) rfl) rfl, sg6 (List.mem_of_getElem? (i := 41) rfl) rfl, sg6 (List.mem_of_getElem? (i := 42) rfl) rfl⟩
set_option maxRecDepth 20000 in
theorem kX7_253 : mc_CS RX7 253 yX7_ones cX7_ones 3 (some .int) 1 := ⟨⟨nv_RX7, pd_3, sg6 (List.mem_of_getElem? (i := 46) rfl) rfl, sg1 (List.mem_of_getElem? (i := 8) rfl) rfl⟩, sg6 (List.mem_of_getElem? (i := 44) rfl) rfl, sg6 (List.mem_of_getElem? (i := 45) rfl) rfl⟩
set_option maxRecDepth 20000 in
theorem kL_124 : mc_CV "NoZeroWithinLaw" 124 yX7_span cX7_span 3 (some .int) 2 := ⟨⟨nv_RX7, pd_5, sg6 (List.mem_of_getElem? (i := 50) rfl) rfl, sg1 (List.mem_of_getElem? (i := 8) rfl) rfl⟩, sg6 (List.mem_of_getElem? (i := 47) rfl) rfl, sg6 (List.mem_of_getElem? (i := 48) rfl) rfl, sg6 (List.mem_of_getElem? (i := 49) rfl) rfl⟩
set_option maxRecDepth 20000 in
theorem kX7_256 : mc_CS RX7 256 yX7_asIfZero cX7_asIfZero 1 (some .int) 1 := ⟨⟨nv_RX7, pd_3, sg6 (List.mem_of_getElem? (i := 53) rfl) rfl, sg1 (List.mem_of_getElem? (i := 8) rfl) rfl⟩, sg6 (List.mem_of_getElem? (i := 51) rfl) rfl, sg6 (List.mem_of_getElem? (i := 52) rfl) rfl⟩
set_option maxRecDepth 20000 in
theorem qX7_259 : Cond.constant RX7 259 (-100000) ∈ mc_WS := sg6 (List.mem_of_getElem? (i := 54) rfl) rfl
set_option maxRecDepth 20000 in
theorem kL_128 : mc_CV "NoZeroWithinLaw" 128 yX7_behind cX7_behind 4 (some .int) 2 := ⟨⟨nv_RX7, pd_5, sg6 (List.mem_of_getElem? (i := 58) rfl) rfl, sg1 (List.mem_of_getElem? (i := 8) rfl) rfl⟩, sg6 (List.mem_of_getElem? (i := 55) rfl) rfl, sg6 (List.mem_of_getElem? (i := 56) rfl) rfl, sg6 (List.mem_of_getElem? (i := 57) rfl) rfl⟩
set_option maxRecDepth 20000 in
theorem kX7_260 : mc_CS RX7 260 yX7_asYear cX7_asYear 1 (some .int) 1 := ⟨⟨nv_RX7, pd_3, sg6 (List.mem_of_getElem? (i := 61) rfl) rfl, sg1 (List.mem_of_getElem? (i := 8) rfl) rfl⟩, sg6 (List.mem_of_getElem? (i := 59) rfl) rfl, sg6 (List.mem_of_getElem? (i := 60) rfl) rfl⟩
set_option maxRecDepth 20000 in
theorem qX7_263 : Cond.constant RX7 263 (-100001) ∈ mc_WS := sg6 (List.mem_of_getElem? (i := 62) rfl) rfl
set_option maxRecDepth 20000 in
theorem kL_132 : mc_CV "NoZeroWithinLaw" 132 yX7_alike cX7_alike 10 (some .int) 3 := ⟨⟨nv_RX7, pd_26, sg6 (List.mem_of_getElem? (i := 66) rfl) rfl, sg1 (List.mem_of_getElem? (i := 8) rfl) rfl⟩, sg6 (List.mem_of_getElem? (i := 63) rfl) rfl, sg6 (List.mem_of_getElem? (i := 64) rfl) rfl, sg6 (List.mem_of_getElem? (i := 65) rfl) rfl⟩
set_option maxRecDepth 20000 in
theorem qX7_264 : Cond.constant RX7 264 (-100005) ∈ mc_WS := sg6 (List.mem_of_getElem? (i := 67) rfl) rfl
set_option maxRecDepth 20000 in
theorem qX7_265 : Cond.constant RX7 265 (-100007) ∈ mc_WS := sg6 (List.mem_of_getElem? (i := 68) rfl) rfl
set_option maxRecDepth 20000 in
theorem kX7_266 : mc_CV RX7 266 yX7_lastFigure cX7_lastFigure 3 (some .int) 2 := ⟨⟨nv_RX7, pd_5, sg6 (List.mem_of_getElem? (i := 72) rfl) rfl, sg1 (List.mem_of_getElem? (i := 8) rfl) rfl⟩, sg6 (List.mem_of_getElem? (i := 69) rfl) rfl, sg6 (List.mem_of_getElem? (i := 71) rfl) rfl, mc_sel (pr4 (List.mem_of_getElem? (i := 5) rfl))⟩
set_option maxRecDepth 20000 in
theorem kL_136 : mc_CV "NoZeroWithinLaw" 136 yX7_judge cX7_judge 4 (some .int) 2 := ⟨⟨nv_RX7, pd_5, sg6 (List.mem_of_getElem? (i := 76) rfl) rfl, sg1 (List.mem_of_getElem? (i := 8) rfl) rfl⟩, sg6 (List.mem_of_getElem? (i := 73) rfl) rfl, sg6 (List.mem_of_getElem? (i := 74) rfl) rfl, sg6 (List.mem_of_getElem? (i := 75) rfl) rfl⟩
set_option maxRecDepth 20000 in
theorem kX7_272 : mc_CV RX7 272 yX7_toldWrong cX7_toldWrong 4 (some .int) 2 := ⟨⟨nv_RX7, pd_5, sg6 (List.mem_of_getElem? (i := 80) rfl) rfl, sg1 (List.mem_of_getElem? (i := 8) rfl) rfl⟩, sg6 (List.mem_of_getElem? (i := 77) rfl) rfl, sg6 (List.mem_of_getElem? (i := 79) rfl) rfl, mc_sel (pr4 (List.mem_of_getElem? (i := 6) rfl))⟩
set_option maxRecDepth 20000 in
theorem kX7_269 : mc_CV RX7 269 yX7_sheetWrong cX7_sheetWrong 3 (some .int) 1 := ⟨⟨nv_RX7, pd_3, sg6 (List.mem_of_getElem? (i := 84) rfl) rfl, sg1 (List.mem_of_getElem? (i := 8) rfl) rfl⟩, sg6 (List.mem_of_getElem? (i := 81) rfl) rfl, sg6 (List.mem_of_getElem? (i := 83) rfl) rfl, mc_sel (pr4 (List.mem_of_getElem? (i := 7) rfl))⟩
set_option maxRecDepth 20000 in
theorem kX7_275 : mc_CV RX7 275 yX7_unlike cX7_unlike 4 (some .int) 2 := ⟨⟨nv_RX7, pd_5, sg6 (List.mem_of_getElem? (i := 88) rfl) rfl, sg1 (List.mem_of_getElem? (i := 8) rfl) rfl⟩, sg6 (List.mem_of_getElem? (i := 85) rfl) rfl, sg6 (List.mem_of_getElem? (i := 87) rfl) rfl, mc_sel (pr4 (List.mem_of_getElem? (i := 8) rfl))⟩
set_option maxRecDepth 20000 in
theorem kL_140 : mc_CV "NoZeroWithinLaw" 140 yX7_kinds cX7_kinds 10 (some .int) 3 := ⟨⟨nv_RX7, pd_26, sg6 (List.mem_of_getElem? (i := 92) rfl) rfl, sg1 (List.mem_of_getElem? (i := 8) rfl) rfl⟩, sg6 (List.mem_of_getElem? (i := 89) rfl) rfl, sg6 (List.mem_of_getElem? (i := 90) rfl) rfl, sg6 (List.mem_of_getElem? (i := 91) rfl) rfl⟩
set_option maxRecDepth 20000 in
theorem kL_144 : mc_CV "NoZeroWithinLaw" 144 yX7_whose cX7_whose 5 (some .int) 1 := ⟨⟨nv_RX7, pd_3, sg6 (List.mem_of_getElem? (i := 96) rfl) rfl, sg1 (List.mem_of_getElem? (i := 8) rfl) rfl⟩, sg6 (List.mem_of_getElem? (i := 93) rfl) rfl, sg6 (List.mem_of_getElem? (i := 94) rfl) rfl, sg6 (List.mem_of_getElem? (i := 95) rfl) rfl⟩
set_option maxRecDepth 20000 in
theorem kL_148 : mc_CV "NoZeroWithinLaw" 148 yX7_laws cX7_laws 7 (some .int) 2 := ⟨⟨nv_RX7, pd_5, sg6 (List.mem_of_getElem? (i := 100) rfl) rfl, sg1 (List.mem_of_getElem? (i := 8) rfl) rfl⟩, sg6 (List.mem_of_getElem? (i := 97) rfl) rfl, sg6 (List.mem_of_getElem? (i := 98) rfl) rfl, sg6 (List.mem_of_getElem? (i := 99) rfl) rfl⟩
set_option maxRecDepth 20000 in
theorem kL_152 : mc_CV "NoZeroWithinLaw" 152 yX7_film cX7_film 10 (some .int) 4 := ⟨⟨nv_RX7, pd_21, sg6 (List.mem_of_getElem? (i := 104) rfl) rfl, sg1 (List.mem_of_getElem? (i := 8) rfl) rfl⟩, sg6 (List.mem_of_getElem? (i := 101) rfl) rfl, sg6 (List.mem_of_getElem? (i := 102) rfl) rfl, sg6 (List.mem_of_getElem? (i := 103) rfl) rfl⟩
set_option maxRecDepth 20000 in
theorem qX7_278 : Cond.constantLong RX7 278 2147483647 ∈ mc_WS := sg6 (List.mem_of_getElem? (i := 105) rfl) rfl
set_option maxRecDepth 20000 in
theorem qX7_280 : Cond.constant RX7 280 2147483647 ∈ mc_WS := sg6 (List.mem_of_getElem? (i := 106) rfl) rfl
set_option maxRecDepth 20000 in
theorem kL_156 : mc_CV "NoZeroWithinLaw" 156 yX7_drawn cX7_drawn 4 (some .long) 3 := ⟨⟨nv_RX7, pd_32, sg6 (List.mem_of_getElem? (i := 110) rfl) rfl, sg1 (List.mem_of_getElem? (i := 8) rfl) rfl⟩, sg6 (List.mem_of_getElem? (i := 107) rfl) rfl, sg6 (List.mem_of_getElem? (i := 108) rfl) rfl, sg6 (List.mem_of_getElem? (i := 109) rfl) rfl⟩
set_option maxRecDepth 20000 in
theorem kX7_283 : mc_CV RX7 283 yX7_slipsBy cX7_slipsBy 8 (some .long) 3 := ⟨⟨nv_RX7, pd_32, sg6 (List.mem_of_getElem? (i := 114) rfl) rfl, sg1 (List.mem_of_getElem? (i := 8) rfl) rfl⟩, sg6 (List.mem_of_getElem? (i := 111) rfl) rfl, sg6 (List.mem_of_getElem? (i := 113) rfl) rfl, mc_sel (pr4 (List.mem_of_getElem? (i := 9) rfl))⟩
set_option maxRecDepth 20000 in
theorem qX7_281 : Cond.constantLong RX7 281 48271 ∈ mc_WS := sg6 (List.mem_of_getElem? (i := 115) rfl) rfl
set_option maxRecDepth 20000 in
theorem kL_161 : mc_CV "NoZeroWithinLaw" 161 yX7_odds cX7_odds 11 (some .long) 5 := ⟨⟨nv_RX7, pd_41, sg6 (List.mem_of_getElem? (i := 119) rfl) rfl, sg1 (List.mem_of_getElem? (i := 8) rfl) rfl⟩, sg6 (List.mem_of_getElem? (i := 116) rfl) rfl, sg6 (List.mem_of_getElem? (i := 117) rfl) rfl, sg6 (List.mem_of_getElem? (i := 118) rfl) rfl⟩
set_option maxRecDepth 20000 in
theorem qX7_286 : Cond.constantLong RX7 286 (-4611686018427387904) ∈ mc_WS := sg6 (List.mem_of_getElem? (i := 120) rfl) rfl
set_option maxRecDepth 20000 in
theorem pd_49 : (parseMethodDescriptor "(JJI)J").map (fun d => d.parameters.length) = some 3 := by decide +kernel
set_option maxRecDepth 20000 in
theorem kX7_288 : mc_CS RX7 288 yX7_lowest cX7_lowest 11 (some .long) 3 := ⟨⟨nv_RX7, pd_49, sg6 (List.mem_of_getElem? (i := 123) rfl) rfl, sg1 (List.mem_of_getElem? (i := 8) rfl) rfl⟩, sg6 (List.mem_of_getElem? (i := 121) rfl) rfl, sg6 (List.mem_of_getElem? (i := 122) rfl) rfl⟩
set_option maxRecDepth 20000 in
theorem kL_165 : mc_CV "NoZeroWithinLaw" 165 yX7_image cX7_image 2 (some .int) 0 := ⟨⟨nv_RX7, pd_4, sg6 (List.mem_of_getElem? (i := 127) rfl) rfl, sg1 (List.mem_of_getElem? (i := 8) rfl) rfl⟩, sg6 (List.mem_of_getElem? (i := 124) rfl) rfl, sg6 (List.mem_of_getElem? (i := 125) rfl) rfl, sg6 (List.mem_of_getElem? (i := 126) rfl) rfl⟩
set_option maxRecDepth 20000 in
theorem kL_169 : mc_CV "NoZeroWithinLaw" 169 yX7_back cX7_back 2 (some .int) 0 := ⟨⟨nv_RX7, pd_4, sg6 (List.mem_of_getElem? (i := 131) rfl) rfl, sg1 (List.mem_of_getElem? (i := 8) rfl) rfl⟩, sg6 (List.mem_of_getElem? (i := 128) rfl) rfl, sg6 (List.mem_of_getElem? (i := 129) rfl) rfl, sg6 (List.mem_of_getElem? (i := 130) rfl) rfl⟩
set_option maxRecDepth 20000 in
theorem kL_173 : mc_CV "NoZeroWithinLaw" 173 yX7_sheet cX7_sheet 5 (some .int) 3 := ⟨⟨nv_RX7, pd_26, sg6 (List.mem_of_getElem? (i := 135) rfl) rfl, sg1 (List.mem_of_getElem? (i := 8) rfl) rfl⟩, sg6 (List.mem_of_getElem? (i := 132) rfl) rfl, sg6 (List.mem_of_getElem? (i := 133) rfl) rfl, sg6 (List.mem_of_getElem? (i := 134) rfl) rfl⟩
set_option maxRecDepth 20000 in
theorem kL_177 : mc_CV "NoZeroWithinLaw" 177 yX7_cell cX7_cell 4 (some .int) 3 := ⟨⟨nv_RX7, pd_26, sg6 (List.mem_of_getElem? (i := 139) rfl) rfl, sg1 (List.mem_of_getElem? (i := 8) rfl) rfl⟩, sg6 (List.mem_of_getElem? (i := 136) rfl) rfl, sg6 (List.mem_of_getElem? (i := 137) rfl) rfl, sg6 (List.mem_of_getElem? (i := 138) rfl) rfl⟩
set_option maxRecDepth 20000 in
theorem kL_182 : mc_CV "NoZeroWithinLaw" 182 yX7_copy cX7_copy 10 (some .int) 5 := ⟨⟨nv_RX7, pd_44, sg6 (List.mem_of_getElem? (i := 143) rfl) rfl, sg1 (List.mem_of_getElem? (i := 8) rfl) rfl⟩, sg6 (List.mem_of_getElem? (i := 140) rfl) rfl, sg6 (List.mem_of_getElem? (i := 141) rfl) rfl, sg6 (List.mem_of_getElem? (i := 142) rfl) rfl⟩
set_option maxRecDepth 20000 in
theorem kL_186 : mc_CV "NoZeroWithinLaw" 186 yX7_clerksBy cX7_clerksBy 9 (some .int) 4 := ⟨⟨nv_RX7, pd_21, sg6 (List.mem_of_getElem? (i := 147) rfl) rfl, sg1 (List.mem_of_getElem? (i := 8) rfl) rfl⟩, sg6 (List.mem_of_getElem? (i := 144) rfl) rfl, sg6 (List.mem_of_getElem? (i := 145) rfl) rfl, sg6 (List.mem_of_getElem? (i := 146) rfl) rfl⟩
set_option maxRecDepth 20000 in
theorem kX7_308 : mc_CV RX7 308 yX7_clerk cX7_clerk 3 (some .int) 2 := ⟨⟨nv_RX7, pd_5, sg5 (List.mem_of_getElem? (i := 131) rfl) rfl, sg1 (List.mem_of_getElem? (i := 8) rfl) rfl⟩, sg6 (List.mem_of_getElem? (i := 148) rfl) rfl, sg5 (List.mem_of_getElem? (i := 129) rfl) rfl, sg5 (List.mem_of_getElem? (i := 130) rfl) rfl⟩
set_option maxRecDepth 20000 in
theorem kL_190 : mc_CV "NoZeroWithinLaw" 190 yX7_taken cX7_taken 5 (some .int) 2 := ⟨⟨nv_RX7, pd_5, sg6 (List.mem_of_getElem? (i := 152) rfl) rfl, sg1 (List.mem_of_getElem? (i := 8) rfl) rfl⟩, sg6 (List.mem_of_getElem? (i := 149) rfl) rfl, sg6 (List.mem_of_getElem? (i := 150) rfl) rfl, sg6 (List.mem_of_getElem? (i := 151) rfl) rfl⟩
set_option maxRecDepth 20000 in
theorem kX7_311 : mc_CS RX7 311 yX7_isUnder cX7_isUnder 2 (some .boolean) 2 := ⟨⟨nv_RX7, pd_37, sg6 (List.mem_of_getElem? (i := 155) rfl) rfl, sg1 (List.mem_of_getElem? (i := 8) rfl) rfl⟩, sg6 (List.mem_of_getElem? (i := 153) rfl) rfl, sg6 (List.mem_of_getElem? (i := 154) rfl) rfl⟩
set_option maxRecDepth 20000 in
theorem sJ0_9 : Cond.fieldLink RJ0 9 "java/lang/String" "value" "[B" ∈ mc_WS := sg6 (List.mem_of_getElem? (i := 156) rfl) rfl
set_option maxRecDepth 20000 in
theorem sJ0_15 : Cond.fieldLink RJ0 15 "java/lang/String" "coder" "B" ∈ mc_WS := sg6 (List.mem_of_getElem? (i := 157) rfl) rfl
set_option maxRecDepth 20000 in
theorem kX1_35 : mc_CN RX1 35 yX6_isOfKind cX6_isOfKind 4 (some .boolean) 2 := ⟨⟨nv_RX6, pd_37, sg2 (List.mem_of_getElem? (i := 230) rfl) rfl, sg1 (List.mem_of_getElem? (i := 1) rfl) rfl⟩, by decide +kernel, sg2 (List.mem_of_getElem? (i := 229) rfl) rfl⟩
set_option maxRecDepth 20000 in
theorem kX0_18 : mc_CN RX0 18 yX6_isFolk cX6_isFolk 1 (some .boolean) 1 := ⟨⟨nv_RX6, pd_7, sg3 (List.mem_of_getElem? (i := 157) rfl) rfl, sg1 (List.mem_of_getElem? (i := 1) rfl) rfl⟩, by decide +kernel, sg3 (List.mem_of_getElem? (i := 156) rfl) rfl⟩
set_option maxRecDepth 20000 in
theorem kX0_22 : mc_CN RX0 22 yX6_areTwoFolk cX6_areTwoFolk 2 (some .boolean) 2 := ⟨⟨nv_RX6, pd_37, sg3 (List.mem_of_getElem? (i := 154) rfl) rfl, sg1 (List.mem_of_getElem? (i := 1) rfl) rfl⟩, by decide +kernel, sg3 (List.mem_of_getElem? (i := 153) rfl) rfl⟩
set_option maxRecDepth 20000 in
theorem insX6 : Cond.instantiable RX6 14 ∈ mc_WS := sg1 (List.mem_of_getElem? (i := 18) rfl) rfl
set_option maxRecDepth 20000 in
theorem iniX6 : Cond.initialized RX6 ∈ mc_WS := sg1 (List.mem_of_getElem? (i := 1) rfl) rfl
set_option maxRecDepth 20000 in
theorem insX0 : Cond.instantiable RX0 2 ∈ mc_WS := sg1 (List.mem_of_getElem? (i := 80) rfl) rfl
set_option maxRecDepth 20000 in
theorem iniX0 : Cond.initialized RX0 ∈ mc_WS := sg1 (List.mem_of_getElem? (i := 4) rfl) rfl
set_option maxRecDepth 20000 in
theorem insX1 : Cond.instantiable RX1 6 ∈ mc_WS := sg1 (List.mem_of_getElem? (i := 120) rfl) rfl
set_option maxRecDepth 20000 in
theorem iniX1 : Cond.initialized RX1 ∈ mc_WS := sg1 (List.mem_of_getElem? (i := 6) rfl) rfl
set_option maxRecDepth 20000 in
theorem insX2 : Cond.instantiable RX2 6 ∈ mc_WS := sg1 (List.mem_of_getElem? (i := 93) rfl) rfl
set_option maxRecDepth 20000 in
theorem iniX2 : Cond.initialized RX2 ∈ mc_WS := sg1 (List.mem_of_getElem? (i := 5) rfl) rfl
set_option maxRecDepth 20000 in
theorem insX3 : Cond.instantiable RX3 3 ∈ mc_WS := sg1 (List.mem_of_getElem? (i := 144) rfl) rfl
set_option maxRecDepth 20000 in
theorem iniX3 : Cond.initialized RX3 ∈ mc_WS := sg1 (List.mem_of_getElem? (i := 7) rfl) rfl
set_option maxRecDepth 20000 in
theorem insX4 : Cond.instantiable RX4 9 ∈ mc_WS := sg1 (List.mem_of_getElem? (i := 44) rfl) rfl
set_option maxRecDepth 20000 in
theorem iniX4 : Cond.initialized RX4 ∈ mc_WS := sg1 (List.mem_of_getElem? (i := 3) rfl) rfl
set_option maxRecDepth 20000 in
theorem insX5 : Cond.instantiable RX5 3 ∈ mc_WS := sg1 (List.mem_of_getElem? (i := 26) rfl) rfl
set_option maxRecDepth 20000 in
theorem iniX5 : Cond.initialized RX5 ∈ mc_WS := sg1 (List.mem_of_getElem? (i := 2) rfl) rfl
set_option maxRecDepth 20000 in
theorem insX7 : Cond.instantiable RX7 35 ∈ mc_WS := sg4 (List.mem_of_getElem? (i := 161) rfl) rfl
set_option maxRecDepth 20000 in
theorem iniX7 : Cond.initialized RX7 ∈ mc_WS := sg1 (List.mem_of_getElem? (i := 8) rfl) rfl
set_option maxRecDepth 20000 in
theorem ini_Sys : Cond.initialized "java/lang/System" ∈ mc_WS := sg1 (List.mem_of_getElem? (i := 15) rfl) rfl
set_option maxRecDepth 20000 in
theorem nat_cpy : Cond.native arraycopyName ∈ mc_WS := sg2 (List.mem_of_getElem? (i := 159) rfl) rfl
set_option maxRecDepth 20000 in
theorem sta_cpy : Cond.static arraycopyName ∈ mc_WS := sg2 (List.mem_of_getElem? (i := 158) rfl) rfl
set_option maxRecDepth 20000 in
theorem obj_inst : Cond.instanceMethod Lib.objectInit ∈ mc_WS := sg1 (List.mem_of_getElem? (i := 23) rfl) rfl
set_option maxRecDepth 20000 in
theorem obj_code : Cond.code Lib.objectInit ⟨#[0xb1]⟩ 1 none ∈ mc_WS := sg1 (List.mem_of_getElem? (i := 24) rfl) rfl
set_option maxRecDepth 20000 in
theorem arr_int : Cond.arrayClass .int ∈ mc_WS := sg1 (List.mem_of_getElem? (i := 41) rfl) rfl
end Zj_09_facts
