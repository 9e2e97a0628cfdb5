section
-- ===== PART A: goes FIRST, ahead of the names: the tables' words, and 'selects' of the private methods out of them =====
/-- a private method of a class that the tables say can be made, by its rows of tables_1 -/
def lw_okq (q : MethodName × Nat) : Prop := (q.1.cls ≠ "java/lang/invoke/MethodHandle" ∧ q.1.cls ≠ "java/lang/invoke/VarHandle") ∧ Cond.instantiable q.1.cls q.2 ∈ tables_1 ∧ Cond.privateMethod q.1 ∈ tables_1 ∧ Cond.instanceMethod q.1 ∈ tables_1
theorem lw_p0 : lw_okq (⟨"LevelStore$Levels", "changeShelf", "()V"⟩, 9) := ⟨⟨by decide +kernel, by decide +kernel⟩, List.mem_of_getElem? (i := 98) (by decide +kernel), List.mem_of_getElem? (i := 253) (by decide +kernel), List.mem_of_getElem? (i := 254) (by decide +kernel)⟩
theorem lw_p1 : lw_okq (⟨"LevelStore", "oldest", "()I"⟩, 9) := ⟨⟨by decide +kernel, by decide +kernel⟩, List.mem_of_getElem? (i := 20) (by decide +kernel), List.mem_of_getElem? (i := 257) (by decide +kernel), List.mem_of_getElem? (i := 258) (by decide +kernel)⟩
theorem lw_p2 : lw_okq (⟨"LevelStore$Levels", "fullLevel", "()I"⟩, 9) := ⟨⟨by decide +kernel, by decide +kernel⟩, List.mem_of_getElem? (i := 98) (by decide +kernel), List.mem_of_getElem? (i := 268) (by decide +kernel), List.mem_of_getElem? (i := 269) (by decide +kernel)⟩
theorem lw_p3 : lw_okq (⟨"LevelStore$Levels", "merge", "(IIII)V"⟩, 9) := ⟨⟨by decide +kernel, by decide +kernel⟩, List.mem_of_getElem? (i := 98) (by decide +kernel), List.mem_of_getElem? (i := 284) (by decide +kernel), List.mem_of_getElem? (i := 285) (by decide +kernel)⟩
theorem lw_p4 : lw_okq (⟨"LevelStore$Levels", "sortJoining", "()V"⟩, 9) := ⟨⟨by decide +kernel, by decide +kernel⟩, List.mem_of_getElem? (i := 98) (by decide +kernel), List.mem_of_getElem? (i := 306) (by decide +kernel), List.mem_of_getElem? (i := 307) (by decide +kernel)⟩
theorem lw_p5 : lw_okq (⟨"LevelStore$Levels", "addStaying", "(II)V"⟩, 9) := ⟨⟨by decide +kernel, by decide +kernel⟩, List.mem_of_getElem? (i := 98) (by decide +kernel), List.mem_of_getElem? (i := 320) (by decide +kernel), List.mem_of_getElem? (i := 321) (by decide +kernel)⟩
theorem lw_p6 : lw_okq (⟨"LevelStore$Levels", "addMerged", "(II)V"⟩, 9) := ⟨⟨by decide +kernel, by decide +kernel⟩, List.mem_of_getElem? (i := 98) (by decide +kernel), List.mem_of_getElem? (i := 330) (by decide +kernel), List.mem_of_getElem? (i := 331) (by decide +kernel)⟩
theorem lw_p7 : lw_okq (⟨"LevelStore$Levels", "isOutdated", "(II)Z"⟩, 9) := ⟨⟨by decide +kernel, by decide +kernel⟩, List.mem_of_getElem? (i := 98) (by decide +kernel), List.mem_of_getElem? (i := 334) (by decide +kernel), List.mem_of_getElem? (i := 335) (by decide +kernel)⟩
theorem lw_p8 : lw_okq (⟨"LevelStore$Levels", "isNeedless", "(III)Z"⟩, 9) := ⟨⟨by decide +kernel, by decide +kernel⟩, List.mem_of_getElem? (i := 98) (by decide +kernel), List.mem_of_getElem? (i := 338) (by decide +kernel), List.mem_of_getElem? (i := 339) (by decide +kernel)⟩
theorem lw_p9 : lw_okq (⟨"LevelStore$Levels", "endNewTable", "(I)V"⟩, 9) := ⟨⟨by decide +kernel, by decide +kernel⟩, List.mem_of_getElem? (i := 98) (by decide +kernel), List.mem_of_getElem? (i := 346) (by decide +kernel), List.mem_of_getElem? (i := 347) (by decide +kernel)⟩
theorem lw_p10 : lw_okq (⟨"LevelStore", "addToPending", "(IIZ)V"⟩, 9) := ⟨⟨by decide +kernel, by decide +kernel⟩, List.mem_of_getElem? (i := 20) (by decide +kernel), List.mem_of_getElem? (i := 360) (by decide +kernel), List.mem_of_getElem? (i := 361) (by decide +kernel)⟩
theorem lw_p11 : lw_okq (⟨"java/lang/Throwable", "fillInStackTrace", "(I)Ljava/lang/Throwable;"⟩, 6) := ⟨⟨by decide +kernel, by decide +kernel⟩, List.mem_of_getElem? (i := 408) (by decide +kernel), List.mem_of_getElem? (i := 406) (by decide +kernel), List.mem_of_getElem? (i := 407) (by decide +kernel)⟩
theorem lw_p12 : lw_okq (⟨"LevelStore", "write", "()I"⟩, 9) := ⟨⟨by decide +kernel, by decide +kernel⟩, List.mem_of_getElem? (i := 20) (by decide +kernel), List.mem_of_getElem? (i := 452) (by decide +kernel), List.mem_of_getElem? (i := 453) (by decide +kernel)⟩
theorem lw_p13 : lw_okq (⟨"LevelStore", "moveMemoryToLevel0", "()V"⟩, 9) := ⟨⟨by decide +kernel, by decide +kernel⟩, List.mem_of_getElem? (i := 20) (by decide +kernel), List.mem_of_getElem? (i := 480) (by decide +kernel), List.mem_of_getElem? (i := 481) (by decide +kernel)⟩
theorem lw_p14 : lw_okq (⟨"LevelStore", "numberSeenBy", "(I)I"⟩, 9) := ⟨⟨by decide +kernel, by decide +kernel⟩, List.mem_of_getElem? (i := 20) (by decide +kernel), List.mem_of_getElem? (i := 546) (by decide +kernel), List.mem_of_getElem? (i := 547) (by decide +kernel)⟩
theorem lw_p15 : lw_okq (⟨"LevelStore", "lookInTables", "(II)I"⟩, 9) := ⟨⟨by decide +kernel, by decide +kernel⟩, List.mem_of_getElem? (i := 20) (by decide +kernel), List.mem_of_getElem? (i := 572) (by decide +kernel), List.mem_of_getElem? (i := 573) (by decide +kernel)⟩
def lw_privs_1 : List (MethodName × Nat) := [(⟨"LevelStore$Levels", "changeShelf", "()V"⟩, 9), (⟨"LevelStore", "oldest", "()I"⟩, 9), (⟨"LevelStore$Levels", "fullLevel", "()I"⟩, 9), (⟨"LevelStore$Levels", "merge", "(IIII)V"⟩, 9), (⟨"LevelStore$Levels", "sortJoining", "()V"⟩, 9), (⟨"LevelStore$Levels", "addStaying", "(II)V"⟩, 9), (⟨"LevelStore$Levels", "addMerged", "(II)V"⟩, 9), (⟨"LevelStore$Levels", "isOutdated", "(II)Z"⟩, 9), (⟨"LevelStore$Levels", "isNeedless", "(III)Z"⟩, 9), (⟨"LevelStore$Levels", "endNewTable", "(I)V"⟩, 9), (⟨"LevelStore", "addToPending", "(IIZ)V"⟩, 9), (⟨"java/lang/Throwable", "fillInStackTrace", "(I)Ljava/lang/Throwable;"⟩, 6), (⟨"LevelStore", "write", "()I"⟩, 9), (⟨"LevelStore", "moveMemoryToLevel0", "()V"⟩, 9), (⟨"LevelStore", "numberSeenBy", "(I)I"⟩, 9), (⟨"LevelStore", "lookInTables", "(II)I"⟩, 9)]
theorem lw_r1 : ∀ q ∈ lw_privs_1, lw_okq q := List.forall_mem_cons.mpr ⟨lw_p0, List.forall_mem_cons.mpr ⟨lw_p1, List.forall_mem_cons.mpr ⟨lw_p2, List.forall_mem_cons.mpr ⟨lw_p3, List.forall_mem_cons.mpr ⟨lw_p4, List.forall_mem_cons.mpr ⟨lw_p5, List.forall_mem_cons.mpr ⟨lw_p6, List.forall_mem_cons.mpr ⟨lw_p7, List.forall_mem_cons.mpr ⟨lw_p8, List.forall_mem_cons.mpr ⟨lw_p9, List.forall_mem_cons.mpr ⟨lw_p10, List.forall_mem_cons.mpr ⟨lw_p11, List.forall_mem_cons.mpr ⟨lw_p12, List.forall_mem_cons.mpr ⟨lw_p13, List.forall_mem_cons.mpr ⟨lw_p14, List.forall_mem_cons.mpr ⟨lw_p15, fun _ h => absurd h List.not_mem_nil⟩⟩⟩⟩⟩⟩⟩⟩⟩⟩⟩⟩⟩⟩⟩⟩
theorem lw_p16 : lw_okq (⟨"LevelStore", "lookInTable", "(III)I"⟩, 9) := ⟨⟨by decide +kernel, by decide +kernel⟩, List.mem_of_getElem? (i := 20) (by decide +kernel), List.mem_of_getElem? (i := 577) (by decide +kernel), List.mem_of_getElem? (i := 578) (by decide +kernel)⟩
theorem lw_p17 : lw_okq (⟨"LevelStore", "hasValue", "(II)Z"⟩, 9) := ⟨⟨by decide +kernel, by decide +kernel⟩, List.mem_of_getElem? (i := 20) (by decide +kernel), List.mem_of_getElem? (i := 606) (by decide +kernel), List.mem_of_getElem? (i := 607) (by decide +kernel)⟩
theorem lw_p18 : lw_okq (⟨"LevelStoreModel", "write", "(IIZ)I"⟩, 39) := ⟨⟨by decide +kernel, by decide +kernel⟩, List.mem_of_getElem? (i := 706) (by decide +kernel), List.mem_of_getElem? (i := 839) (by decide +kernel), List.mem_of_getElem? (i := 840) (by decide +kernel)⟩
theorem lw_p19 : lw_okq (⟨"LevelStoreModel", "raise", "(I)I"⟩, 39) := ⟨⟨by decide +kernel, by decide +kernel⟩, List.mem_of_getElem? (i := 706) (by decide +kernel), List.mem_of_getElem? (i := 846) (by decide +kernel), List.mem_of_getElem? (i := 847) (by decide +kernel)⟩
theorem lw_p20 : lw_okq (⟨"LevelStoreModel", "full", "(I)Z"⟩, 39) := ⟨⟨by decide +kernel, by decide +kernel⟩, List.mem_of_getElem? (i := 706) (by decide +kernel), List.mem_of_getElem? (i := 850) (by decide +kernel), List.mem_of_getElem? (i := 851) (by decide +kernel)⟩
theorem lw_p21 : lw_okq (⟨"LevelStoreModel", "onLevel", "(I)I"⟩, 39) := ⟨⟨by decide +kernel, by decide +kernel⟩, List.mem_of_getElem? (i := 706) (by decide +kernel), List.mem_of_getElem? (i := 854) (by decide +kernel), List.mem_of_getElem? (i := 855) (by decide +kernel)⟩
theorem lw_p22 : lw_okq (⟨"LevelStoreModel", "remember", "(IIZ)V"⟩, 39) := ⟨⟨by decide +kernel, by decide +kernel⟩, List.mem_of_getElem? (i := 706) (by decide +kernel), List.mem_of_getElem? (i := 858) (by decide +kernel), List.mem_of_getElem? (i := 859) (by decide +kernel)⟩
theorem lw_p23 : lw_okq (⟨"LevelStoreModel", "logged", "(I)V"⟩, 39) := ⟨⟨by decide +kernel, by decide +kernel⟩, List.mem_of_getElem? (i := 706) (by decide +kernel), List.mem_of_getElem? (i := 862) (by decide +kernel), List.mem_of_getElem? (i := 863) (by decide +kernel)⟩
theorem lw_p24 : lw_okq (⟨"LevelStoreModel", "flushAll", "()V"⟩, 39) := ⟨⟨by decide +kernel, by decide +kernel⟩, List.mem_of_getElem? (i := 706) (by decide +kernel), List.mem_of_getElem? (i := 866) (by decide +kernel), List.mem_of_getElem? (i := 867) (by decide +kernel)⟩
theorem lw_p25 : lw_okq (⟨"LevelStoreModel", "enter", "(IIIZ)V"⟩, 39) := ⟨⟨by decide +kernel, by decide +kernel⟩, List.mem_of_getElem? (i := 706) (by decide +kernel), List.mem_of_getElem? (i := 870) (by decide +kernel), List.mem_of_getElem? (i := 871) (by decide +kernel)⟩
theorem lw_p26 : lw_okq (⟨"LevelStoreModel", "copyWork", "(II)V"⟩, 39) := ⟨⟨by decide +kernel, by decide +kernel⟩, List.mem_of_getElem? (i := 706) (by decide +kernel), List.mem_of_getElem? (i := 874) (by decide +kernel), List.mem_of_getElem? (i := 875) (by decide +kernel)⟩
theorem lw_p27 : lw_okq (⟨"LevelStoreModel", "insert", "(IIII)V"⟩, 39) := ⟨⟨by decide +kernel, by decide +kernel⟩, List.mem_of_getElem? (i := 706) (by decide +kernel), List.mem_of_getElem? (i := 878) (by decide +kernel), List.mem_of_getElem? (i := 879) (by decide +kernel)⟩
theorem lw_p28 : lw_okq (⟨"LevelStoreModel", "start", "(I)I"⟩, 39) := ⟨⟨by decide +kernel, by decide +kernel⟩, List.mem_of_getElem? (i := 706) (by decide +kernel), List.mem_of_getElem? (i := 882) (by decide +kernel), List.mem_of_getElem? (i := 883) (by decide +kernel)⟩
theorem lw_p29 : lw_okq (⟨"LevelStoreModel", "moveEntry", "(II)V"⟩, 39) := ⟨⟨by decide +kernel, by decide +kernel⟩, List.mem_of_getElem? (i := 706) (by decide +kernel), List.mem_of_getElem? (i := 886) (by decide +kernel), List.mem_of_getElem? (i := 887) (by decide +kernel)⟩
theorem lw_p30 : lw_okq (⟨"LevelStoreModel", "moveTable", "(II)V"⟩, 39) := ⟨⟨by decide +kernel, by decide +kernel⟩, List.mem_of_getElem? (i := 706) (by decide +kernel), List.mem_of_getElem? (i := 890) (by decide +kernel), List.mem_of_getElem? (i := 891) (by decide +kernel)⟩
theorem lw_p31 : lw_okq (⟨"LevelStoreModel", "tidy", "()V"⟩, 39) := ⟨⟨by decide +kernel, by decide +kernel⟩, List.mem_of_getElem? (i := 706) (by decide +kernel), List.mem_of_getElem? (i := 894) (by decide +kernel), List.mem_of_getElem? (i := 895) (by decide +kernel)⟩
def lw_privs_2 : List (MethodName × Nat) := [(⟨"LevelStore", "lookInTable", "(III)I"⟩, 9), (⟨"LevelStore", "hasValue", "(II)Z"⟩, 9), (⟨"LevelStoreModel", "write", "(IIZ)I"⟩, 39), (⟨"LevelStoreModel", "raise", "(I)I"⟩, 39), (⟨"LevelStoreModel", "full", "(I)Z"⟩, 39), (⟨"LevelStoreModel", "onLevel", "(I)I"⟩, 39), (⟨"LevelStoreModel", "remember", "(IIZ)V"⟩, 39), (⟨"LevelStoreModel", "logged", "(I)V"⟩, 39), (⟨"LevelStoreModel", "flushAll", "()V"⟩, 39), (⟨"LevelStoreModel", "enter", "(IIIZ)V"⟩, 39), (⟨"LevelStoreModel", "copyWork", "(II)V"⟩, 39), (⟨"LevelStoreModel", "insert", "(IIII)V"⟩, 39), (⟨"LevelStoreModel", "start", "(I)I"⟩, 39), (⟨"LevelStoreModel", "moveEntry", "(II)V"⟩, 39), (⟨"LevelStoreModel", "moveTable", "(II)V"⟩, 39), (⟨"LevelStoreModel", "tidy", "()V"⟩, 39)]
theorem lw_r2 : ∀ q ∈ lw_privs_2, lw_okq q := List.forall_mem_cons.mpr ⟨lw_p16, List.forall_mem_cons.mpr ⟨lw_p17, List.forall_mem_cons.mpr ⟨lw_p18, List.forall_mem_cons.mpr ⟨lw_p19, List.forall_mem_cons.mpr ⟨lw_p20, List.forall_mem_cons.mpr ⟨lw_p21, List.forall_mem_cons.mpr ⟨lw_p22, List.forall_mem_cons.mpr ⟨lw_p23, List.forall_mem_cons.mpr ⟨lw_p24, List.forall_mem_cons.mpr ⟨lw_p25, List.forall_mem_cons.mpr ⟨lw_p26, List.forall_mem_cons.mpr ⟨lw_p27, List.forall_mem_cons.mpr ⟨lw_p28, List.forall_mem_cons.mpr ⟨lw_p29, List.forall_mem_cons.mpr ⟨lw_p30, List.forall_mem_cons.mpr ⟨lw_p31, fun _ h => absurd h List.not_mem_nil⟩⟩⟩⟩⟩⟩⟩⟩⟩⟩⟩⟩⟩⟩⟩⟩
theorem lw_p32 : lw_okq (⟨"LevelStoreModel", "merge", "(I)Z"⟩, 39) := ⟨⟨by decide +kernel, by decide +kernel⟩, List.mem_of_getElem? (i := 706) (by decide +kernel), List.mem_of_getElem? (i := 898) (by decide +kernel), List.mem_of_getElem? (i := 899) (by decide +kernel)⟩
theorem lw_p33 : lw_okq (⟨"LevelStoreModel", "low", "(I)I"⟩, 39) := ⟨⟨by decide +kernel, by decide +kernel⟩, List.mem_of_getElem? (i := 706) (by decide +kernel), List.mem_of_getElem? (i := 902) (by decide +kernel), List.mem_of_getElem? (i := 903) (by decide +kernel)⟩
theorem lw_p34 : lw_okq (⟨"LevelStoreModel", "high", "(I)I"⟩, 39) := ⟨⟨by decide +kernel, by decide +kernel⟩, List.mem_of_getElem? (i := 706) (by decide +kernel), List.mem_of_getElem? (i := 906) (by decide +kernel), List.mem_of_getElem? (i := 907) (by decide +kernel)⟩
theorem lw_p35 : lw_okq (⟨"LevelStoreModel", "dropAll", "(I)V"⟩, 39) := ⟨⟨by decide +kernel, by decide +kernel⟩, List.mem_of_getElem? (i := 706) (by decide +kernel), List.mem_of_getElem? (i := 910) (by decide +kernel), List.mem_of_getElem? (i := 911) (by decide +kernel)⟩
theorem lw_p36 : lw_okq (⟨"LevelStoreModel", "oldest", "()I"⟩, 39) := ⟨⟨by decide +kernel, by decide +kernel⟩, List.mem_of_getElem? (i := 706) (by decide +kernel), List.mem_of_getElem? (i := 914) (by decide +kernel), List.mem_of_getElem? (i := 915) (by decide +kernel)⟩
theorem lw_p37 : lw_okq (⟨"LevelStoreModel", "deeper", "(II)Z"⟩, 39) := ⟨⟨by decide +kernel, by decide +kernel⟩, List.mem_of_getElem? (i := 706) (by decide +kernel), List.mem_of_getElem? (i := 918) (by decide +kernel), List.mem_of_getElem? (i := 919) (by decide +kernel)⟩
theorem lw_p38 : lw_okq (⟨"LevelStoreModel", "takeOut", "(I)V"⟩, 39) := ⟨⟨by decide +kernel, by decide +kernel⟩, List.mem_of_getElem? (i := 706) (by decide +kernel), List.mem_of_getElem? (i := 922) (by decide +kernel), List.mem_of_getElem? (i := 923) (by decide +kernel)⟩
theorem lw_p39 : lw_okq (⟨"LevelStoreModel", "place", "(I)V"⟩, 39) := ⟨⟨by decide +kernel, by decide +kernel⟩, List.mem_of_getElem? (i := 706) (by decide +kernel), List.mem_of_getElem? (i := 926) (by decide +kernel), List.mem_of_getElem? (i := 927) (by decide +kernel)⟩
theorem lw_p40 : lw_okq (⟨"LevelStoreModel", "pick", "(I)I"⟩, 39) := ⟨⟨by decide +kernel, by decide +kernel⟩, List.mem_of_getElem? (i := 706) (by decide +kernel), List.mem_of_getElem? (i := 930) (by decide +kernel), List.mem_of_getElem? (i := 931) (by decide +kernel)⟩
theorem lw_p41 : lw_okq (⟨"LevelStoreModel", "upTo", "(I)I"⟩, 39) := ⟨⟨by decide +kernel, by decide +kernel⟩, List.mem_of_getElem? (i := 706) (by decide +kernel), List.mem_of_getElem? (i := 962) (by decide +kernel), List.mem_of_getElem? (i := 963) (by decide +kernel)⟩
theorem lw_p42 : lw_okq (⟨"LevelStoreModel", "look", "(II)V"⟩, 39) := ⟨⟨by decide +kernel, by decide +kernel⟩, List.mem_of_getElem? (i := 706) (by decide +kernel), List.mem_of_getElem? (i := 966) (by decide +kernel), List.mem_of_getElem? (i := 967) (by decide +kernel)⟩
theorem lw_p43 : lw_okq (⟨"LevelStoreModel", "lookInMemory", "(II)V"⟩, 39) := ⟨⟨by decide +kernel, by decide +kernel⟩, List.mem_of_getElem? (i := 706) (by decide +kernel), List.mem_of_getElem? (i := 970) (by decide +kernel), List.mem_of_getElem? (i := 971) (by decide +kernel)⟩
theorem lw_p44 : lw_okq (⟨"LevelStoreModel", "passes", "(II)Z"⟩, 39) := ⟨⟨by decide +kernel, by decide +kernel⟩, List.mem_of_getElem? (i := 706) (by decide +kernel), List.mem_of_getElem? (i := 974) (by decide +kernel), List.mem_of_getElem? (i := 975) (by decide +kernel)⟩
theorem lw_p45 : lw_okq (⟨"LevelStoreModel", "readBlocks", "(III)I"⟩, 39) := ⟨⟨by decide +kernel, by decide +kernel⟩, List.mem_of_getElem? (i := 706) (by decide +kernel), List.mem_of_getElem? (i := 984) (by decide +kernel), List.mem_of_getElem? (i := 985) (by decide +kernel)⟩
theorem lw_p46 : lw_okq (⟨"LevelStoreModel", "foundGone", "()Z"⟩, 39) := ⟨⟨by decide +kernel, by decide +kernel⟩, List.mem_of_getElem? (i := 706) (by decide +kernel), List.mem_of_getElem? (i := 988) (by decide +kernel), List.mem_of_getElem? (i := 989) (by decide +kernel)⟩
theorem lw_p47 : lw_okq (⟨"LevelStoreModel", "lookThrough", "(II)V"⟩, 39) := ⟨⟨by decide +kernel, by decide +kernel⟩, List.mem_of_getElem? (i := 706) (by decide +kernel), List.mem_of_getElem? (i := 996) (by decide +kernel), List.mem_of_getElem? (i := 997) (by decide +kernel)⟩
def lw_privs_3 : List (MethodName × Nat) := [(⟨"LevelStoreModel", "merge", "(I)Z"⟩, 39), (⟨"LevelStoreModel", "low", "(I)I"⟩, 39), (⟨"LevelStoreModel", "high", "(I)I"⟩, 39), (⟨"LevelStoreModel", "dropAll", "(I)V"⟩, 39), (⟨"LevelStoreModel", "oldest", "()I"⟩, 39), (⟨"LevelStoreModel", "deeper", "(II)Z"⟩, 39), (⟨"LevelStoreModel", "takeOut", "(I)V"⟩, 39), (⟨"LevelStoreModel", "place", "(I)V"⟩, 39), (⟨"LevelStoreModel", "pick", "(I)I"⟩, 39), (⟨"LevelStoreModel", "upTo", "(I)I"⟩, 39), (⟨"LevelStoreModel", "look", "(II)V"⟩, 39), (⟨"LevelStoreModel", "lookInMemory", "(II)V"⟩, 39), (⟨"LevelStoreModel", "passes", "(II)Z"⟩, 39), (⟨"LevelStoreModel", "readBlocks", "(III)I"⟩, 39), (⟨"LevelStoreModel", "foundGone", "()Z"⟩, 39), (⟨"LevelStoreModel", "lookThrough", "(II)V"⟩, 39)]
theorem lw_r3 : ∀ q ∈ lw_privs_3, lw_okq q := List.forall_mem_cons.mpr ⟨lw_p32, List.forall_mem_cons.mpr ⟨lw_p33, List.forall_mem_cons.mpr ⟨lw_p34, List.forall_mem_cons.mpr ⟨lw_p35, List.forall_mem_cons.mpr ⟨lw_p36, List.forall_mem_cons.mpr ⟨lw_p37, List.forall_mem_cons.mpr ⟨lw_p38, List.forall_mem_cons.mpr ⟨lw_p39, List.forall_mem_cons.mpr ⟨lw_p40, List.forall_mem_cons.mpr ⟨lw_p41, List.forall_mem_cons.mpr ⟨lw_p42, List.forall_mem_cons.mpr ⟨lw_p43, List.forall_mem_cons.mpr ⟨lw_p44, List.forall_mem_cons.mpr ⟨lw_p45, List.forall_mem_cons.mpr ⟨lw_p46, List.forall_mem_cons.mpr ⟨lw_p47, fun _ h => absurd h List.not_mem_nil⟩⟩⟩⟩⟩⟩⟩⟩⟩⟩⟩⟩⟩⟩⟩⟩
theorem lw_p48 : lw_okq (⟨"LevelStoreModel", "blockSize", "(II)I"⟩, 39) := ⟨⟨by decide +kernel, by decide +kernel⟩, List.mem_of_getElem? (i := 706) (by decide +kernel), List.mem_of_getElem? (i := 1012) (by decide +kernel), List.mem_of_getElem? (i := 1013) (by decide +kernel)⟩
theorem lw_p49 : lw_okq (⟨"LevelStoreModel", "lose", "(I)I"⟩, 39) := ⟨⟨by decide +kernel, by decide +kernel⟩, List.mem_of_getElem? (i := 706) (by decide +kernel), List.mem_of_getElem? (i := 1020) (by decide +kernel), List.mem_of_getElem? (i := 1021) (by decide +kernel)⟩
def lw_privs_4 : List (MethodName × Nat) := [(⟨"LevelStoreModel", "blockSize", "(II)I"⟩, 39), (⟨"LevelStoreModel", "lose", "(I)I"⟩, 39)]
theorem lw_r4 : ∀ q ∈ lw_privs_4, lw_okq q := List.forall_mem_cons.mpr ⟨lw_p48, List.forall_mem_cons.mpr ⟨lw_p49, fun _ h => absurd h List.not_mem_nil⟩⟩
def lw_privs : List (MethodName × Nat) := lw_privs_1 ++ (lw_privs_2 ++ (lw_privs_3 ++ (lw_privs_4)))
def lw_tbl : List Cond := k2_sels lw_privs ++ tables_1
theorem lw_privs_ok : ∀ q ∈ lw_privs, lw_okq q := by
  show ∀ q ∈ lw_privs_1 ++ (lw_privs_2 ++ (lw_privs_3 ++ (lw_privs_4))), lw_okq q
  exact List.forall_mem_append.mpr ⟨lw_r1, List.forall_mem_append.mpr ⟨lw_r2, List.forall_mem_append.mpr ⟨lw_r3, lw_r4⟩⟩⟩
end
section
/-! A WORLD BY PLACES. A cell is named by its place in a list; ga_v turns a place into its address ('.float' stands for the script). ga_J: the machine at a place of a body computes the pure answer o; ga_M: so does a method. -/
abbrev ga_E : Type := (Nat × vp_A) ⊕ (Nat × List Value)
abbrev ga_W : Type := List ga_E × Nat × Nat
abbrev ga_R : Type := Option Value ⊕ Nat
abbrev ga_O : Type := Option (ga_R × ga_W)
def ga_v (b : Nat) (ad : Nat → Nat) : Value → Value
  | .ref k => .ref (ad k)
  | .float _ => .ref b
  | v => v
theorem ga_cat (b : Nat) (ad : Nat → Nat) (v : Value) : (ga_v b ad v).category = v.category := by cases v <;> rfl
def ga_l (b : Nat) (ad : Nat → Nat) (lv : List (Nat × Value)) : List (Nat × Value) := lv.map fun q => (q.1, ga_v b ad q.2)
theorem ga_l_at {b : Nat} {ad : Nat → Nat} {lv : List (Nat × Value)} {k i : Nat} {v : Value} (h : lv[k]? = some (i, v)) : (ga_l b ad lv)[k]? = some (i, ga_v b ad v) := by
  simp [ga_l, h]
def ga_s1 (lv : List (Nat × Value)) (i : Nat) (v : Value) : List (Nat × Value) := (i, v) :: lv.filter (fun q => !(q.1 == i) && !(q.1 + 1 == i && q.2.category == 2))
def ga_s2 (lv : List (Nat × Value)) (i : Nat) (v : Value) : List (Nat × Value) := (i, v) :: lv.filter (fun q => !(q.1 == i) && (!(q.1 == i + 1) && !(q.1 + 1 == i && q.2.category == 2)))
theorem ga_s1_l (b : Nat) (ad : Nat → Nat) (lv : List (Nat × Value)) (i : Nat) (v : Value) : (i, ga_v b ad v) :: (ga_l b ad lv).filter (fun q => !(q.1 == i) && !(q.1 + 1 == i && q.2.category == 2)) = ga_l b ad (ga_s1 lv i v) := by
  simp only [ga_l, ga_s1, List.map_cons, List.filter_map, Function.comp_def, ga_cat]
theorem ga_s2_l (b : Nat) (ad : Nat → Nat) (lv : List (Nat × Value)) (i : Nat) (v : Value) : (i, ga_v b ad v) :: (ga_l b ad lv).filter (fun q => !(q.1 == i) && (!(q.1 == i + 1) && !(q.1 + 1 == i && q.2.category == 2))) = ga_l b ad (ga_s2 lv i v) := by
  simp only [ga_l, ga_s2, List.map_cons, List.filter_map, Function.comp_def, ga_cat]
theorem ga_l_args (b : Nat) (ad : Nat → Nat) : ∀ (i : Nat) (vs : List Value), lv_args i (vs.map (ga_v b ad)) = ga_l b ad (lv_args i vs)
  | _, [] => rfl
  | i, v :: vs => by
    simp only [List.map_cons, lv_args, ga_cat, ga_l_args b ad _ vs]
    rfl
theorem ga_sl_len (b : Nat) (ad : Nat → Nat) (vs : List Value) : (lg_sl (vs.map (ga_v b ad))).length = (lg_sl vs).length := by
  induction vs with
  | nil => rfl
  | cons v vs ih =>
    simp only [lg_sl, List.map_cons, List.flatMap_cons, List.length_append, ga_cat] at ih ⊢
    rw [ih]
    split <;> rfl
theorem ga_catsum (b : Nat) (ad : Nat → Nat) (st : List Value) : ((st.map (ga_v b ad)).map fun v => v.category).sum = (st.map fun v => v.category).sum := by
  simp only [List.map_map, Function.comp_def, ga_cat]
def ga_e (tA : List (ClassId × FieldType)) (b : Nat) (ad : Nat → Nat) (x : ga_E) : va_E := match x with
  | .inl x => .inl ((tA.getD x.1 (0, .int)).1, x.2)
  | .inr o => .inr (o.1, o.2.map (ga_v b ad))
def ga_w (tA : List (ClassId × FieldType)) (b : Nat) (ad : Nat → Nat) (w : List ga_E) : va_W := w.mapIdx fun k x => (ad k, ga_e tA b ad x)
theorem ga_w_get {tA : List (ClassId × FieldType)} {b : Nat} {ad : Nat → Nat} {w : List ga_E} {k : Nat} {x : ga_E} (h : w[k]? = some x) : (ga_w tA b ad w)[k]? = some (ad k, ga_e tA b ad x) := by
  simp [ga_w, List.getElem?_mapIdx, h]
theorem ga_w_set {tA : List (ClassId × FieldType)} {b : Nat} {ad : Nat → Nat} {w : List ga_E} {k : Nat} {x : ga_E} : (ga_w tA b ad w).set k (ad k, ga_e tA b ad x) = ga_w tA b ad (w.set k x) := by
  apply List.ext_getElem?
  intro i
  by_cases h : k = i
  · subst h
    by_cases hl : k < w.length
    · rw [List.getElem?_set_self (by simpa [ga_w] using hl)]
      exact (ga_w_get (List.getElem?_set_self hl)).symm
    · rw [List.getElem?_eq_none (by simpa [ga_w] using hl), List.getElem?_eq_none (by simpa [ga_w] using hl)]
  · rw [List.getElem?_set_ne h]
    simp [ga_w, List.getElem?_mapIdx, List.getElem?_set_ne h]
theorem ga_w_len {tA : List (ClassId × FieldType)} {b : Nat} {ad : Nat → Nat} {w : List ga_E} : (ga_w tA b ad w).length = w.length := by simp [ga_w]
def ga_H (D : va_G) (cl : List vw_C) (tA : List (ClassId × FieldType)) (base b : Nat) (ad : Nat → Nat) (w : List ga_E) (H : Heap) : Prop := va_P D cl (ga_w tA b ad w) H ∧ va_D (fun q => base ≤ q) (ga_w tA b ad w)
def ga_X (n0 : Nat) (ad0 : Nat → Nat) (n : Nat) (ad : Nat → Nat) : Prop := n0 ≤ n ∧ ∀ k, k < n0 ∨ n ≤ k → ad k = ad0 k
theorem ga_X.rf {n : Nat} {ad : Nat → Nat} : ga_X n ad n ad := ⟨Nat.le_refl _, fun _ _ => rfl⟩
theorem ga_X.tr {n0 n1 n2 : Nat} {a0 a1 a2 : Nat → Nat} (h : ga_X n0 a0 n1 a1) (g : ga_X n1 a1 n2 a2) : ga_X n0 a0 n2 a2 := by
  refine ⟨Nat.le_trans h.1 g.1, fun k hk => ?_⟩
  have h1 := h.1
  have h2 := g.1
  rw [g.2 k (by omega), h.2 k (by omega)]
theorem ga_X.eq {n : Nat} {a0 a1 : Nat → Nat} (h : ga_X n a0 n a1) : a1 = a0 := funext fun k => h.2 k (by omega)
end
section
/-! THE JUDGEMENTS AND THE ROWS OF INSTRUCTIONS THAT KEEP THE WORLD -/
/-- what the law's own start S0 gives: the tables' words, and what the Statement says of the start -/
def ga_0 (S0 : State) (b : Nat) : Prop := (∀ w ∈ lw_tbl, w.before #[Value.ref b] S0 = true) ∧ (Jvm.Cond.and given_1 narrow_1).before #[Value.ref b] S0 = true
/-- since S0 no cell that was there has changed -/
def ga_Z (S0 : State) (base : Nat) (U : State) (H : Heap) : Prop := S0.heap.size ≤ base ∧ S0.WarmedH U.vm ∧ ∀ q : Nat, q < base → H[q]? = S0.heap[q]?
theorem ga_Z.warm {S0 : State} {base : Nat} {u U : State} {H : Heap} (hW : u.WarmedH U.vm) (h : ga_Z S0 base u H) : ga_Z S0 base U H := ⟨h.1, State.WarmedH.trans h.2.1 hW, h.2.2⟩
theorem ga_Z.kept {S0 : State} {base : Nat} {U : State} {H H1 : Heap} (h : ga_Z S0 base U H) (hz : base ≤ H.size) (hq : ∀ a : Nat, a < H.size → ¬ base ≤ a → H1[a]? = H[a]?) : ga_Z S0 base U H1 := ⟨h.1, h.2.1, fun q hl => (hq q (by omega) (by omega)).trans (h.2.2 q hl)⟩
/-- what a method may take as given at its start, and its callers give -/
def ga_P (S0 : State) (D : va_G) (cl : List vw_C) (tA : List (ClassId × FieldType)) (base b : Nat) (ad : Nat → Nat) (w : ga_W) (U : State) : Prop :=
  base ≤ U.heap.size ∧ va_K D cl tA U ∧ ga_Z S0 base U U.heap ∧ ga_0 S0 b ∧ ga_H D cl tA base b ad w.1 U.heap
/-- how it ends: it returned, or it threw the class xn x -/
def ga_Qc (D : va_G) (cl : List vw_C) (tA : List (ClassId × FieldType)) (base b : Nat) (ad : Nat → Nat) (n0 : Nat) (v : Option Value) (w' : ga_W) : Array Value → State → Outcome → State → Prop := fun _ st oc t =>
  (∃ ad' : Nat → Nat, ga_X n0 ad w'.1.length ad' ∧ oc = .returned (v.map (ga_v b ad')) ∧ ga_H D cl tA base b ad' w'.1 t.heap) ∧ va_F (fun q => base ≤ q) st t
def ga_Tq (xn : Nat → String) (D : va_G) (cl : List vw_C) (tA : List (ClassId × FieldType)) (base b : Nat) (ad : Nat → Nat) (n0 : Nat) (x : Nat) (w' : ga_W) (mc ms : Nat) : Array Value → State → Outcome → State → Prop := fun _ st oc t =>
  ∃ (q : Addr) (ce : Cell) (L : List Loc) (ad' : Nat → Nat), oc = .threw q ∧ t.heap[q]? = some ce ∧ ce.vm = .none ∧ st.vm.findClass (xn x) = some ce.cls ∧ st.WarmedH t.vm ∧ st.sameButNew ({ t with vm := st.vm } : State) L mc ms ∧ (∀ z ∈ L, base ≤ z.base) ∧ ga_X n0 ad w'.1.length ad' ∧ ga_H D cl tA base b ad' w'.1 t.heap ∧ va_F (fun q => base ≤ q) st t
/-- cells and slots only grow; fl: no cell comes -/
def ga_N (fl : Bool) (w w' : ga_W) : Prop := w.2.1 ≤ w'.2.1 ∧ w.2.2 ≤ w'.2.2 ∧ w.1.length ≤ w'.1.length ∧ (fl = true → w'.1.length = w.1.length)
theorem ga_N.rf {fl : Bool} {w : ga_W} : ga_N fl w w := ⟨Nat.le_refl _, Nat.le_refl _, Nat.le_refl _, fun _ => rfl⟩
theorem ga_N.tr {fl : Bool} {w w1 w2 : ga_W} (h : ga_N fl w w1) (g : ga_N fl w1 w2) : ga_N fl w w2 := ⟨Nat.le_trans h.1 g.1, Nat.le_trans h.2.1 g.2.1, Nat.le_trans h.2.2.1 g.2.2.1, fun q => (g.2.2.2 q).trans (h.2.2.2 q)⟩
/-- what holds throughout a body -/
def ga_B (l : Launch) (S0 : State) (D : va_G) (cl : List vw_C) (tA : List (ClassId × FieldType)) (base b : Nat) (p : Program) (R : Room) (s : State) (m : MethodId) (args : Array Value) (meth : Method) (c : Code) (nL : Nat) (Ts : List Cond) (own : String) (cc : ByteArray) (ret : Option FieldType) (tb : List ExceptionTableEntry) (mn : String) (fr lo : Nat) : Prop :=
  p.tables.exec = Jvm.exec ∧ c.code = cc ∧ c.maxLocals = nL ∧ meth.sig.returnType = ret ∧ s.vm.findClass own = some m.cls ∧ (∀ w ∈ Ts, w.before args s = true) ∧ meth.locks = false ∧ base ≤ s.heap.size ∧ va_K D cl tA s ∧ ga_Z S0 base s s.heap ∧ c.exceptionTable.toList = tb ∧ meth.name = mn ∧ fr ≤ R.frames ∧ lo ≤ R.locals ∧ l.stackTraces = false ∧ ga_0 S0 b
def ga_J (l : Launch) (S0 : State) (D : va_G) (cl : List vw_C) (tA : List (ClassId × FieldType)) (base b : Nat) (xn : Nat → String) (p : Program) (e : Env) (R : Room) (s : State) (m : MethodId) (args : Array Value) (below : List Frame) (meth : Method) (c : Code) (nL : Nat) (Ts : List Cond) (own : String) (cc : ByteArray) (ret : Option FieldType) (tb : List ExceptionTableEntry) (mn : String) (fr lo : Nat) (fl : Bool) (ad0 : Nat → Nat) (w0 : ga_W) (Q : ga_R → ga_W → State → Prop)
    (pc : Nat) (lv : List (Nat × Value)) (st : List Value) (w : ga_W) (o : ga_O) : Prop :=
  ∀ (r : ga_R) (w' : ga_W), o = some (r, w') → ga_N fl w w' ∧
    ((ga_B l S0 D cl tA base b p R s m args meth c nL Ts own cc ret tb mn fr lo) → w0.2.1 ≤ w.2.1 → w0.2.2 ≤ w.2.2 → w'.2.1 ≤ w0.2.1 + R.cells → w'.2.2 ≤ w0.2.2 + R.slots → ∀ (ad : Nat → Nat) (H : Heap) (locs : List Loc) (ls : Array Slot),
      ga_X w0.1.length ad0 w.1.length ad → ga_H D cl tA base b ad w.1 H → va_S (fun q => base ≤ q) s.heap H locs → lv_has ls nL (ga_l b ad lv) →
      W p l e R s m args below meth c H locs (w.2.1 - w0.2.1) (w.2.2 - w0.2.2) (Q r w') (F0 m pc ls (st.map (ga_v b ad))))
/-- the machine, with q thrown over the frame g, comes to a state with Q -/
def ga_WX (p : Program) (l : Launch) (e : Env) (R : Room) (s : State) (m : MethodId) (args : Array Value) (below : List Frame) (meth : Method) (c : Code) (H : Heap) (locs : List Loc) (k n : Nat) (Q : State → Prop) (g : JFrame) (q : Addr) : Prop :=
  ∀ T : State, T.heap = H → Stand p l e R s m args below meth c T locs k n → ∃ t, Steps p.tables e below ((T.setTop g).pushFrame (.throwing q)) t ∧ Q t
/-- .. with an exception of the class xn x over it -/
def ga_JX (l : Launch) (S0 : State) (D : va_G) (cl : List vw_C) (tA : List (ClassId × FieldType)) (base b : Nat) (xn : Nat → String) (p : Program) (e : Env) (R : Room) (s : State) (m : MethodId) (args : Array Value) (below : List Frame) (meth : Method) (c : Code) (nL : Nat) (Ts : List Cond) (own : String) (cc : ByteArray) (ret : Option FieldType) (tb : List ExceptionTableEntry) (mn : String) (fr lo : Nat) (fl : Bool) (ad0 : Nat → Nat) (w0 : ga_W) (Q : ga_R → ga_W → State → Prop)
    (pc : Nat) (lv : List (Nat × Value)) (x : Nat) (w : ga_W) (o : ga_O) : Prop :=
  ∀ (r : ga_R) (w' : ga_W), o = some (r, w') → ga_N fl w w' ∧
    ((ga_B l S0 D cl tA base b p R s m args meth c nL Ts own cc ret tb mn fr lo) → w0.2.1 ≤ w.2.1 → w0.2.2 ≤ w.2.2 → w'.2.1 ≤ w0.2.1 + R.cells → w'.2.2 ≤ w0.2.2 + R.slots → ∀ (ad : Nat → Nat) (H : Heap) (locs : List Loc) (ls : Array Slot) (rest : List Value) (ce : Cell) (q : Addr),
      ga_X w0.1.length ad0 w.1.length ad → ga_H D cl tA base b ad w.1 H → va_S (fun q => base ≤ q) s.heap H locs → lv_has ls nL (ga_l b ad lv) → H[q]? = some ce → ce.vm = .none → s.vm.findClass (xn x) = some ce.cls →
      ga_WX p l e R s m args below meth c H locs (w.2.1 - w0.2.1) (w.2.2 - w0.2.2) (Q r w') (F0 m pc ls rest) q)
section GA
variable {l : Launch} {S0 : State} {D : va_G} {cl : List vw_C} {tA : List (ClassId × FieldType)} {base b : Nat} {xn : Nat → String} {p : Program} {e : Env} {R : Room} {s : State} {m : MethodId} {args : Array Value} {below : List Frame} {meth : Method} {c : Code} {nL : Nat} {Ts : List Cond} {own : String} {cc : ByteArray} {ret : Option FieldType} {tb : List ExceptionTableEntry} {mn : String} {fr lo : Nat} {fl : Bool} {ad0 : Nat → Nat} {w0 : ga_W} {Q : ga_R → ga_W → State → Prop}
variable {pc : Nat} {lv : List (Nat × Value)} {st : List Value} {w : ga_W} {o : ga_O}
theorem ga_of {pc2 : Nat} {st2 : List Value} (h : (ga_B l S0 D cl tA base b p R s m args meth c nL Ts own cc ret tb mn fr lo) → ∀ (ad : Nat → Nat) (H : Heap) (locs : List Loc) (k n : Nat) (ls : Array Slot) (Q' : State → Prop), lv_has ls nL (ga_l b ad lv) → W p l e R s m args below meth c H locs k n Q' (F0 m pc2 ls (st2.map (ga_v b ad))) → W p l e R s m args below meth c H locs k n Q' (F0 m pc ls (st.map (ga_v b ad))))
    (k : ga_J l S0 D cl tA base b xn p e R s m args below meth c nL Ts own cc ret tb mn fr lo fl ad0 w0 Q pc2 lv st2 w o) : ga_J l S0 D cl tA base b xn p e R s m args below meth c nL Ts own cc ret tb mn fr lo fl ad0 w0 Q pc lv st w o := by
  intro r w' ho
  obtain ⟨h1, h4⟩ := k r w' ho
  exact ⟨h1, fun B a1 a2 a3 a4 ad H locs ls x1 x2 x3 x4 => h B ad H locs _ _ ls _ x4 (h4 B a1 a2 a3 a4 ad H locs ls x1 x2 x3 x4)⟩
theorem ga_ofl {pc2 : Nat} {st2 : List Value} {lv2 : List (Nat × Value)} (h : (ga_B l S0 D cl tA base b p R s m args meth c nL Ts own cc ret tb mn fr lo) → ∀ (ad : Nat → Nat) (H : Heap) (locs : List Loc) (k n : Nat) (ls : Array Slot) (Q' : State → Prop), lv_has ls nL (ga_l b ad lv) → (∀ ls2 : Array Slot, lv_has ls2 nL (ga_l b ad lv2) → W p l e R s m args below meth c H locs k n Q' (F0 m pc2 ls2 (st2.map (ga_v b ad)))) → W p l e R s m args below meth c H locs k n Q' (F0 m pc ls (st.map (ga_v b ad))))
    (k : ga_J l S0 D cl tA base b xn p e R s m args below meth c nL Ts own cc ret tb mn fr lo fl ad0 w0 Q pc2 lv2 st2 w o) : ga_J l S0 D cl tA base b xn p e R s m args below meth c nL Ts own cc ret tb mn fr lo fl ad0 w0 Q pc lv st w o := by
  intro r w' ho
  obtain ⟨h1, h4⟩ := k r w' ho
  exact ⟨h1, fun B a1 a2 a3 a4 ad H locs ls x1 x2 x3 x4 => h B ad H locs _ _ ls _ x4 (fun ls2 y => h4 B a1 a2 a3 a4 ad H locs ls2 x1 x2 x3 y)⟩
/-- nothing is claimed of a road that has no answer -/
theorem ga_no : ga_J l S0 D cl tA base b xn p e R s m args below meth c nL Ts own cc ret tb mn fr lo fl ad0 w0 Q pc lv st w none := fun _ _ h => nomatch h
/-- fewer locals are known, in another order -/
theorem ga_sub (ks : List Nat) {lv2 : List (Nat × Value)} (hl : lv_pick lv ks = lv2) (k : ga_J l S0 D cl tA base b xn p e R s m args below meth c nL Ts own cc ret tb mn fr lo fl ad0 w0 Q pc lv2 st w o) : ga_J l S0 D cl tA base b xn p e R s m args below meth c nL Ts own cc ret tb mn fr lo fl ad0 w0 Q pc lv st w o := by
  refine ga_ofl (fun B ad H locs k n ls Q' hl2 kk => kk ls (lv_sub hl2 ks ?_)) k
  subst hl
  simp only [lv_pick, ga_l, List.map_filterMap, List.getElem?_map]
theorem ga_iconst {n : Int} {v : Int32} (d : decode cc pc = .ok (.iconst n, 1)) (hv : Int32.ofInt n = v) (k : ga_J l S0 D cl tA base b xn p e R s m args below meth c nL Ts own cc ret tb mn fr lo fl ad0 w0 Q (pc + 1) lv (.int v :: st) w o) : ga_J l S0 D cl tA base b xn p e R s m args below meth c nL Ts own cc ret tb mn fr lo fl ad0 w0 Q pc lv st w o :=
  ga_of (fun B ad _ _ _ _ ls _ _ kk => lv_iconst B.1 B.2.1 d hv kk) k
theorem ga_bipush {n : Int} {v : Int32} (d : decode cc pc = .ok (.bipush n, 2)) (hv : (Int8.ofInt n).toInt32 = v) (k : ga_J l S0 D cl tA base b xn p e R s m args below meth c nL Ts own cc ret tb mn fr lo fl ad0 w0 Q (pc + 2) lv (.int v :: st) w o) : ga_J l S0 D cl tA base b xn p e R s m args below meth c nL Ts own cc ret tb mn fr lo fl ad0 w0 Q pc lv st w o :=
  ga_of (fun B ad _ _ _ _ ls _ _ kk => lv_bipush B.1 B.2.1 d hv kk) k
theorem ga_sipush {n : Int} {v : Int32} (d : decode cc pc = .ok (.sipush n, 3)) (hv : (Int16.ofInt n).toInt32 = v) (k : ga_J l S0 D cl tA base b xn p e R s m args below meth c nL Ts own cc ret tb mn fr lo fl ad0 w0 Q (pc + 3) lv (.int v :: st) w o) : ga_J l S0 D cl tA base b xn p e R s m args below meth c nL Ts own cc ret tb mn fr lo fl ad0 w0 Q pc lv st w o :=
  ga_of (fun B ad _ _ _ _ ls _ _ kk => lv_sipush B.1 B.2.1 d hv kk) k
theorem ga_null  (d : decode cc pc = .ok (.aconst_null, 1)) (k : ga_J l S0 D cl tA base b xn p e R s m args below meth c nL Ts own cc ret tb mn fr lo fl ad0 w0 Q (pc + 1) lv (.null :: st) w o) : ga_J l S0 D cl tA base b xn p e R s m args below meth c nL Ts own cc ret tb mn fr lo fl ad0 w0 Q pc lv st w o :=
  ga_of (fun B ad _ _ _ _ ls _ _ kk => lv_null B.1 B.2.1 d kk) k
theorem ga_iadd {x y : Int32} (d : decode cc pc = .ok (.iadd, 1)) (k : ga_J l S0 D cl tA base b xn p e R s m args below meth c nL Ts own cc ret tb mn fr lo fl ad0 w0 Q (pc + 1) lv (.int (x + y) :: st) w o) : ga_J l S0 D cl tA base b xn p e R s m args below meth c nL Ts own cc ret tb mn fr lo fl ad0 w0 Q pc lv (.int y :: .int x :: st) w o :=
  ga_of (fun B ad _ _ _ _ ls _ _ kk => lv_iadd B.1 B.2.1 d kk) k
theorem ga_isub {x y : Int32} (d : decode cc pc = .ok (.isub, 1)) (k : ga_J l S0 D cl tA base b xn p e R s m args below meth c nL Ts own cc ret tb mn fr lo fl ad0 w0 Q (pc + 1) lv (.int (x - y) :: st) w o) : ga_J l S0 D cl tA base b xn p e R s m args below meth c nL Ts own cc ret tb mn fr lo fl ad0 w0 Q pc lv (.int y :: .int x :: st) w o :=
  ga_of (fun B ad _ _ _ _ ls _ _ kk => lv_isub B.1 B.2.1 d kk) k
theorem ga_imul {x y : Int32} (d : decode cc pc = .ok (.imul, 1)) (k : ga_J l S0 D cl tA base b xn p e R s m args below meth c nL Ts own cc ret tb mn fr lo fl ad0 w0 Q (pc + 1) lv (.int (x * y) :: st) w o) : ga_J l S0 D cl tA base b xn p e R s m args below meth c nL Ts own cc ret tb mn fr lo fl ad0 w0 Q pc lv (.int y :: .int x :: st) w o :=
  ga_of (fun B ad _ _ _ _ ls _ _ kk => lv_imul B.1 B.2.1 d kk) k
theorem ga_iand {x y : Int32} (d : decode cc pc = .ok (.iand, 1)) (k : ga_J l S0 D cl tA base b xn p e R s m args below meth c nL Ts own cc ret tb mn fr lo fl ad0 w0 Q (pc + 1) lv (.int (x &&& y) :: st) w o) : ga_J l S0 D cl tA base b xn p e R s m args below meth c nL Ts own cc ret tb mn fr lo fl ad0 w0 Q pc lv (.int y :: .int x :: st) w o :=
  ga_of (fun B ad _ _ _ _ ls _ _ kk => lv_iand B.1 B.2.1 d kk) k
theorem ga_ior {x y : Int32} (d : decode cc pc = .ok (.ior, 1)) (k : ga_J l S0 D cl tA base b xn p e R s m args below meth c nL Ts own cc ret tb mn fr lo fl ad0 w0 Q (pc + 1) lv (.int (x ||| y) :: st) w o) : ga_J l S0 D cl tA base b xn p e R s m args below meth c nL Ts own cc ret tb mn fr lo fl ad0 w0 Q pc lv (.int y :: .int x :: st) w o :=
  ga_of (fun B ad _ _ _ _ ls _ _ kk => lv_ior B.1 B.2.1 d kk) k
theorem ga_ixor {x y : Int32} (d : decode cc pc = .ok (.ixor, 1)) (k : ga_J l S0 D cl tA base b xn p e R s m args below meth c nL Ts own cc ret tb mn fr lo fl ad0 w0 Q (pc + 1) lv (.int (x ^^^ y) :: st) w o) : ga_J l S0 D cl tA base b xn p e R s m args below meth c nL Ts own cc ret tb mn fr lo fl ad0 w0 Q pc lv (.int y :: .int x :: st) w o :=
  ga_of (fun B ad _ _ _ _ ls _ _ kk => lv_ixor B.1 B.2.1 d kk) k
theorem ga_ineg {x : Int32} (d : decode cc pc = .ok (.ineg, 1)) (k : ga_J l S0 D cl tA base b xn p e R s m args below meth c nL Ts own cc ret tb mn fr lo fl ad0 w0 Q (pc + 1) lv (.int (-x) :: st) w o) : ga_J l S0 D cl tA base b xn p e R s m args below meth c nL Ts own cc ret tb mn fr lo fl ad0 w0 Q pc lv (.int x :: st) w o :=
  ga_of (fun B ad _ _ _ _ ls _ _ kk => lv_ineg B.1 B.2.1 d kk) k
theorem ga_i2l {x : Int32} (d : decode cc pc = .ok (.i2l, 1)) (k : ga_J l S0 D cl tA base b xn p e R s m args below meth c nL Ts own cc ret tb mn fr lo fl ad0 w0 Q (pc + 1) lv (.long x.toInt64 :: st) w o) : ga_J l S0 D cl tA base b xn p e R s m args below meth c nL Ts own cc ret tb mn fr lo fl ad0 w0 Q pc lv (.int x :: st) w o :=
  ga_of (fun B ad _ _ _ _ ls _ _ kk => lv_i2l B.1 B.2.1 d rfl kk) k
theorem ga_l2i {x : Int64} (d : decode cc pc = .ok (.l2i, 1)) (k : ga_J l S0 D cl tA base b xn p e R s m args below meth c nL Ts own cc ret tb mn fr lo fl ad0 w0 Q (pc + 1) lv (.int x.toInt32 :: st) w o) : ga_J l S0 D cl tA base b xn p e R s m args below meth c nL Ts own cc ret tb mn fr lo fl ad0 w0 Q pc lv (.long x :: st) w o :=
  ga_of (fun B ad _ _ _ _ ls _ _ kk => lv_l2i B.1 B.2.1 d rfl kk) k
theorem ga_i2d {x : Int32} (d : decode cc pc = .ok (.i2d, 1)) (k : ga_J l S0 D cl tA base b xn p e R s m args below meth c nL Ts own cc ret tb mn fr lo fl ad0 w0 Q (pc + 1) lv (.double (FP.i2d x) :: st) w o) : ga_J l S0 D cl tA base b xn p e R s m args below meth c nL Ts own cc ret tb mn fr lo fl ad0 w0 Q pc lv (.int x :: st) w o :=
  ga_of (fun B ad _ _ _ _ ls _ _ kk => lv_i2d B.1 B.2.1 d kk) k
theorem ga_dcmp {x y : UInt64} {op : CmpOp} (d : decode cc pc = .ok (.dcmp op, 1)) (k : ga_J l S0 D cl tA base b xn p e R s m args below meth c nL Ts own cc ret tb mn fr lo fl ad0 w0 Q (pc + 1) lv (.int (Op.cmpValue (FP.dcmp x y) op) :: st) w o) : ga_J l S0 D cl tA base b xn p e R s m args below meth c nL Ts own cc ret tb mn fr lo fl ad0 w0 Q pc lv (.double y :: .double x :: st) w o :=
  ga_of (fun B ad _ _ _ _ ls _ _ kk => lv_dcmp B.1 B.2.1 d kk) k
theorem ga_dup {va : Value} (d : decode cc pc = .ok (.dup, 1)) (h1 : va.category = 1) (k : ga_J l S0 D cl tA base b xn p e R s m args below meth c nL Ts own cc ret tb mn fr lo fl ad0 w0 Q (pc + 1) lv (va :: va :: st) w o) : ga_J l S0 D cl tA base b xn p e R s m args below meth c nL Ts own cc ret tb mn fr lo fl ad0 w0 Q pc lv (va :: st) w o :=
  ga_of (fun B ad _ _ _ _ ls _ _ kk => lv_dup B.1 B.2.1 d ((ga_cat b ad _).trans h1) kk) k
theorem ga_pop {va : Value} (d : decode cc pc = .ok (.pop, 1)) (h1 : va.category = 1) (k : ga_J l S0 D cl tA base b xn p e R s m args below meth c nL Ts own cc ret tb mn fr lo fl ad0 w0 Q (pc + 1) lv st w o) : ga_J l S0 D cl tA base b xn p e R s m args below meth c nL Ts own cc ret tb mn fr lo fl ad0 w0 Q pc lv (va :: st) w o :=
  ga_of (fun B ad _ _ _ _ ls _ _ kk => lv_pop B.1 B.2.1 d ((ga_cat b ad _).trans h1) kk) k
theorem ga_dup_x1 {va vb : Value} (d : decode cc pc = .ok (.dup_x1, 1)) (h1 : va.category = 1) (h2 : vb.category = 1) (k : ga_J l S0 D cl tA base b xn p e R s m args below meth c nL Ts own cc ret tb mn fr lo fl ad0 w0 Q (pc + 1) lv (va :: vb :: va :: st) w o) : ga_J l S0 D cl tA base b xn p e R s m args below meth c nL Ts own cc ret tb mn fr lo fl ad0 w0 Q pc lv (va :: vb :: st) w o :=
  ga_of (fun B ad _ _ _ _ ls _ _ kk => lv_dup_x1 B.1 B.2.1 d ((ga_cat b ad _).trans h1) ((ga_cat b ad _).trans h2) kk) k
theorem ga_dup_x2 {va vb vd : Value} (d : decode cc pc = .ok (.dup_x2, 1)) (h1 : va.category = 1) (h2 : vb.category = 1) (h3 : vd.category = 1) (k : ga_J l S0 D cl tA base b xn p e R s m args below meth c nL Ts own cc ret tb mn fr lo fl ad0 w0 Q (pc + 1) lv (va :: vb :: vd :: va :: st) w o) : ga_J l S0 D cl tA base b xn p e R s m args below meth c nL Ts own cc ret tb mn fr lo fl ad0 w0 Q pc lv (va :: vb :: vd :: st) w o :=
  ga_of (fun B ad _ _ _ _ ls _ _ kk => lv_dup_x2 B.1 B.2.1 d ((ga_cat b ad _).trans h1) ((ga_cat b ad _).trans h2) ((ga_cat b ad _).trans h3) kk) k
theorem ga_dup2 {va vb : Value} (d : decode cc pc = .ok (.dup2, 1)) (h1 : va.category = 1) (h2 : vb.category = 1) (k : ga_J l S0 D cl tA base b xn p e R s m args below meth c nL Ts own cc ret tb mn fr lo fl ad0 w0 Q (pc + 1) lv (va :: vb :: va :: vb :: st) w o) : ga_J l S0 D cl tA base b xn p e R s m args below meth c nL Ts own cc ret tb mn fr lo fl ad0 w0 Q pc lv (va :: vb :: st) w o :=
  ga_of (fun B ad _ _ _ _ ls _ _ kk => lv_dup2_11 B.1 B.2.1 d ((ga_cat b ad _).trans h1) ((ga_cat b ad _).trans h2) kk) k
theorem ga_idiv {x y : Int32} (d : decode cc pc = .ok (.idiv, 1)) (hne : ¬ y = 0) (k : ga_J l S0 D cl tA base b xn p e R s m args below meth c nL Ts own cc ret tb mn fr lo fl ad0 w0 Q (pc + 1) lv (.int (x / y) :: st) w o) : ga_J l S0 D cl tA base b xn p e R s m args below meth c nL Ts own cc ret tb mn fr lo fl ad0 w0 Q pc lv (.int y :: .int x :: st) w o :=
  ga_of (fun B ad _ _ _ _ ls _ _ kk => lv_idiv B.1 B.2.1 d hne kk) k
theorem ga_irem {x y : Int32} (d : decode cc pc = .ok (.irem, 1)) (hne : ¬ y = 0) (k : ga_J l S0 D cl tA base b xn p e R s m args below meth c nL Ts own cc ret tb mn fr lo fl ad0 w0 Q (pc + 1) lv (.int (x - x / y * y) :: st) w o) : ga_J l S0 D cl tA base b xn p e R s m args below meth c nL Ts own cc ret tb mn fr lo fl ad0 w0 Q pc lv (.int y :: .int x :: st) w o :=
  ga_of (fun B ad _ _ _ _ ls _ _ kk => lv_irem B.1 B.2.1 d hne kk) k
theorem ga_ddiv {x y : UInt64} (d : decode cc pc = .ok (.ddiv, 1)) (hne : vf_n64 (FP.ddiv x y)) (k : ga_J l S0 D cl tA base b xn p e R s m args below meth c nL Ts own cc ret tb mn fr lo fl ad0 w0 Q (pc + 1) lv (.double (FP.ddiv x y) :: st) w o) : ga_J l S0 D cl tA base b xn p e R s m args below meth c nL Ts own cc ret tb mn fr lo fl ad0 w0 Q pc lv (.double y :: .double x :: st) w o :=
  ga_of (fun B ad _ _ _ _ ls _ _ kk => lv_ddiv B.1 B.2.1 d hne kk) k
theorem ga_ladd {x y : Int64} (d : decode cc pc = .ok (.ladd, 1)) (k : ga_J l S0 D cl tA base b xn p e R s m args below meth c nL Ts own cc ret tb mn fr lo fl ad0 w0 Q (pc + 1) lv (.long (x + y) :: st) w o) : ga_J l S0 D cl tA base b xn p e R s m args below meth c nL Ts own cc ret tb mn fr lo fl ad0 w0 Q pc lv (.long y :: .long x :: st) w o :=
  ga_of (fun B ad _ _ _ _ ls _ _ kk => lv_ladd B.1 B.2.1 d kk) k
theorem ga_lsub {x y : Int64} (d : decode cc pc = .ok (.lsub, 1)) (k : ga_J l S0 D cl tA base b xn p e R s m args below meth c nL Ts own cc ret tb mn fr lo fl ad0 w0 Q (pc + 1) lv (.long (x - y) :: st) w o) : ga_J l S0 D cl tA base b xn p e R s m args below meth c nL Ts own cc ret tb mn fr lo fl ad0 w0 Q pc lv (.long y :: .long x :: st) w o :=
  ga_of (fun B ad _ _ _ _ ls _ _ kk => lv_lsub B.1 B.2.1 d kk) k
theorem ga_land {x y : Int64} (d : decode cc pc = .ok (.land, 1)) (k : ga_J l S0 D cl tA base b xn p e R s m args below meth c nL Ts own cc ret tb mn fr lo fl ad0 w0 Q (pc + 1) lv (.long (x &&& y) :: st) w o) : ga_J l S0 D cl tA base b xn p e R s m args below meth c nL Ts own cc ret tb mn fr lo fl ad0 w0 Q pc lv (.long y :: .long x :: st) w o :=
  ga_of (fun B ad _ _ _ _ ls _ _ kk => lv_land B.1 B.2.1 d kk) k
theorem ga_lor {x y : Int64} (d : decode cc pc = .ok (.lor, 1)) (k : ga_J l S0 D cl tA base b xn p e R s m args below meth c nL Ts own cc ret tb mn fr lo fl ad0 w0 Q (pc + 1) lv (.long (x ||| y) :: st) w o) : ga_J l S0 D cl tA base b xn p e R s m args below meth c nL Ts own cc ret tb mn fr lo fl ad0 w0 Q pc lv (.long y :: .long x :: st) w o :=
  ga_of (fun B ad _ _ _ _ ls _ _ kk => lv_lor B.1 B.2.1 d kk) k
theorem ga_lxor {x y : Int64} (d : decode cc pc = .ok (.lxor, 1)) (k : ga_J l S0 D cl tA base b xn p e R s m args below meth c nL Ts own cc ret tb mn fr lo fl ad0 w0 Q (pc + 1) lv (.long (x ^^^ y) :: st) w o) : ga_J l S0 D cl tA base b xn p e R s m args below meth c nL Ts own cc ret tb mn fr lo fl ad0 w0 Q pc lv (.long y :: .long x :: st) w o :=
  ga_of (fun B ad _ _ _ _ ls _ _ kk => lv_lxor B.1 B.2.1 d kk) k
theorem ga_lconst {n : Fin 2} {v : Int64} (d : decode cc pc = .ok (.lconst n, 1)) (hv : Int64.ofNat (n : Nat) = v) (k : ga_J l S0 D cl tA base b xn p e R s m args below meth c nL Ts own cc ret tb mn fr lo fl ad0 w0 Q (pc + 1) lv (.long v :: st) w o) : ga_J l S0 D cl tA base b xn p e R s m args below meth c nL Ts own cc ret tb mn fr lo fl ad0 w0 Q pc lv st w o :=
  ga_of (fun B ad _ _ _ _ ls _ _ kk => lv_lconst B.1 B.2.1 d hv kk) k
theorem ga_lshl {x : Int64} {y : Int32} (d : decode cc pc = .ok (.lshl, 1)) (k : ga_J l S0 D cl tA base b xn p e R s m args below meth c nL Ts own cc ret tb mn fr lo fl ad0 w0 Q (pc + 1) lv (.long (x <<< (y.toInt64 &&& 63)) :: st) w o) : ga_J l S0 D cl tA base b xn p e R s m args below meth c nL Ts own cc ret tb mn fr lo fl ad0 w0 Q pc lv (.int y :: .long x :: st) w o :=
  ga_of (fun B ad _ _ _ _ ls _ _ kk => lv_lshl B.1 B.2.1 d rfl kk) k
theorem ga_lshr {x : Int64} {y : Int32} (d : decode cc pc = .ok (.lshr, 1)) (k : ga_J l S0 D cl tA base b xn p e R s m args below meth c nL Ts own cc ret tb mn fr lo fl ad0 w0 Q (pc + 1) lv (.long (x >>> (y.toInt64 &&& 63)) :: st) w o) : ga_J l S0 D cl tA base b xn p e R s m args below meth c nL Ts own cc ret tb mn fr lo fl ad0 w0 Q pc lv (.int y :: .long x :: st) w o :=
  ga_of (fun B ad _ _ _ _ ls _ _ kk => lv_lshr B.1 B.2.1 d rfl kk) k
theorem ga_ishl {x y : Int32} (d : decode cc pc = .ok (.ishl, 1)) (k : ga_J l S0 D cl tA base b xn p e R s m args below meth c nL Ts own cc ret tb mn fr lo fl ad0 w0 Q (pc + 1) lv (.int (x <<< (y &&& 31)) :: st) w o) : ga_J l S0 D cl tA base b xn p e R s m args below meth c nL Ts own cc ret tb mn fr lo fl ad0 w0 Q pc lv (.int y :: .int x :: st) w o :=
  ga_of (fun B ad _ _ _ _ ls _ _ kk => lv_ishl B.1 B.2.1 d kk) k
theorem ga_lcmp {x y : Int64} (d : decode cc pc = .ok (.lcmp, 1)) (k : ga_J l S0 D cl tA base b xn p e R s m args below meth c nL Ts own cc ret tb mn fr lo fl ad0 w0 Q (pc + 1) lv (.int (lg_cmp x y) :: st) w o) : ga_J l S0 D cl tA base b xn p e R s m args below meth c nL Ts own cc ret tb mn fr lo fl ad0 w0 Q pc lv (.long y :: .long x :: st) w o :=
  ga_of (fun B ad _ _ _ _ ls _ _ kk => W.lcmp B.1 B.2.1 d kk) k
theorem ga_iload_n {j : Fin 4} {i q : Nat} {x : Int32} (d : decode cc pc = .ok (.iload_n j, 1)) (hi : (j : Nat) = i) (hq : lv[q]? = some (i, .int x)) (k : ga_J l S0 D cl tA base b xn p e R s m args below meth c nL Ts own cc ret tb mn fr lo fl ad0 w0 Q (pc + 1) lv (.int x :: st) w o) : ga_J l S0 D cl tA base b xn p e R s m args below meth c nL Ts own cc ret tb mn fr lo fl ad0 w0 Q pc lv st w o :=
  ga_of (fun B ad _ _ _ _ ls _ hl kk => lv_iload_n B.1 B.2.1 d hi (lv_at hl q (ga_l_at hq)) kk) k
theorem ga_iload {i q : Nat} {x : Int32} (d : decode cc pc = .ok (.iload i, 2)) (hq : lv[q]? = some (i, .int x)) (k : ga_J l S0 D cl tA base b xn p e R s m args below meth c nL Ts own cc ret tb mn fr lo fl ad0 w0 Q (pc + 2) lv (.int x :: st) w o) : ga_J l S0 D cl tA base b xn p e R s m args below meth c nL Ts own cc ret tb mn fr lo fl ad0 w0 Q pc lv st w o :=
  ga_of (fun B ad _ _ _ _ ls _ hl kk => lv_iload B.1 B.2.1 d (lv_at hl q (ga_l_at hq)) kk) k
theorem ga_lload_n {j : Fin 4} {i q : Nat} {x : Int64} (d : decode cc pc = .ok (.lload_n j, 1)) (hi : (j : Nat) = i) (hq : lv[q]? = some (i, .long x)) (k : ga_J l S0 D cl tA base b xn p e R s m args below meth c nL Ts own cc ret tb mn fr lo fl ad0 w0 Q (pc + 1) lv (.long x :: st) w o) : ga_J l S0 D cl tA base b xn p e R s m args below meth c nL Ts own cc ret tb mn fr lo fl ad0 w0 Q pc lv st w o :=
  ga_of (fun B ad _ _ _ _ ls _ hl kk => lv_lload_n B.1 B.2.1 d hi (lv_at hl q (ga_l_at hq)) kk) k
theorem ga_lload {i q : Nat} {x : Int64} (d : decode cc pc = .ok (.lload i, 2)) (hq : lv[q]? = some (i, .long x)) (k : ga_J l S0 D cl tA base b xn p e R s m args below meth c nL Ts own cc ret tb mn fr lo fl ad0 w0 Q (pc + 2) lv (.long x :: st) w o) : ga_J l S0 D cl tA base b xn p e R s m args below meth c nL Ts own cc ret tb mn fr lo fl ad0 w0 Q pc lv st w o :=
  ga_of (fun B ad _ _ _ _ ls _ hl kk => lv_lload B.1 B.2.1 d (lv_at hl q (ga_l_at hq)) kk) k
theorem ga_dload_n {j : Fin 4} {i q : Nat} {x : UInt64} (d : decode cc pc = .ok (.dload_n j, 1)) (hi : (j : Nat) = i) (hq : lv[q]? = some (i, .double x)) (k : ga_J l S0 D cl tA base b xn p e R s m args below meth c nL Ts own cc ret tb mn fr lo fl ad0 w0 Q (pc + 1) lv (.double x :: st) w o) : ga_J l S0 D cl tA base b xn p e R s m args below meth c nL Ts own cc ret tb mn fr lo fl ad0 w0 Q pc lv st w o :=
  ga_of (fun B ad _ _ _ _ ls _ hl kk => lv_dload_n B.1 B.2.1 d hi (lv_at hl q (ga_l_at hq)) kk) k
theorem ga_dload {i q : Nat} {x : UInt64} (d : decode cc pc = .ok (.dload i, 2)) (hq : lv[q]? = some (i, .double x)) (k : ga_J l S0 D cl tA base b xn p e R s m args below meth c nL Ts own cc ret tb mn fr lo fl ad0 w0 Q (pc + 2) lv (.double x :: st) w o) : ga_J l S0 D cl tA base b xn p e R s m args below meth c nL Ts own cc ret tb mn fr lo fl ad0 w0 Q pc lv st w o :=
  ga_of (fun B ad _ _ _ _ ls _ hl kk => lv_dload B.1 B.2.1 d (lv_at hl q (ga_l_at hq)) kk) k
theorem ga_aload_n {j : Fin 4} {i q : Nat} {x : Nat} (d : decode cc pc = .ok (.aload_n j, 1)) (hi : (j : Nat) = i) (hq : lv[q]? = some (i, .ref x)) (k : ga_J l S0 D cl tA base b xn p e R s m args below meth c nL Ts own cc ret tb mn fr lo fl ad0 w0 Q (pc + 1) lv (.ref x :: st) w o) : ga_J l S0 D cl tA base b xn p e R s m args below meth c nL Ts own cc ret tb mn fr lo fl ad0 w0 Q pc lv st w o :=
  ga_of (fun B ad _ _ _ _ ls _ hl kk => lv_aload_n B.1 B.2.1 d hi (lv_at hl q (ga_l_at hq)) kk) k
theorem ga_aload {i q : Nat} {x : Nat} (d : decode cc pc = .ok (.aload i, 2)) (hq : lv[q]? = some (i, .ref x)) (k : ga_J l S0 D cl tA base b xn p e R s m args below meth c nL Ts own cc ret tb mn fr lo fl ad0 w0 Q (pc + 2) lv (.ref x :: st) w o) : ga_J l S0 D cl tA base b xn p e R s m args below meth c nL Ts own cc ret tb mn fr lo fl ad0 w0 Q pc lv st w o :=
  ga_of (fun B ad _ _ _ _ ls _ hl kk => lv_aload B.1 B.2.1 d (lv_at hl q (ga_l_at hq)) kk) k
theorem ga_sload_n {j : Fin 4} {i q : Nat} {x : UInt32} (d : decode cc pc = .ok (.aload_n j, 1)) (hi : (j : Nat) = i) (hq : lv[q]? = some (i, .float x)) (k : ga_J l S0 D cl tA base b xn p e R s m args below meth c nL Ts own cc ret tb mn fr lo fl ad0 w0 Q (pc + 1) lv (.float x :: st) w o) : ga_J l S0 D cl tA base b xn p e R s m args below meth c nL Ts own cc ret tb mn fr lo fl ad0 w0 Q pc lv st w o :=
  ga_of (fun B ad _ _ _ _ ls _ hl kk => lv_aload_n B.1 B.2.1 d hi (lv_at hl q (ga_l_at hq)) kk) k
theorem ga_sload {i q : Nat} {x : UInt32} (d : decode cc pc = .ok (.aload i, 2)) (hq : lv[q]? = some (i, .float x)) (k : ga_J l S0 D cl tA base b xn p e R s m args below meth c nL Ts own cc ret tb mn fr lo fl ad0 w0 Q (pc + 2) lv (.float x :: st) w o) : ga_J l S0 D cl tA base b xn p e R s m args below meth c nL Ts own cc ret tb mn fr lo fl ad0 w0 Q pc lv st w o :=
  ga_of (fun B ad _ _ _ _ ls _ hl kk => lv_aload B.1 B.2.1 d (lv_at hl q (ga_l_at hq)) kk) k
theorem ga_nload_n {j : Fin 4} {i q : Nat}  (d : decode cc pc = .ok (.aload_n j, 1)) (hi : (j : Nat) = i) (hq : lv[q]? = some (i, .null)) (k : ga_J l S0 D cl tA base b xn p e R s m args below meth c nL Ts own cc ret tb mn fr lo fl ad0 w0 Q (pc + 1) lv (.null :: st) w o) : ga_J l S0 D cl tA base b xn p e R s m args below meth c nL Ts own cc ret tb mn fr lo fl ad0 w0 Q pc lv st w o :=
  ga_of (fun B ad _ _ _ _ ls _ hl kk => lv_aload_nN B.1 B.2.1 d hi (lv_at hl q (ga_l_at hq)) kk) k
theorem ga_nload {i q : Nat}  (d : decode cc pc = .ok (.aload i, 2)) (hq : lv[q]? = some (i, .null)) (k : ga_J l S0 D cl tA base b xn p e R s m args below meth c nL Ts own cc ret tb mn fr lo fl ad0 w0 Q (pc + 2) lv (.null :: st) w o) : ga_J l S0 D cl tA base b xn p e R s m args below meth c nL Ts own cc ret tb mn fr lo fl ad0 w0 Q pc lv st w o :=
  ga_of (fun B ad _ _ _ _ ls _ hl kk => lv_aloadN B.1 B.2.1 d (lv_at hl q (ga_l_at hq)) kk) k
theorem ga_istore_n {j : Fin 4} {i : Nat} {x : Int32} {lv2 : List (Nat × Value)} (d : decode cc pc = .ok (.istore_n j, 1)) (hi : (j : Nat) = i) (hn : i < nL) (h2 : ga_s1 lv i (.int x) = lv2) (k : ga_J l S0 D cl tA base b xn p e R s m args below meth c nL Ts own cc ret tb mn fr lo fl ad0 w0 Q (pc + 1) lv2 st w o) : ga_J l S0 D cl tA base b xn p e R s m args below meth c nL Ts own cc ret tb mn fr lo fl ad0 w0 Q pc lv (.int x :: st) w o :=
  ga_ofl (fun B ad _ _ _ _ ls _ hl kk => lv_istore_n B.1 B.2.1 d hi hl hn ((ga_s1_l b ad lv i (.int x)).trans (by rw [h2])) kk) k
theorem ga_istore {i : Nat} {x : Int32} {lv2 : List (Nat × Value)} (d : decode cc pc = .ok (.istore i, 2)) (hn : i < nL) (h2 : ga_s1 lv i (.int x) = lv2) (k : ga_J l S0 D cl tA base b xn p e R s m args below meth c nL Ts own cc ret tb mn fr lo fl ad0 w0 Q (pc + 2) lv2 st w o) : ga_J l S0 D cl tA base b xn p e R s m args below meth c nL Ts own cc ret tb mn fr lo fl ad0 w0 Q pc lv (.int x :: st) w o :=
  ga_ofl (fun B ad _ _ _ _ ls _ hl kk => lv_istore B.1 B.2.1 d hl hn ((ga_s1_l b ad lv i (.int x)).trans (by rw [h2])) kk) k
theorem ga_lstore_n {j : Fin 4} {i : Nat} {x : Int64} {lv2 : List (Nat × Value)} (d : decode cc pc = .ok (.lstore_n j, 1)) (hi : (j : Nat) = i) (hn : i + 1 < nL) (h2 : ga_s2 lv i (.long x) = lv2) (k : ga_J l S0 D cl tA base b xn p e R s m args below meth c nL Ts own cc ret tb mn fr lo fl ad0 w0 Q (pc + 1) lv2 st w o) : ga_J l S0 D cl tA base b xn p e R s m args below meth c nL Ts own cc ret tb mn fr lo fl ad0 w0 Q pc lv (.long x :: st) w o :=
  ga_ofl (fun B ad _ _ _ _ ls _ hl kk => lv_lstore_n B.1 B.2.1 d hi hl hn ((ga_s2_l b ad lv i (.long x)).trans (by rw [h2])) kk) k
theorem ga_lstore {i : Nat} {x : Int64} {lv2 : List (Nat × Value)} (d : decode cc pc = .ok (.lstore i, 2)) (hn : i + 1 < nL) (h2 : ga_s2 lv i (.long x) = lv2) (k : ga_J l S0 D cl tA base b xn p e R s m args below meth c nL Ts own cc ret tb mn fr lo fl ad0 w0 Q (pc + 2) lv2 st w o) : ga_J l S0 D cl tA base b xn p e R s m args below meth c nL Ts own cc ret tb mn fr lo fl ad0 w0 Q pc lv (.long x :: st) w o :=
  ga_ofl (fun B ad _ _ _ _ ls _ hl kk => lv_lstore B.1 B.2.1 d hl hn ((ga_s2_l b ad lv i (.long x)).trans (by rw [h2])) kk) k
theorem ga_dstore_n {j : Fin 4} {i : Nat} {x : UInt64} {lv2 : List (Nat × Value)} (d : decode cc pc = .ok (.dstore_n j, 1)) (hi : (j : Nat) = i) (hn : i + 1 < nL) (h2 : ga_s2 lv i (.double x) = lv2) (k : ga_J l S0 D cl tA base b xn p e R s m args below meth c nL Ts own cc ret tb mn fr lo fl ad0 w0 Q (pc + 1) lv2 st w o) : ga_J l S0 D cl tA base b xn p e R s m args below meth c nL Ts own cc ret tb mn fr lo fl ad0 w0 Q pc lv (.double x :: st) w o :=
  ga_ofl (fun B ad _ _ _ _ ls _ hl kk => lv_dstore_n B.1 B.2.1 d hi hl hn ((ga_s2_l b ad lv i (.double x)).trans (by rw [h2])) kk) k
theorem ga_dstore {i : Nat} {x : UInt64} {lv2 : List (Nat × Value)} (d : decode cc pc = .ok (.dstore i, 2)) (hn : i + 1 < nL) (h2 : ga_s2 lv i (.double x) = lv2) (k : ga_J l S0 D cl tA base b xn p e R s m args below meth c nL Ts own cc ret tb mn fr lo fl ad0 w0 Q (pc + 2) lv2 st w o) : ga_J l S0 D cl tA base b xn p e R s m args below meth c nL Ts own cc ret tb mn fr lo fl ad0 w0 Q pc lv (.double x :: st) w o :=
  ga_ofl (fun B ad _ _ _ _ ls _ hl kk => lv_dstore B.1 B.2.1 d hl hn ((ga_s2_l b ad lv i (.double x)).trans (by rw [h2])) kk) k
theorem ga_astore_n {j : Fin 4} {i : Nat} {x : Nat} {lv2 : List (Nat × Value)} (d : decode cc pc = .ok (.astore_n j, 1)) (hi : (j : Nat) = i) (hn : i < nL) (h2 : ga_s1 lv i (.ref x) = lv2) (k : ga_J l S0 D cl tA base b xn p e R s m args below meth c nL Ts own cc ret tb mn fr lo fl ad0 w0 Q (pc + 1) lv2 st w o) : ga_J l S0 D cl tA base b xn p e R s m args below meth c nL Ts own cc ret tb mn fr lo fl ad0 w0 Q pc lv (.ref x :: st) w o :=
  ga_ofl (fun B ad _ _ _ _ ls _ hl kk => lv_astore_n B.1 B.2.1 d hi hl hn ((ga_s1_l b ad lv i (.ref x)).trans (by rw [h2])) kk) k
theorem ga_astore {i : Nat} {x : Nat} {lv2 : List (Nat × Value)} (d : decode cc pc = .ok (.astore i, 2)) (hn : i < nL) (h2 : ga_s1 lv i (.ref x) = lv2) (k : ga_J l S0 D cl tA base b xn p e R s m args below meth c nL Ts own cc ret tb mn fr lo fl ad0 w0 Q (pc + 2) lv2 st w o) : ga_J l S0 D cl tA base b xn p e R s m args below meth c nL Ts own cc ret tb mn fr lo fl ad0 w0 Q pc lv (.ref x :: st) w o :=
  ga_ofl (fun B ad _ _ _ _ ls _ hl kk => lv_astore B.1 B.2.1 d hl hn ((ga_s1_l b ad lv i (.ref x)).trans (by rw [h2])) kk) k
theorem ga_iinc {i q : Nat} {n : Int} {x v : Int32} {lv2 : List (Nat × Value)} (d : decode cc pc = .ok (.iinc i n, 3)) (hq : lv[q]? = some (i, .int x)) (hv : x + Int32.ofInt n = v) (hn : i < nL) (h2 : ga_s1 lv i (.int v) = lv2) (k : ga_J l S0 D cl tA base b xn p e R s m args below meth c nL Ts own cc ret tb mn fr lo fl ad0 w0 Q (pc + 3) lv2 st w o) : ga_J l S0 D cl tA base b xn p e R s m args below meth c nL Ts own cc ret tb mn fr lo fl ad0 w0 Q pc lv st w o :=
  ga_ofl (fun B ad _ _ _ _ ls _ hl kk => lv_iinc B.1 B.2.1 d hl (ga_l_at hq) hv hn ((ga_s1_l b ad lv i (.int v)).trans (by rw [h2])) kk) k
theorem ga_if_eq {x : Int32} {off : Int} {tgt : Nat} {o2 : ga_O} (d : decode cc pc = .ok (.ifCond .eq off, 3)) (ht : (pc : Int) + off = (tgt : Int)) (k1 : x = 0 → ga_J l S0 D cl tA base b xn p e R s m args below meth c nL Ts own cc ret tb mn fr lo fl ad0 w0 Q tgt lv st w o) (k2 : ¬ (x = 0) → ga_J l S0 D cl tA base b xn p e R s m args below meth c nL Ts own cc ret tb mn fr lo fl ad0 w0 Q (pc + 3) lv st w o2) : ga_J l S0 D cl tA base b xn p e R s m args below meth c nL Ts own cc ret tb mn fr lo fl ad0 w0 Q pc lv (.int x :: st) w (if x = 0 then o else o2) := by
  by_cases hc : x = 0
  · rw [if_pos hc]
    exact ga_of (fun B _ _ _ _ _ _ _ _ kk => lv_if_eq B.1 B.2.1 d ht (fun _ => kk) (fun z => absurd hc z)) (k1 hc)
  · rw [if_neg hc]
    exact ga_of (fun B _ _ _ _ _ _ _ _ kk => lv_if_eq B.1 B.2.1 d ht (fun z => absurd z hc) (fun _ => kk)) (k2 hc)
theorem ga_icmp_eq {x y : Int32} {off : Int} {tgt : Nat} {o2 : ga_O} (d : decode cc pc = .ok (.if_icmp .eq off, 3)) (ht : (pc : Int) + off = (tgt : Int)) (k1 : x = y → ga_J l S0 D cl tA base b xn p e R s m args below meth c nL Ts own cc ret tb mn fr lo fl ad0 w0 Q tgt lv st w o) (k2 : ¬ (x = y) → ga_J l S0 D cl tA base b xn p e R s m args below meth c nL Ts own cc ret tb mn fr lo fl ad0 w0 Q (pc + 3) lv st w o2) : ga_J l S0 D cl tA base b xn p e R s m args below meth c nL Ts own cc ret tb mn fr lo fl ad0 w0 Q pc lv (.int y :: .int x :: st) w (if x = y then o else o2) := by
  by_cases hc : x = y
  · rw [if_pos hc]
    exact ga_of (fun B _ _ _ _ _ _ _ _ kk => lv_icmp_eq B.1 B.2.1 d ht (fun _ => kk) (fun z => absurd hc z)) (k1 hc)
  · rw [if_neg hc]
    exact ga_of (fun B _ _ _ _ _ _ _ _ kk => lv_icmp_eq B.1 B.2.1 d ht (fun z => absurd z hc) (fun _ => kk)) (k2 hc)
theorem ga_if_lt {x : Int32} {off : Int} {tgt : Nat} {o2 : ga_O} (d : decode cc pc = .ok (.ifCond .lt off, 3)) (ht : (pc : Int) + off = (tgt : Int)) (k1 : x < 0 → ga_J l S0 D cl tA base b xn p e R s m args below meth c nL Ts own cc ret tb mn fr lo fl ad0 w0 Q tgt lv st w o) (k2 : ¬ (x < 0) → ga_J l S0 D cl tA base b xn p e R s m args below meth c nL Ts own cc ret tb mn fr lo fl ad0 w0 Q (pc + 3) lv st w o2) : ga_J l S0 D cl tA base b xn p e R s m args below meth c nL Ts own cc ret tb mn fr lo fl ad0 w0 Q pc lv (.int x :: st) w (if x < 0 then o else o2) := by
  by_cases hc : x < 0
  · rw [if_pos hc]
    exact ga_of (fun B _ _ _ _ _ _ _ _ kk => lv_if_lt B.1 B.2.1 d ht (fun _ => kk) (fun z => absurd hc z)) (k1 hc)
  · rw [if_neg hc]
    exact ga_of (fun B _ _ _ _ _ _ _ _ kk => lv_if_lt B.1 B.2.1 d ht (fun z => absurd z hc) (fun _ => kk)) (k2 hc)
theorem ga_icmp_lt {x y : Int32} {off : Int} {tgt : Nat} {o2 : ga_O} (d : decode cc pc = .ok (.if_icmp .lt off, 3)) (ht : (pc : Int) + off = (tgt : Int)) (k1 : x < y → ga_J l S0 D cl tA base b xn p e R s m args below meth c nL Ts own cc ret tb mn fr lo fl ad0 w0 Q tgt lv st w o) (k2 : ¬ (x < y) → ga_J l S0 D cl tA base b xn p e R s m args below meth c nL Ts own cc ret tb mn fr lo fl ad0 w0 Q (pc + 3) lv st w o2) : ga_J l S0 D cl tA base b xn p e R s m args below meth c nL Ts own cc ret tb mn fr lo fl ad0 w0 Q pc lv (.int y :: .int x :: st) w (if x < y then o else o2) := by
  by_cases hc : x < y
  · rw [if_pos hc]
    exact ga_of (fun B _ _ _ _ _ _ _ _ kk => lv_icmp_lt B.1 B.2.1 d ht (fun _ => kk) (fun z => absurd hc z)) (k1 hc)
  · rw [if_neg hc]
    exact ga_of (fun B _ _ _ _ _ _ _ _ kk => lv_icmp_lt B.1 B.2.1 d ht (fun z => absurd z hc) (fun _ => kk)) (k2 hc)
theorem ga_if_ge {x : Int32} {off : Int} {tgt : Nat} {o2 : ga_O} (d : decode cc pc = .ok (.ifCond .ge off, 3)) (ht : (pc : Int) + off = (tgt : Int)) (k1 : 0 ≤ x → ga_J l S0 D cl tA base b xn p e R s m args below meth c nL Ts own cc ret tb mn fr lo fl ad0 w0 Q tgt lv st w o) (k2 : ¬ (0 ≤ x) → ga_J l S0 D cl tA base b xn p e R s m args below meth c nL Ts own cc ret tb mn fr lo fl ad0 w0 Q (pc + 3) lv st w o2) : ga_J l S0 D cl tA base b xn p e R s m args below meth c nL Ts own cc ret tb mn fr lo fl ad0 w0 Q pc lv (.int x :: st) w (if 0 ≤ x then o else o2) := by
  by_cases hc : 0 ≤ x
  · rw [if_pos hc]
    exact ga_of (fun B _ _ _ _ _ _ _ _ kk => lv_if_ge B.1 B.2.1 d ht (fun _ => kk) (fun z => absurd hc z)) (k1 hc)
  · rw [if_neg hc]
    exact ga_of (fun B _ _ _ _ _ _ _ _ kk => lv_if_ge B.1 B.2.1 d ht (fun z => absurd z hc) (fun _ => kk)) (k2 hc)
theorem ga_icmp_ge {x y : Int32} {off : Int} {tgt : Nat} {o2 : ga_O} (d : decode cc pc = .ok (.if_icmp .ge off, 3)) (ht : (pc : Int) + off = (tgt : Int)) (k1 : y ≤ x → ga_J l S0 D cl tA base b xn p e R s m args below meth c nL Ts own cc ret tb mn fr lo fl ad0 w0 Q tgt lv st w o) (k2 : ¬ (y ≤ x) → ga_J l S0 D cl tA base b xn p e R s m args below meth c nL Ts own cc ret tb mn fr lo fl ad0 w0 Q (pc + 3) lv st w o2) : ga_J l S0 D cl tA base b xn p e R s m args below meth c nL Ts own cc ret tb mn fr lo fl ad0 w0 Q pc lv (.int y :: .int x :: st) w (if y ≤ x then o else o2) := by
  by_cases hc : y ≤ x
  · rw [if_pos hc]
    exact ga_of (fun B _ _ _ _ _ _ _ _ kk => lv_icmp_ge B.1 B.2.1 d ht (fun _ => kk) (fun z => absurd hc z)) (k1 hc)
  · rw [if_neg hc]
    exact ga_of (fun B _ _ _ _ _ _ _ _ kk => lv_icmp_ge B.1 B.2.1 d ht (fun z => absurd z hc) (fun _ => kk)) (k2 hc)
theorem ga_if_gt {x : Int32} {off : Int} {tgt : Nat} {o2 : ga_O} (d : decode cc pc = .ok (.ifCond .gt off, 3)) (ht : (pc : Int) + off = (tgt : Int)) (k1 : 0 < x → ga_J l S0 D cl tA base b xn p e R s m args below meth c nL Ts own cc ret tb mn fr lo fl ad0 w0 Q tgt lv st w o) (k2 : ¬ (0 < x) → ga_J l S0 D cl tA base b xn p e R s m args below meth c nL Ts own cc ret tb mn fr lo fl ad0 w0 Q (pc + 3) lv st w o2) : ga_J l S0 D cl tA base b xn p e R s m args below meth c nL Ts own cc ret tb mn fr lo fl ad0 w0 Q pc lv (.int x :: st) w (if 0 < x then o else o2) := by
  by_cases hc : 0 < x
  · rw [if_pos hc]
    exact ga_of (fun B _ _ _ _ _ _ _ _ kk => lv_if_gt B.1 B.2.1 d ht (fun _ => kk) (fun z => absurd hc z)) (k1 hc)
  · rw [if_neg hc]
    exact ga_of (fun B _ _ _ _ _ _ _ _ kk => lv_if_gt B.1 B.2.1 d ht (fun z => absurd z hc) (fun _ => kk)) (k2 hc)
theorem ga_icmp_gt {x y : Int32} {off : Int} {tgt : Nat} {o2 : ga_O} (d : decode cc pc = .ok (.if_icmp .gt off, 3)) (ht : (pc : Int) + off = (tgt : Int)) (k1 : y < x → ga_J l S0 D cl tA base b xn p e R s m args below meth c nL Ts own cc ret tb mn fr lo fl ad0 w0 Q tgt lv st w o) (k2 : ¬ (y < x) → ga_J l S0 D cl tA base b xn p e R s m args below meth c nL Ts own cc ret tb mn fr lo fl ad0 w0 Q (pc + 3) lv st w o2) : ga_J l S0 D cl tA base b xn p e R s m args below meth c nL Ts own cc ret tb mn fr lo fl ad0 w0 Q pc lv (.int y :: .int x :: st) w (if y < x then o else o2) := by
  by_cases hc : y < x
  · rw [if_pos hc]
    exact ga_of (fun B _ _ _ _ _ _ _ _ kk => lv_icmp_gt B.1 B.2.1 d ht (fun _ => kk) (fun z => absurd hc z)) (k1 hc)
  · rw [if_neg hc]
    exact ga_of (fun B _ _ _ _ _ _ _ _ kk => lv_icmp_gt B.1 B.2.1 d ht (fun z => absurd z hc) (fun _ => kk)) (k2 hc)
theorem ga_if_le {x : Int32} {off : Int} {tgt : Nat} {o2 : ga_O} (d : decode cc pc = .ok (.ifCond .le off, 3)) (ht : (pc : Int) + off = (tgt : Int)) (k1 : x ≤ 0 → ga_J l S0 D cl tA base b xn p e R s m args below meth c nL Ts own cc ret tb mn fr lo fl ad0 w0 Q tgt lv st w o) (k2 : ¬ (x ≤ 0) → ga_J l S0 D cl tA base b xn p e R s m args below meth c nL Ts own cc ret tb mn fr lo fl ad0 w0 Q (pc + 3) lv st w o2) : ga_J l S0 D cl tA base b xn p e R s m args below meth c nL Ts own cc ret tb mn fr lo fl ad0 w0 Q pc lv (.int x :: st) w (if x ≤ 0 then o else o2) := by
  by_cases hc : x ≤ 0
  · rw [if_pos hc]
    exact ga_of (fun B _ _ _ _ _ _ _ _ kk => lv_if_le B.1 B.2.1 d ht (fun _ => kk) (fun z => absurd hc z)) (k1 hc)
  · rw [if_neg hc]
    exact ga_of (fun B _ _ _ _ _ _ _ _ kk => lv_if_le B.1 B.2.1 d ht (fun z => absurd z hc) (fun _ => kk)) (k2 hc)
theorem ga_icmp_le {x y : Int32} {off : Int} {tgt : Nat} {o2 : ga_O} (d : decode cc pc = .ok (.if_icmp .le off, 3)) (ht : (pc : Int) + off = (tgt : Int)) (k1 : x ≤ y → ga_J l S0 D cl tA base b xn p e R s m args below meth c nL Ts own cc ret tb mn fr lo fl ad0 w0 Q tgt lv st w o) (k2 : ¬ (x ≤ y) → ga_J l S0 D cl tA base b xn p e R s m args below meth c nL Ts own cc ret tb mn fr lo fl ad0 w0 Q (pc + 3) lv st w o2) : ga_J l S0 D cl tA base b xn p e R s m args below meth c nL Ts own cc ret tb mn fr lo fl ad0 w0 Q pc lv (.int y :: .int x :: st) w (if x ≤ y then o else o2) := by
  by_cases hc : x ≤ y
  · rw [if_pos hc]
    exact ga_of (fun B _ _ _ _ _ _ _ _ kk => lv_icmp_le B.1 B.2.1 d ht (fun _ => kk) (fun z => absurd hc z)) (k1 hc)
  · rw [if_neg hc]
    exact ga_of (fun B _ _ _ _ _ _ _ _ kk => lv_icmp_le B.1 B.2.1 d ht (fun z => absurd z hc) (fun _ => kk)) (k2 hc)
theorem ga_if_ne {x : Int32} {off : Int} {tgt : Nat} {o2 : ga_O} (d : decode cc pc = .ok (.ifCond .ne off, 3)) (ht : (pc : Int) + off = (tgt : Int)) (k1 : x = 0 → ga_J l S0 D cl tA base b xn p e R s m args below meth c nL Ts own cc ret tb mn fr lo fl ad0 w0 Q (pc + 3) lv st w o) (k2 : ¬ (x = 0) → ga_J l S0 D cl tA base b xn p e R s m args below meth c nL Ts own cc ret tb mn fr lo fl ad0 w0 Q tgt lv st w o2) : ga_J l S0 D cl tA base b xn p e R s m args below meth c nL Ts own cc ret tb mn fr lo fl ad0 w0 Q pc lv (.int x :: st) w (if x = 0 then o else o2) := by
  by_cases hc : x = 0
  · rw [if_pos hc]
    exact ga_of (fun B _ _ _ _ _ _ _ _ kk => lv_if_ne B.1 B.2.1 d ht (fun z => absurd hc z) (fun _ => kk)) (k1 hc)
  · rw [if_neg hc]
    exact ga_of (fun B _ _ _ _ _ _ _ _ kk => lv_if_ne B.1 B.2.1 d ht (fun _ => kk) (fun z => absurd z hc)) (k2 hc)
theorem ga_icmp_ne {x y : Int32} {off : Int} {tgt : Nat} {o2 : ga_O} (d : decode cc pc = .ok (.if_icmp .ne off, 3)) (ht : (pc : Int) + off = (tgt : Int)) (k1 : x = y → ga_J l S0 D cl tA base b xn p e R s m args below meth c nL Ts own cc ret tb mn fr lo fl ad0 w0 Q (pc + 3) lv st w o) (k2 : ¬ (x = y) → ga_J l S0 D cl tA base b xn p e R s m args below meth c nL Ts own cc ret tb mn fr lo fl ad0 w0 Q tgt lv st w o2) : ga_J l S0 D cl tA base b xn p e R s m args below meth c nL Ts own cc ret tb mn fr lo fl ad0 w0 Q pc lv (.int y :: .int x :: st) w (if x = y then o else o2) := by
  by_cases hc : x = y
  · rw [if_pos hc]
    exact ga_of (fun B _ _ _ _ _ _ _ _ kk => lv_icmp_ne B.1 B.2.1 d ht (fun z => absurd hc z) (fun _ => kk)) (k1 hc)
  · rw [if_neg hc]
    exact ga_of (fun B _ _ _ _ _ _ _ _ kk => lv_icmp_ne B.1 B.2.1 d ht (fun _ => kk) (fun z => absurd z hc)) (k2 hc)
theorem ga_goto {off : Int} {tgt : Nat} (d : decode cc pc = .ok (.goto off, 3)) (ht : (pc : Int) + off = (tgt : Int)) (k : ga_J l S0 D cl tA base b xn p e R s m args below meth c nL Ts own cc ret tb mn fr lo fl ad0 w0 Q tgt lv st w o) : ga_J l S0 D cl tA base b xn p e R s m args below meth c nL Ts own cc ret tb mn fr lo fl ad0 w0 Q pc lv st w o :=
  ga_of (fun B _ _ _ _ _ _ _ _ kk => lv_goto B.1 B.2.1 d ht kk) k
theorem ga_tabIn {dflt low hi : Int} {offs : Array Int} {len tgt : Nat} {x : Int32} {off : Int} (d : decode cc pc = .ok (.tableswitch dflt low hi offs, len)) (h1 : ¬ x.toInt < low) (h2 : ¬ hi < x.toInt) (ho : offs[(x.toInt - low).toNat]? = some off) (ht : (pc : Int) + off = (tgt : Int)) (k : ga_J l S0 D cl tA base b xn p e R s m args below meth c nL Ts own cc ret tb mn fr lo fl ad0 w0 Q tgt lv st w o) : ga_J l S0 D cl tA base b xn p e R s m args below meth c nL Ts own cc ret tb mn fr lo fl ad0 w0 Q pc lv (.int x :: st) w o :=
  ga_of (fun B _ _ _ _ _ _ _ _ kk => lv_tableIn B.1 B.2.1 d h1 h2 ho ht kk) k
theorem ga_tabOut {dflt low hi : Int} {offs : Array Int} {len tgt : Nat} {x : Int32} (d : decode cc pc = .ok (.tableswitch dflt low hi offs, len)) (h : x.toInt < low ∨ hi < x.toInt) (ht : (pc : Int) + dflt = (tgt : Int)) (k : ga_J l S0 D cl tA base b xn p e R s m args below meth c nL Ts own cc ret tb mn fr lo fl ad0 w0 Q tgt lv st w o) : ga_J l S0 D cl tA base b xn p e R s m args below meth c nL Ts own cc ret tb mn fr lo fl ad0 w0 Q pc lv (.int x :: st) w o :=
  ga_of (fun B _ _ _ _ _ _ _ _ kk => lv_tableOut B.1 B.2.1 d h ht kk) k
theorem ga_lookup {dflt : Int} {ps : Array (Int × Int)} {len tgt : Nat} {x : Int32} {off : Int} (d : decode cc pc = .ok (.lookupswitch dflt ps, len)) (hp : (ps.toList.zip (ps.toList.drop 1)).all (fun (a, next) => a.1 < next.1) = true) (ho : Op.lookupswitch.offset ps.toList dflt x.toInt = off) (ht : (pc : Int) + off = (tgt : Int)) (k : ga_J l S0 D cl tA base b xn p e R s m args below meth c nL Ts own cc ret tb mn fr lo fl ad0 w0 Q tgt lv st w o) : ga_J l S0 D cl tA base b xn p e R s m args below meth c nL Ts own cc ret tb mn fr lo fl ad0 w0 Q pc lv (.int x :: st) w o :=
  ga_of (fun B _ _ _ _ _ _ _ _ kk => lv_lookup B.1 B.2.1 d hp ho ht kk) k
end GA
end
section
/-! ROWS OF INSTRUCTIONS THAT READ OR WRITE THE WORLD -/
/-! what a pure program reads and writes -/
def ga_get (w : ga_W) (ci k a : Nat) : Option Value := match w.1[a]? with
  | some (.inr (c', fs)) => if c' = ci then fs[k]? else none
  | _ => none
def ga_gi (w : ga_W) (ci k a : Nat) : Option Int32 := match ga_get w ci k a with
  | some (.int x) => some x
  | _ => none
def ga_gr (w : ga_W) (ci k a : Nat) : Option Nat := match ga_get w ci k a with
  | some (.ref x) => some x
  | _ => none
def ga_put (w : ga_W) (ci k a : Nat) (v : Value) : Option ga_W := match w.1[a]? with
  | some (.inr (c', fs)) => if c' = ci ∧ k < fs.length then some (w.1.set a (.inr (ci, fs.set k v)), w.2) else none
  | _ => none
def ga_ai (w : ga_W) (t a : Nat) (i : Int32) : Option Int32 := match w.1[a]? with
  | some (.inl (t', n, .inl f)) => if t' = t ∧ ¬ (i < 0 ∨ n ≤ i.toNatClampNeg) then some (f i.toNatClampNeg) else none
  | _ => none
def ga_si (w : ga_W) (t a : Nat) (i : Int32) (x : Int32) : Option ga_W := match w.1[a]? with
  | some (.inl (t', n, .inl f)) => if t' = t ∧ ¬ (i < 0 ∨ n ≤ i.toNatClampNeg) then some (w.1.set a (.inl (t, n, .inl (upd f i.toNatClampNeg x))), w.2) else none
  | _ => none
def ga_az (w : ga_W) (t a : Nat) (i : Int32) : Option Int32 := match w.1[a]? with
  | some (.inl (t', n, .inl f)) => if t' = t ∧ ¬ (i < 0 ∨ n ≤ i.toNatClampNeg) then some (f i.toNatClampNeg) else none
  | _ => none
def ga_sz (w : ga_W) (t a : Nat) (i : Int32) (x : Int32) : Option ga_W := match w.1[a]? with
  | some (.inl (t', n, .inl f)) => if t' = t ∧ ¬ (i < 0 ∨ n ≤ i.toNatClampNeg) then some (w.1.set a (.inl (t, n, .inl (upd f i.toNatClampNeg (vp_nar .boolean x)))), w.2) else none
  | _ => none
def ga_al (w : ga_W) (t a : Nat) (i : Int32) : Option Int64 := match w.1[a]? with
  | some (.inl (t', n, .inr (.inl f))) => if t' = t ∧ ¬ (i < 0 ∨ n ≤ i.toNatClampNeg) then some (f i.toNatClampNeg) else none
  | _ => none
def ga_sl (w : ga_W) (t a : Nat) (i : Int32) (x : Int64) : Option ga_W := match w.1[a]? with
  | some (.inl (t', n, .inr (.inl f))) => if t' = t ∧ ¬ (i < 0 ∨ n ≤ i.toNatClampNeg) then some (w.1.set a (.inl (t, n, .inr (.inl (vp_updL f i.toNatClampNeg x)))), w.2) else none
  | _ => none
def ga_ad (w : ga_W) (t a : Nat) (i : Int32) : Option UInt64 := match w.1[a]? with
  | some (.inl (t', n, .inr (.inr (.inr (.inl f))))) => if t' = t ∧ ¬ (i < 0 ∨ n ≤ i.toNatClampNeg) then some (f i.toNatClampNeg) else none
  | _ => none
def ga_sd (w : ga_W) (t a : Nat) (i : Int32) (x : UInt64) : Option ga_W := match w.1[a]? with
  | some (.inl (t', n, .inr (.inr (.inr (.inl f))))) => if t' = t ∧ ¬ (i < 0 ∨ n ≤ i.toNatClampNeg) then some (w.1.set a (.inl (t, n, .inr (.inr (.inr (.inl (vf_upd f i.toNatClampNeg x)))))), w.2) else none
  | _ => none
def ga_len (w : ga_W) (t a : Nat) : Option Nat := match w.1[a]? with
  | some (.inl (t', n, _)) => if t' = t then some n else none
  | _ => none
section GB
variable {l : Launch} {S0 : State} {D : va_G} {cl : List vw_C} {tA : List (ClassId × FieldType)} {base b : Nat} {xn : Nat → String} {p : Program} {e : Env} {R : Room} {s : State} {m : MethodId} {args : Array Value} {below : List Frame} {meth : Method} {c : Code} {nL : Nat} {Ts : List Cond} {own : String} {cc : ByteArray} {ret : Option FieldType} {tb : List ExceptionTableEntry} {mn : String} {fr lo : Nat} {fl : Bool} {ad0 : Nat → Nat} {w0 : ga_W} {Q : ga_R → ga_W → State → Prop}
variable {pc : Nat} {lv : List (Nat × Value)} {st : List Value} {w : ga_W} {o : ga_O}
theorem ga_ofH {pc2 : Nat} {st2 : List Value} (h : (ga_B l S0 D cl tA base b p R s m args meth c nL Ts own cc ret tb mn fr lo) → ∀ (ad : Nat → Nat) (H : Heap) (locs : List Loc) (k n : Nat) (ls : Array Slot) (Q' : State → Prop), ga_H D cl tA base b ad w.1 H → va_S (fun q => base ≤ q) s.heap H locs → lv_has ls nL (ga_l b ad lv) → W p l e R s m args below meth c H locs k n Q' (F0 m pc2 ls (st2.map (ga_v b ad))) → W p l e R s m args below meth c H locs k n Q' (F0 m pc ls (st.map (ga_v b ad))))
    (k : ga_J l S0 D cl tA base b xn p e R s m args below meth c nL Ts own cc ret tb mn fr lo fl ad0 w0 Q pc2 lv st2 w o) : ga_J l S0 D cl tA base b xn p e R s m args below meth c nL Ts own cc ret tb mn fr lo fl ad0 w0 Q pc lv st w o := by
  intro r w' ho
  obtain ⟨h1, h4⟩ := k r w' ho
  exact ⟨h1, fun B a1 a2 a3 a4 ad H locs ls x1 x2 x3 x4 => h B ad H locs _ _ ls _ x2 x3 x4 (h4 B a1 a2 a3 a4 ad H locs ls x1 x2 x3 x4)⟩
/-- a cell is written -/
theorem ga_ofP {pc2 : Nat} {st2 : List Value} {w2 : ga_W} (hc : w2.2 = w.2) (hn : w2.1.length = w.1.length) (h : (ga_B l S0 D cl tA base b p R s m args meth c nL Ts own cc ret tb mn fr lo) → ∀ (ad : Nat → Nat) (H : Heap) (locs : List Loc) (k n : Nat) (ls : Array Slot) (Q' : State → Prop), ga_H D cl tA base b ad w.1 H → va_S (fun q => base ≤ q) s.heap H locs → (∀ (H1 : Heap) (locs1 : List Loc), ga_H D cl tA base b ad w2.1 H1 → va_S (fun q => base ≤ q) s.heap H1 locs1 → W p l e R s m args below meth c H1 locs1 k n Q' (F0 m pc2 ls (st2.map (ga_v b ad)))) → W p l e R s m args below meth c H locs k n Q' (F0 m pc ls (st.map (ga_v b ad))))
    (k : ga_J l S0 D cl tA base b xn p e R s m args below meth c nL Ts own cc ret tb mn fr lo fl ad0 w0 Q pc2 lv st2 w2 o) : ga_J l S0 D cl tA base b xn p e R s m args below meth c nL Ts own cc ret tb mn fr lo fl ad0 w0 Q pc lv st w o := by
  intro r w' ho
  obtain ⟨h1, h4⟩ := k r w' ho
  unfold ga_N at h1
  rw [hc, hn] at h1
  rw [hc, hn] at h4
  exact ⟨h1, fun B a1 a2 a3 a4 ad H locs ls x1 x2 x3 x4 => h B ad H locs _ _ ls _ x2 x3 (fun H1 locs1 y1 y2 => h4 B a1 a2 a3 a4 ad H1 locs1 ls x1 y1 y2 x4)⟩
/-! fields -/
theorem ga_get_spec {ci k a : Nat} {v : Value} (h : ga_get w ci k a = some v) : ∃ fs, w.1[a]? = some (.inr (ci, fs)) ∧ fs[k]? = some v := by
  unfold ga_get at h
  split at h
  · rename_i c' fs hw
    split at h
    · rename_i hc
      subst hc
      exact ⟨fs, hw, h⟩
    · cases h
  · cases h
theorem ga_getv {ci k a index N : Nat} {C : String} {T : u_T} {v : Value} (hin : ∀ x ∈ u_ws C T N, x ∈ Ts) (hc : cl[ci]? = some (C, T, N)) (hk : k < N) (hl : Cond.fieldLink own index (T k).1 (T k).2.1 (T k).2.2.1 ∈ Ts) (d : decode cc pc = .ok (.getfield index, 3)) (hv : ga_get w ci k a = some v)
    (k : ga_J l S0 D cl tA base b xn p e R s m args below meth c nL Ts own cc ret tb mn fr lo fl ad0 w0 Q (pc + 3) lv (v :: st) w o) : ga_J l S0 D cl tA base b xn p e R s m args below meth c nL Ts own cc ret tb mn fr lo fl ad0 w0 Q pc lv (.ref a :: st) w o := by
  obtain ⟨fs, hw, hf⟩ := ga_get_spec hv
  refine ga_ofH (fun B ad H locs k n ls Q' hH hS hl2 kk => ?_) k
  obtain ⟨hx, hb, hml, hr, hown, hts, hlk, hbs, hK, hZ, htb, hmn, hfr, hlo, hst, h00⟩ := B
  exact va_get (D := D) hx hb hts hin hown hK hH.1 a (ga_w_get hw) hc _ hk (hts _ hl) (fun _ h9 => h9) (v := ga_v b ad v) (by simp [hf]) d kk
theorem ga_gi_spec {ci k a : Nat} {x : Int32} (h : ga_gi w ci k a = some x) : ga_get w ci k a = some (.int x) := by
  unfold ga_gi at h
  split at h
  · rename_i y hy
    cases h
    exact hy
  · cases h
theorem ga_gr_spec {ci k a : Nat} {x : Nat} (h : ga_gr w ci k a = some x) : ga_get w ci k a = some (.ref x) := by
  unfold ga_gr at h
  split at h
  · rename_i y hy
    cases h
    exact hy
  · cases h
theorem ga_getI {ci k a index N : Nat} {C : String} {T : u_T} {f : Int32 → ga_O} (hin : ∀ x ∈ u_ws C T N, x ∈ Ts) (hc : cl[ci]? = some (C, T, N)) (hk : k < N) (hl : Cond.fieldLink own index (T k).1 (T k).2.1 (T k).2.2.1 ∈ Ts) (d : decode cc pc = .ok (.getfield index, 3))
    (kk : ∀ x, ga_J l S0 D cl tA base b xn p e R s m args below meth c nL Ts own cc ret tb mn fr lo fl ad0 w0 Q (pc + 3) lv (.int x :: st) w (f x)) : ga_J l S0 D cl tA base b xn p e R s m args below meth c nL Ts own cc ret tb mn fr lo fl ad0 w0 Q pc lv (.ref a :: st) w ((ga_gi w ci k a).bind f) := by
  cases h : ga_gi w ci k a with
  | none => exact ga_no
  | some x => exact ga_getv hin hc hk hl d (ga_gi_spec h) (kk x)
theorem ga_getR {ci k a index N : Nat} {C : String} {T : u_T} {f : Nat → ga_O} (hin : ∀ x ∈ u_ws C T N, x ∈ Ts) (hc : cl[ci]? = some (C, T, N)) (hk : k < N) (hl : Cond.fieldLink own index (T k).1 (T k).2.1 (T k).2.2.1 ∈ Ts) (d : decode cc pc = .ok (.getfield index, 3))
    (kk : ∀ x, ga_J l S0 D cl tA base b xn p e R s m args below meth c nL Ts own cc ret tb mn fr lo fl ad0 w0 Q (pc + 3) lv (.ref x :: st) w (f x)) : ga_J l S0 D cl tA base b xn p e R s m args below meth c nL Ts own cc ret tb mn fr lo fl ad0 w0 Q pc lv (.ref a :: st) w ((ga_gr w ci k a).bind f) := by
  cases h : ga_gr w ci k a with
  | none => exact ga_no
  | some x => exact ga_getv hin hc hk hl d (ga_gr_spec h) (kk x)
theorem ga_put_spec {ci k a : Nat} {v : Value} {w2 : ga_W} (h : ga_put w ci k a v = some w2) : ∃ fs, w.1[a]? = some (.inr (ci, fs)) ∧ k < fs.length ∧ w2 = (w.1.set a (.inr (ci, fs.set k v)), w.2) := by
  unfold ga_put at h
  split at h
  · rename_i c' fs hw
    split at h
    · rename_i hc
      obtain ⟨hc, hk⟩ := hc
      subst hc
      cases h
      exact ⟨fs, hw, hk, rfl⟩
    · cases h
  · cases h
theorem ga_putv {ci k a index N : Nat} {C : String} {T : u_T} {ty0 : Nat → FieldType} {v : Value} {w2 : ga_W} (hin : ∀ x ∈ u_ws C T N, x ∈ Ts) (hty : ∀ k, k < N → parseFieldDescriptor (T k).2.2.1 = some (ty0 k)) (hnm : ∀ a, a < N → ∀ b, b < N → a ≠ b → (T a).2.1 ≠ (T b).2.1) (hc : cl[ci]? = some (C, T, N)) (hk : k < N) (hl : Cond.fieldLink own index (T k).1 (T k).2.1 (T k).2.2.1 ∈ Ts) (hfin : (T k).2.2.2 = false ∨ ((T k).2.2.2 = true ∧ mn = "<init>" ∧ (T k).1 = own)) (hn : ∀ ad, narrow (ty0 k) (ga_v b ad v) = ga_v b ad v ∧ fits (ty0 k) (ga_v b ad v) = true) (d : decode cc pc = .ok (.putfield index, 3)) (hv : ga_put w ci k a v = some w2)
    (kk : ga_J l S0 D cl tA base b xn p e R s m args below meth c nL Ts own cc ret tb mn fr lo fl ad0 w0 Q (pc + 3) lv st w2 o) : ga_J l S0 D cl tA base b xn p e R s m args below meth c nL Ts own cc ret tb mn fr lo fl ad0 w0 Q pc lv (v :: .ref a :: st) w o := by
  obtain ⟨fs, hw, hf, rfl⟩ := ga_put_spec hv
  refine ga_ofP (w2 := (w.1.set a (.inr (ci, fs.set k v)), w.2)) rfl (by simp) (fun B ad H locs k9 n ls Q' hH hS kk => ?_) kk
  obtain ⟨hx, hb, hml, hr, hown, hts, hlk, hbs, hK, hZ, htb, hmn, hfr, hlo, hst, h00⟩ := B
  have key : ∀ (H1 : Heap) (locs1 : List Loc), va_P D cl ((ga_w tA b ad w.1).set a (ad a, .inr (ci, (fs.map (ga_v b ad)).set k (ga_v b ad v)))) H1 → va_D (fun q => base ≤ q) ((ga_w tA b ad w.1).set a (ad a, .inr (ci, (fs.map (ga_v b ad)).set k (ga_v b ad v)))) → va_S (fun q => base ≤ q) s.heap H1 locs1 → W p l e R s m args below meth c H1 locs1 k9 n Q' (F0 m (pc + 3) ls (st.map (ga_v b ad))) := by
    intro H1 locs1 h1 h2 h3
    rw [← List.map_set] at h1 h2
    have e := ga_w_set (tA := tA) (b := b) (ad := ad) (w := w.1) (k := a) (x := .inr (ci, fs.set k v))
    simp only [ga_e] at e
    exact kk H1 locs1 ⟨by rw [← e]; exact h1, by rw [← e]; exact h2⟩ h3
  rcases hfin with hfin | ⟨hfin, hin2, hdecl⟩
  · exact va_put (D := D) hx hb hts hin ty0 hty hnm hown hK hH.1 hH.2 hS a (ga_w_get hw) hc k hk (hts _ hl) (fun _ h9 => h9) hfin (hty _ hk) (hn ad).1 (hn ad).2 (by simpa using hf) d key
  · exact va_putF (D := D) hx hb hts hin ty0 hty hnm hown hK hH.1 hH.2 hS a (ga_w_get hw) hc k hk (hts _ hl) (fun _ h9 => h9) hfin (hmn.trans hin2) hdecl (hty _ hk) (hn ad).1 (hn ad).2 (by simpa using hf) d key
theorem ga_putB {ci k a index N : Nat} {C : String} {T : u_T} {ty0 : Nat → FieldType} {v : Value} {f : ga_W → ga_O} (hin : ∀ x ∈ u_ws C T N, x ∈ Ts) (hty : ∀ k, k < N → parseFieldDescriptor (T k).2.2.1 = some (ty0 k)) (hnm : ∀ a, a < N → ∀ b, b < N → a ≠ b → (T a).2.1 ≠ (T b).2.1) (hc : cl[ci]? = some (C, T, N)) (hk : k < N) (hl : Cond.fieldLink own index (T k).1 (T k).2.1 (T k).2.2.1 ∈ Ts) (hfin : (T k).2.2.2 = false ∨ ((T k).2.2.2 = true ∧ mn = "<init>" ∧ (T k).1 = own)) (hn : ∀ ad, narrow (ty0 k) (ga_v b ad v) = ga_v b ad v ∧ fits (ty0 k) (ga_v b ad v) = true) (d : decode cc pc = .ok (.putfield index, 3))
    (kk : ∀ w2, ga_J l S0 D cl tA base b xn p e R s m args below meth c nL Ts own cc ret tb mn fr lo fl ad0 w0 Q (pc + 3) lv st w2 (f w2)) : ga_J l S0 D cl tA base b xn p e R s m args below meth c nL Ts own cc ret tb mn fr lo fl ad0 w0 Q pc lv (v :: .ref a :: st) w ((ga_put w ci k a v).bind f) := by
  cases h : ga_put w ci k a v with
  | none => exact ga_no
  | some w2 => exact ga_putv hin hty hnm hc hk hl hfin hn d h (kk w2)
/-! arrays -/
theorem ga_ai_spec {t a : Nat} {i : Int32} {x : Int32} (h : ga_ai w t a i = some x) : ∃ n f, w.1[a]? = some (.inl (t, n, .inl f)) ∧ vp_in i n ∧ x = f i.toNatClampNeg := by
  unfold ga_ai at h
  split at h
  · rename_i t' n f hw
    split at h
    · rename_i hc
      obtain ⟨hc, hi⟩ := hc
      subst hc
      cases h
      exact ⟨n, f, hw, hi, rfl⟩
    · cases h
  · cases h
theorem ga_ldI {t a : Nat} {i : Int32} {cA : ClassId} {f : Int32 → ga_O} (ht : tA[t]? = some (cA, .int)) (d : decode cc pc = .ok (.iaload, 1)) (kk : ∀ x, ga_J l S0 D cl tA base b xn p e R s m args below meth c nL Ts own cc ret tb mn fr lo fl ad0 w0 Q (pc + 1) lv (.int x :: st) w (f x)) : ga_J l S0 D cl tA base b xn p e R s m args below meth c nL Ts own cc ret tb mn fr lo fl ad0 w0 Q pc lv (.int i :: .ref a :: st) w ((ga_ai w t a i).bind f) := by
  cases h : ga_ai w t a i with
  | none => exact ga_no
  | some x =>
    obtain ⟨n, g, hw, hi, rfl⟩ := ga_ai_spec h
    refine ga_ofH (fun B ad H locs k n ls Q' hH hS hl2 k2 => ?_) (kk _)
    obtain ⟨hx, hb, hml, hr, hown, hts, hlk, hbs, hK, hZ, htb, hmn, hfr, hlo, hst, h00⟩ := B
    have e := ga_w_get (tA := tA) (b := b) (ad := ad) hw
    have e2 : (tA.getD t (0, .int)).1 = cA := by simp [List.getD, ht]
    simp only [ga_e, e2] at e
    exact va_iald hx hb hK hH.1 a t e ht hi d k2
theorem ga_si_spec {t a : Nat} {i : Int32} {x : Int32} {w2 : ga_W} (h : ga_si w t a i x = some w2) : ∃ n f, w.1[a]? = some (.inl (t, n, .inl f)) ∧ vp_in i n ∧ w2 = (w.1.set a (.inl (t, n, .inl (upd f i.toNatClampNeg x))), w.2) := by
  unfold ga_si at h
  split at h
  · rename_i t' n f hw
    split at h
    · rename_i hc
      obtain ⟨hc, hi⟩ := hc
      subst hc
      cases h
      exact ⟨n, f, hw, hi, rfl⟩
    · cases h
  · cases h
theorem ga_stI {t a : Nat} {i : Int32} {x : Int32} {cA : ClassId} {f : ga_W → ga_O} (ht : tA[t]? = some (cA, .int)) (d : decode cc pc = .ok (.iastore, 1)) (kk : ∀ w2, ga_J l S0 D cl tA base b xn p e R s m args below meth c nL Ts own cc ret tb mn fr lo fl ad0 w0 Q (pc + 1) lv st w2 (f w2)) : ga_J l S0 D cl tA base b xn p e R s m args below meth c nL Ts own cc ret tb mn fr lo fl ad0 w0 Q pc lv (.int x :: .int i :: .ref a :: st) w ((ga_si w t a i x).bind f) := by
  cases h : ga_si w t a i x with
  | none => exact ga_no
  | some w2 =>
    obtain ⟨n, g, hw, hi, rfl⟩ := ga_si_spec h
    refine ga_ofP (w2 := (w.1.set a (.inl (t, n, .inl (upd g i.toNatClampNeg x))), w.2)) rfl (by simp) (fun B ad H locs k n2 ls Q' hH hS k2 => ?_) (kk _)
    obtain ⟨hx, hb, hml, hr, hown, hts, hlk, hbs, hK, hZ, htb, hmn, hfr, hlo, hst, h00⟩ := B
    have e := ga_w_get (tA := tA) (b := b) (ad := ad) hw
    have e2 : (tA.getD t (0, .int)).1 = cA := by simp [List.getD, ht]
    have e3 := ga_w_set (tA := tA) (b := b) (ad := ad) (w := w.1) (k := a) (x := .inl (t, n, .inl (upd g i.toNatClampNeg x)))
    simp only [ga_e, e2] at e e3
    exact va_iast hx hb hK hH.1 hH.2 hS a t e ht hi d (fun H1 locs1 h1 h2 h3 => k2 H1 locs1 ⟨by rw [← e3]; exact h1, by rw [← e3]; exact h2⟩ h3)
theorem ga_az_spec {t a : Nat} {i : Int32} {x : Int32} (h : ga_az w t a i = some x) : ∃ n f, w.1[a]? = some (.inl (t, n, .inl f)) ∧ vp_in i n ∧ x = f i.toNatClampNeg := by
  unfold ga_az at h
  split at h
  · rename_i t' n f hw
    split at h
    · rename_i hc
      obtain ⟨hc, hi⟩ := hc
      subst hc
      cases h
      exact ⟨n, f, hw, hi, rfl⟩
    · cases h
  · cases h
theorem ga_ldZ {t a : Nat} {i : Int32} {cA : ClassId} {f : Int32 → ga_O} (ht : tA[t]? = some (cA, .boolean)) (d : decode cc pc = .ok (.baload, 1)) (kk : ∀ x, ga_J l S0 D cl tA base b xn p e R s m args below meth c nL Ts own cc ret tb mn fr lo fl ad0 w0 Q (pc + 1) lv (.int x :: st) w (f x)) : ga_J l S0 D cl tA base b xn p e R s m args below meth c nL Ts own cc ret tb mn fr lo fl ad0 w0 Q pc lv (.int i :: .ref a :: st) w ((ga_az w t a i).bind f) := by
  cases h : ga_az w t a i with
  | none => exact ga_no
  | some x =>
    obtain ⟨n, g, hw, hi, rfl⟩ := ga_az_spec h
    refine ga_ofH (fun B ad H locs k n ls Q' hH hS hl2 k2 => ?_) (kk _)
    obtain ⟨hx, hb, hml, hr, hown, hts, hlk, hbs, hK, hZ, htb, hmn, hfr, hlo, hst, h00⟩ := B
    have e := ga_w_get (tA := tA) (b := b) (ad := ad) hw
    have e2 : (tA.getD t (0, .int)).1 = cA := by simp [List.getD, ht]
    simp only [ga_e, e2] at e
    exact va_zald hx hb hK hH.1 a t e ht hi d k2
theorem ga_sz_spec {t a : Nat} {i : Int32} {x : Int32} {w2 : ga_W} (h : ga_sz w t a i x = some w2) : ∃ n f, w.1[a]? = some (.inl (t, n, .inl f)) ∧ vp_in i n ∧ w2 = (w.1.set a (.inl (t, n, .inl (upd f i.toNatClampNeg (vp_nar .boolean x)))), w.2) := by
  unfold ga_sz at h
  split at h
  · rename_i t' n f hw
    split at h
    · rename_i hc
      obtain ⟨hc, hi⟩ := hc
      subst hc
      cases h
      exact ⟨n, f, hw, hi, rfl⟩
    · cases h
  · cases h
theorem ga_stZ {t a : Nat} {i : Int32} {x : Int32} {cA : ClassId} {f : ga_W → ga_O} (ht : tA[t]? = some (cA, .boolean)) (d : decode cc pc = .ok (.bastore, 1)) (kk : ∀ w2, ga_J l S0 D cl tA base b xn p e R s m args below meth c nL Ts own cc ret tb mn fr lo fl ad0 w0 Q (pc + 1) lv st w2 (f w2)) : ga_J l S0 D cl tA base b xn p e R s m args below meth c nL Ts own cc ret tb mn fr lo fl ad0 w0 Q pc lv (.int x :: .int i :: .ref a :: st) w ((ga_sz w t a i x).bind f) := by
  cases h : ga_sz w t a i x with
  | none => exact ga_no
  | some w2 =>
    obtain ⟨n, g, hw, hi, rfl⟩ := ga_sz_spec h
    refine ga_ofP (w2 := (w.1.set a (.inl (t, n, .inl (upd g i.toNatClampNeg (vp_nar .boolean x)))), w.2)) rfl (by simp) (fun B ad H locs k n2 ls Q' hH hS k2 => ?_) (kk _)
    obtain ⟨hx, hb, hml, hr, hown, hts, hlk, hbs, hK, hZ, htb, hmn, hfr, hlo, hst, h00⟩ := B
    have e := ga_w_get (tA := tA) (b := b) (ad := ad) hw
    have e2 : (tA.getD t (0, .int)).1 = cA := by simp [List.getD, ht]
    have e3 := ga_w_set (tA := tA) (b := b) (ad := ad) (w := w.1) (k := a) (x := .inl (t, n, .inl (upd g i.toNatClampNeg (vp_nar .boolean x))))
    simp only [ga_e, e2] at e e3
    exact va_zast hx hb hK hH.1 hH.2 hS a t e ht hi d (fun H1 locs1 h1 h2 h3 => k2 H1 locs1 ⟨by rw [← e3]; exact h1, by rw [← e3]; exact h2⟩ h3)
theorem ga_al_spec {t a : Nat} {i : Int32} {x : Int64} (h : ga_al w t a i = some x) : ∃ n f, w.1[a]? = some (.inl (t, n, .inr (.inl f))) ∧ vp_in i n ∧ x = f i.toNatClampNeg := by
  unfold ga_al at h
  split at h
  · rename_i t' n f hw
    split at h
    · rename_i hc
      obtain ⟨hc, hi⟩ := hc
      subst hc
      cases h
      exact ⟨n, f, hw, hi, rfl⟩
    · cases h
  · cases h
theorem ga_ldL {t a : Nat} {i : Int32} {cA : ClassId} {f : Int64 → ga_O} (ht : tA[t]? = some (cA, .long)) (d : decode cc pc = .ok (.laload, 1)) (kk : ∀ x, ga_J l S0 D cl tA base b xn p e R s m args below meth c nL Ts own cc ret tb mn fr lo fl ad0 w0 Q (pc + 1) lv (.long x :: st) w (f x)) : ga_J l S0 D cl tA base b xn p e R s m args below meth c nL Ts own cc ret tb mn fr lo fl ad0 w0 Q pc lv (.int i :: .ref a :: st) w ((ga_al w t a i).bind f) := by
  cases h : ga_al w t a i with
  | none => exact ga_no
  | some x =>
    obtain ⟨n, g, hw, hi, rfl⟩ := ga_al_spec h
    refine ga_ofH (fun B ad H locs k n ls Q' hH hS hl2 k2 => ?_) (kk _)
    obtain ⟨hx, hb, hml, hr, hown, hts, hlk, hbs, hK, hZ, htb, hmn, hfr, hlo, hst, h00⟩ := B
    have e := ga_w_get (tA := tA) (b := b) (ad := ad) hw
    have e2 : (tA.getD t (0, .int)).1 = cA := by simp [List.getD, ht]
    simp only [ga_e, e2] at e
    exact va_lald hx hb hK hH.1 a t e ht hi d k2
theorem ga_sl_spec {t a : Nat} {i : Int32} {x : Int64} {w2 : ga_W} (h : ga_sl w t a i x = some w2) : ∃ n f, w.1[a]? = some (.inl (t, n, .inr (.inl f))) ∧ vp_in i n ∧ w2 = (w.1.set a (.inl (t, n, .inr (.inl (vp_updL f i.toNatClampNeg x)))), w.2) := by
  unfold ga_sl at h
  split at h
  · rename_i t' n f hw
    split at h
    · rename_i hc
      obtain ⟨hc, hi⟩ := hc
      subst hc
      cases h
      exact ⟨n, f, hw, hi, rfl⟩
    · cases h
  · cases h
theorem ga_stL {t a : Nat} {i : Int32} {x : Int64} {cA : ClassId} {f : ga_W → ga_O} (ht : tA[t]? = some (cA, .long)) (d : decode cc pc = .ok (.lastore, 1)) (kk : ∀ w2, ga_J l S0 D cl tA base b xn p e R s m args below meth c nL Ts own cc ret tb mn fr lo fl ad0 w0 Q (pc + 1) lv st w2 (f w2)) : ga_J l S0 D cl tA base b xn p e R s m args below meth c nL Ts own cc ret tb mn fr lo fl ad0 w0 Q pc lv (.long x :: .int i :: .ref a :: st) w ((ga_sl w t a i x).bind f) := by
  cases h : ga_sl w t a i x with
  | none => exact ga_no
  | some w2 =>
    obtain ⟨n, g, hw, hi, rfl⟩ := ga_sl_spec h
    refine ga_ofP (w2 := (w.1.set a (.inl (t, n, .inr (.inl (vp_updL g i.toNatClampNeg x)))), w.2)) rfl (by simp) (fun B ad H locs k n2 ls Q' hH hS k2 => ?_) (kk _)
    obtain ⟨hx, hb, hml, hr, hown, hts, hlk, hbs, hK, hZ, htb, hmn, hfr, hlo, hst, h00⟩ := B
    have e := ga_w_get (tA := tA) (b := b) (ad := ad) hw
    have e2 : (tA.getD t (0, .int)).1 = cA := by simp [List.getD, ht]
    have e3 := ga_w_set (tA := tA) (b := b) (ad := ad) (w := w.1) (k := a) (x := .inl (t, n, .inr (.inl (vp_updL g i.toNatClampNeg x))))
    simp only [ga_e, e2] at e e3
    exact va_last hx hb hK hH.1 hH.2 hS a t e ht hi d (fun H1 locs1 h1 h2 h3 => k2 H1 locs1 ⟨by rw [← e3]; exact h1, by rw [← e3]; exact h2⟩ h3)
theorem ga_ad_spec {t a : Nat} {i : Int32} {x : UInt64} (h : ga_ad w t a i = some x) : ∃ n f, w.1[a]? = some (.inl (t, n, .inr (.inr (.inr (.inl f))))) ∧ vp_in i n ∧ x = f i.toNatClampNeg := by
  unfold ga_ad at h
  split at h
  · rename_i t' n f hw
    split at h
    · rename_i hc
      obtain ⟨hc, hi⟩ := hc
      subst hc
      cases h
      exact ⟨n, f, hw, hi, rfl⟩
    · cases h
  · cases h
theorem ga_ldD {t a : Nat} {i : Int32} {cA : ClassId} {f : UInt64 → ga_O} (ht : tA[t]? = some (cA, .double)) (d : decode cc pc = .ok (.daload, 1)) (kk : ∀ x, ga_J l S0 D cl tA base b xn p e R s m args below meth c nL Ts own cc ret tb mn fr lo fl ad0 w0 Q (pc + 1) lv (.double x :: st) w (f x)) : ga_J l S0 D cl tA base b xn p e R s m args below meth c nL Ts own cc ret tb mn fr lo fl ad0 w0 Q pc lv (.int i :: .ref a :: st) w ((ga_ad w t a i).bind f) := by
  cases h : ga_ad w t a i with
  | none => exact ga_no
  | some x =>
    obtain ⟨n, g, hw, hi, rfl⟩ := ga_ad_spec h
    refine ga_ofH (fun B ad H locs k n ls Q' hH hS hl2 k2 => ?_) (kk _)
    obtain ⟨hx, hb, hml, hr, hown, hts, hlk, hbs, hK, hZ, htb, hmn, hfr, hlo, hst, h00⟩ := B
    have e := ga_w_get (tA := tA) (b := b) (ad := ad) hw
    have e2 : (tA.getD t (0, .int)).1 = cA := by simp [List.getD, ht]
    simp only [ga_e, e2] at e
    exact va_dald hx hb hK hH.1 a t e ht hi d k2
theorem ga_sd_spec {t a : Nat} {i : Int32} {x : UInt64} {w2 : ga_W} (h : ga_sd w t a i x = some w2) : ∃ n f, w.1[a]? = some (.inl (t, n, .inr (.inr (.inr (.inl f))))) ∧ vp_in i n ∧ w2 = (w.1.set a (.inl (t, n, .inr (.inr (.inr (.inl (vf_upd f i.toNatClampNeg x)))))), w.2) := by
  unfold ga_sd at h
  split at h
  · rename_i t' n f hw
    split at h
    · rename_i hc
      obtain ⟨hc, hi⟩ := hc
      subst hc
      cases h
      exact ⟨n, f, hw, hi, rfl⟩
    · cases h
  · cases h
theorem ga_stD {t a : Nat} {i : Int32} {x : UInt64} {cA : ClassId} {f : ga_W → ga_O} (ht : tA[t]? = some (cA, .double)) (d : decode cc pc = .ok (.dastore, 1)) (kk : ∀ w2, ga_J l S0 D cl tA base b xn p e R s m args below meth c nL Ts own cc ret tb mn fr lo fl ad0 w0 Q (pc + 1) lv st w2 (f w2)) : ga_J l S0 D cl tA base b xn p e R s m args below meth c nL Ts own cc ret tb mn fr lo fl ad0 w0 Q pc lv (.double x :: .int i :: .ref a :: st) w ((ga_sd w t a i x).bind f) := by
  cases h : ga_sd w t a i x with
  | none => exact ga_no
  | some w2 =>
    obtain ⟨n, g, hw, hi, rfl⟩ := ga_sd_spec h
    refine ga_ofP (w2 := (w.1.set a (.inl (t, n, .inr (.inr (.inr (.inl (vf_upd g i.toNatClampNeg x)))))), w.2)) rfl (by simp) (fun B ad H locs k n2 ls Q' hH hS k2 => ?_) (kk _)
    obtain ⟨hx, hb, hml, hr, hown, hts, hlk, hbs, hK, hZ, htb, hmn, hfr, hlo, hst, h00⟩ := B
    have e := ga_w_get (tA := tA) (b := b) (ad := ad) hw
    have e2 : (tA.getD t (0, .int)).1 = cA := by simp [List.getD, ht]
    have e3 := ga_w_set (tA := tA) (b := b) (ad := ad) (w := w.1) (k := a) (x := .inl (t, n, .inr (.inr (.inr (.inl (vf_upd g i.toNatClampNeg x))))))
    simp only [ga_e, e2] at e e3
    exact va_dast hx hb hK hH.1 hH.2 hS a t e ht hi d (fun H1 locs1 h1 h2 h3 => k2 H1 locs1 ⟨by rw [← e3]; exact h1, by rw [← e3]; exact h2⟩ h3)
theorem ga_len_spec {t a n : Nat} (h : ga_len w t a = some n) : ∃ x : vp_A, w.1[a]? = some (.inl (t, x)) ∧ x.1 = n := by
  unfold ga_len at h
  split at h
  · rename_i t' n' x hw
    split at h
    · rename_i hc
      subst hc
      cases h
      exact ⟨_, hw, rfl⟩
    · cases h
  · cases h
theorem ga_alen {t a : Nat} {cA : ClassId} {ty : FieldType} {f : Nat → ga_O} (ht : tA[t]? = some (cA, ty)) (d : decode cc pc = .ok (.arraylength, 1)) (kk : ∀ n, ga_J l S0 D cl tA base b xn p e R s m args below meth c nL Ts own cc ret tb mn fr lo fl ad0 w0 Q (pc + 1) lv (.int (Int32.ofNat n) :: st) w (f n)) : ga_J l S0 D cl tA base b xn p e R s m args below meth c nL Ts own cc ret tb mn fr lo fl ad0 w0 Q pc lv (.ref a :: st) w ((ga_len w t a).bind f) := by
  cases h : ga_len w t a with
  | none => exact ga_no
  | some n =>
    obtain ⟨x, hw, rfl⟩ := ga_len_spec h
    refine ga_ofH (fun B ad H locs k n ls Q' hH hS hl2 k2 => ?_) (kk _)
    obtain ⟨hx, hb, hml, hr, hown, hts, hlk, hbs, hK, hZ, htb, hmn, hfr, hlo, hst, h00⟩ := B
    have e := ga_w_get (tA := tA) (b := b) (ad := ad) hw
    have e2 : (tA.getD t (0, .int)).1 = cA := by simp [List.getD, ht]
    simp only [ga_e, e2] at e
    exact va_alen hx hb hK hH.1 a t e ht rfl d k2
end GB
end
section
/-! NEW CELLS, CALLS, ENDS -/
def ga_ok (n : Nat) (v : Value) : Bool := match v with
  | .ref k => decide (k < n)
  | _ => true
def ga_okE (n : Nat) (x : ga_E) : Bool := match x with
  | .inl _ => true
  | .inr o => o.2.all (ga_ok n)
/-- no place is named that isn't there yet -/
def ga_okA (w : ga_W) (lv : List (Nat × Value)) (st : List Value) : Bool := w.1.all (ga_okE w.1.length) && lv.all (fun q => ga_ok w.1.length q.2) && st.all (ga_ok w.1.length)
theorem ga_ok_v {b n : Nat} {ad ad2 : Nat → Nat} (h : ∀ k, k < n → ad2 k = ad k) {v : Value} (hv : ga_ok n v = true) : ga_v b ad2 v = ga_v b ad v := by
  cases v <;> try rfl
  simp only [ga_ok, decide_eq_true_eq] at hv
  simp only [ga_v, h _ hv]
theorem ga_ok_st {b n : Nat} {ad ad2 : Nat → Nat} (h : ∀ k, k < n → ad2 k = ad k) {st : List Value} (hv : st.all (ga_ok n) = true) : st.map (ga_v b ad2) = st.map (ga_v b ad) :=
  List.map_congr_left fun v hm => ga_ok_v h (List.all_eq_true.mp hv v hm)
theorem ga_ok_lv {b n : Nat} {ad ad2 : Nat → Nat} (h : ∀ k, k < n → ad2 k = ad k) {lv : List (Nat × Value)} (hv : lv.all (fun q => ga_ok n q.2) = true) : ga_l b ad2 lv = ga_l b ad lv :=
  List.map_congr_left fun v hm => by rw [ga_ok_v h (List.all_eq_true.mp hv v hm)]
theorem ga_ok_e {tA : List (ClassId × FieldType)} {b n : Nat} {ad ad2 : Nat → Nat} (h : ∀ k, k < n → ad2 k = ad k) {x : ga_E} (hx : ga_okE n x = true) : ga_e tA b ad2 x = ga_e tA b ad x := by
  cases x with
  | inl y => rfl
  | inr y => simp only [ga_e, ga_ok_st h hx]
theorem ga_w_push {tA : List (ClassId × FieldType)} {b q : Nat} {ad : Nat → Nat} {w : List ga_E} {x : ga_E} (hw : w.all (ga_okE w.length) = true) (hx : ga_okE w.length x = true) : ga_w tA b (fun k => if k = w.length then q else ad k) (w ++ [x]) = ga_w tA b ad w ++ [(q, ga_e tA b ad x)] := by
  have h : ∀ k, k < w.length → (fun k => if k = w.length then q else ad k) k = ad k := fun k hk => by simp only; rw [if_neg (by omega)]
  simp only [ga_w, List.mapIdx_append, List.mapIdx_cons, List.mapIdx_nil, Nat.zero_add, if_true]
  congr 1
  · apply List.ext_getElem?
    intro i
    simp only [List.getElem?_mapIdx]
    cases hi : w[i]? with
    | none => rfl
    | some y =>
      have hl := (List.getElem?_eq_some_iff.mp hi).1
      simp only [Option.map_some]
      rw [if_neg (by omega), ga_ok_e h (List.all_eq_true.mp hw y (List.mem_of_getElem? hi))]
  · rw [ga_ok_e h hx]
section GC
variable {l : Launch} {S0 : State} {D : va_G} {cl : List vw_C} {tA : List (ClassId × FieldType)} {base b : Nat} {xn : Nat → String} {p : Program} {e : Env} {R : Room} {s : State} {m : MethodId} {args : Array Value} {below : List Frame} {meth : Method} {c : Code} {nL : Nat} {Ts : List Cond} {own : String} {cc : ByteArray} {ret : Option FieldType} {tb : List ExceptionTableEntry} {mn : String} {fr lo : Nat} {fl : Bool} {ad0 : Nat → Nat} {w0 : ga_W} {Q : ga_R → ga_W → State → Prop}
variable {pc : Nat} {lv : List (Nat × Value)} {st : List Value} {w : ga_W} {o : ga_O}
theorem ga_grow {pc2 N : Nat} {x : ga_E} (hf : fl = false) (hx : ∀ n, ga_okE n x = true) (h : (ga_B l S0 D cl tA base b p R s m args meth c nL Ts own cc ret tb mn fr lo) → ∀ (ad : Nat → Nat) (H : Heap) (locs : List Loc) (k n : Nat) (ls : Array Slot) (st1 : List Value) (Q' : State → Prop), ga_H D cl tA base b ad w.1 H → va_S (fun q => base ≤ q) s.heap H locs → k + 1 ≤ R.cells → n + N ≤ R.slots → (∀ (q : Nat) (H1 : Heap), va_P D cl (ga_w tA b ad w.1 ++ [(q, ga_e tA b ad x)]) H1 → va_D (fun q => base ≤ q) (ga_w tA b ad w.1 ++ [(q, ga_e tA b ad x)]) → va_S (fun q => base ≤ q) s.heap H1 locs → W p l e R s m args below meth c H1 locs (k + 1) (n + N) Q' (F0 m pc2 ls (.ref q :: st1))) → st1 = st.map (ga_v b ad) → W p l e R s m args below meth c H locs k n Q' (F0 m pc ls (st.map (ga_v b ad))))
    {st2 : List Value} (hs2 : True)
    (kk : ga_J l S0 D cl tA base b xn p e R s m args below meth c nL Ts own cc ret tb mn fr lo fl ad0 w0 Q pc2 lv (.ref w.1.length :: st) (w.1 ++ [x], w.2.1 + 1, w.2.2 + N) o) : ga_J l S0 D cl tA base b xn p e R s m args below meth c nL Ts own cc ret tb mn fr lo fl ad0 w0 Q pc lv st w (if ga_okA w lv st = true then o else none) := by
  by_cases hok : ga_okA w lv st = true
  · rw [if_pos hok]
    simp only [ga_okA, Bool.and_eq_true] at hok
    obtain ⟨⟨hok1, hok2⟩, hok3⟩ := hok
    intro r w' ho
    obtain ⟨⟨m1, m2, m3, m4⟩, h4⟩ := kk r w' ho
    simp only [List.length_append, List.length_singleton] at m1 m2 m3
    refine ⟨⟨by omega, by omega, by omega, fun z => by rw [hf] at z; cases z⟩, fun B a1 a2 a3 a4 ad H locs ls x1 x2 x3 x4 => ?_⟩
    refine h B ad H locs _ _ ls (st.map (ga_v b ad)) _ x2 x3 (by omega) (by omega) (fun q H1 h1 h2 h3 => ?_) rfl
    have hag : ∀ k, k < w.1.length → (fun k => if k = w.1.length then q else ad k) k = ad k := fun k hk => by simp only; rw [if_neg (by omega)]
    have e := ga_w_push (tA := tA) (b := b) (q := q) (ad := ad) hok1 (hx w.1.length)
    have hh := h4 B (by simp only; omega) (by simp only; omega) a3 a4 (fun k => if k = w.1.length then q else ad k) H1 locs ls
      ⟨by simp only [List.length_append, List.length_singleton]; have := x1.1; omega, fun k hk => by
        simp only [List.length_append, List.length_singleton] at hk
        have := x1.1
        simp only
        rw [if_neg (by omega)]
        exact x1.2 k (by omega)⟩ ⟨by rw [e]; exact h1, by rw [e]; exact h2⟩ h3 (by rw [ga_ok_lv hag hok2]; exact x4)
    simp only [List.map_cons, ga_v, if_true] at hh
    rw [ga_ok_st hag hok3] at hh
    have e1 : w.2.1 + 1 - w0.2.1 = w.2.1 - w0.2.1 + 1 := by omega
    have e2 : w.2.2 + N - w0.2.2 = w.2.2 - w0.2.2 + N := by omega
    rw [e1, e2] at hh
    exact hh
  · rw [if_neg hok]
    exact ga_no
theorem ga_new {ci index N : Nat} {C : String} {T : u_T} {ty0 : Nat → FieldType} {fs : List Value} (hf : fl = false) (hin : ∀ x ∈ u_ws C T N, x ∈ Ts) (hty : ∀ k, k < N → parseFieldDescriptor (T k).2.2.1 = some (ty0 k)) (hc : cl[ci]? = some (C, T, N)) (h1 : Cond.classLink own index C ∈ Ts) (h2 : Cond.instantiable C N ∈ Ts) (h3 : Cond.initialized C ∈ Ts) (hfs : ∀ j, j < N → defaultValue (ty0 j) = vp_V fs j) (hfm : ∀ (b : Nat) (ad : Nat → Nat), fs.map (ga_v b ad) = fs) (hfo : ∀ n, fs.all (ga_ok n) = true) (d : decode cc pc = .ok (.new index, 3))
    (kk : ga_J l S0 D cl tA base b xn p e R s m args below meth c nL Ts own cc ret tb mn fr lo fl ad0 w0 Q (pc + 3) lv (.ref w.1.length :: st) (w.1 ++ [.inr (ci, fs)], w.2.1 + 1, w.2.2 + N) o) : ga_J l S0 D cl tA base b xn p e R s m args below meth c nL Ts own cc ret tb mn fr lo fl ad0 w0 Q pc lv st w (if ga_okA w lv st = true then o else none) := by
  refine ga_grow (x := .inr (ci, fs)) (st2 := []) hf hfo (fun B ad H locs k n ls st1 Q' hH hS q1 q2 k2 es => ?_) trivial kk
  obtain ⟨hx, hb, hml, hr, hown, hts, hlk, hbs, hK, hZ, htb, hmn, hfr, hlo, hst, h00⟩ := B
  subst es
  simp only [ga_e, hfm] at k2
  exact va_new (D := D) hx hb hts hin ty0 hty hown (hts _ h1) (hts _ h2) (hts _ h3) hK hH.1 hH.2 hS (fun q h => Nat.le_trans hbs h) hc hfs q1 q2 d k2
theorem ga_newa {atype : ArrayType} {ty : FieldType} {t : Nat} {cA : ClassId} {n : Int32} {N : Nat} {x : (Nat → Int32) ⊕ (Nat → Int64) ⊕ (Nat → UInt32) ⊕ (Nat → UInt64) ⊕ (Nat → Option Nat)} (hf : fl = false) (h1 : Cond.arrayClass (newarray.typeOf atype) ∈ Ts) (hty : newarray.typeOf atype = ty) (hpr : ∀ C, ty ≠ .object C) (ht : tA[t]? = some (cA, ty)) (ha : ∀ cA : ClassId, vp_cell cA (N, x) = arrV cA N (fun _ => defaultValue ty)) (hn : ¬ n < 0) (hN : n.toNatClampNeg = N) (hby : N * componentBytes ty ≤ 536870912) (d : decode cc pc = .ok (.newarray atype, 2))
    (kk : ga_J l S0 D cl tA base b xn p e R s m args below meth c nL Ts own cc ret tb mn fr lo fl ad0 w0 Q (pc + 2) lv (.ref w.1.length :: st) (w.1 ++ [.inl (t, N, x)], w.2.1 + 1, w.2.2 + N) o) : ga_J l S0 D cl tA base b xn p e R s m args below meth c nL Ts own cc ret tb mn fr lo fl ad0 w0 Q pc lv (.int n :: st) w (if ga_okA w lv st = true then o else none) := by
  refine ga_of (pc2 := pc) (st2 := .int n :: st) (fun _ _ _ _ _ _ _ _ _ k => k) ?_
  have key : ga_J l S0 D cl tA base b xn p e R s m args below meth c nL Ts own cc ret tb mn fr lo fl ad0 w0 Q pc lv (.int n :: st) w (if ga_okA w lv st = true then o else none) := by
    by_cases hok : ga_okA w lv st = true
    · rw [if_pos hok]
      simp only [ga_okA, Bool.and_eq_true] at hok
      obtain ⟨⟨hok1, hok2⟩, hok3⟩ := hok
      intro r w' ho
      obtain ⟨⟨m1, m2, m3, m4⟩, h4⟩ := kk r w' ho
      simp only [List.length_append, List.length_singleton] at m1 m2 m3
      refine ⟨⟨by omega, by omega, by omega, fun z => by rw [hf] at z; cases z⟩, fun B a1 a2 a3 a4 ad H locs ls x1 x2 x3 x4 => ?_⟩
      have B0 := B
      obtain ⟨hx, hb, hml, hr, hown, hts, hlk, hbs, hK, hZ, htb, hmn, hfr, hlo, hst, h00⟩ := B
      refine va_newa (D := D) hx hb (hts _ h1) hty hK x2.1 x2.2 x3 (fun q h => Nat.le_trans hbs h) (a0 := (N, x)) ha hn hN hby (by omega) (by omega) d (fun q cA2 H1 g0 g1 g2 g3 => ?_)
      have hcA : cA2 = cA := by
        have z1 := (hK.2 t _ ht).2
        have z2 := (g0.2 tA.length (cA2, ty) (by simp)).2
        have z3 : s.vm.findClass ("[" ++ ty.toString) = some cA := by cases ty <;> first | exact z1 | exact absurd rfl (hpr _)
        have z4 : s.vm.findClass ("[" ++ ty.toString) = some cA2 := by cases ty <;> first | exact z2 | exact absurd rfl (hpr _)
        exact Option.some.inj (z4.symm.trans z3)
      subst hcA
      have hag : ∀ k, k < w.1.length → (fun k => if k = w.1.length then q else ad k) k = ad k := fun k hk => by simp only; rw [if_neg (by omega)]
      have e := ga_w_push (tA := tA) (b := b) (q := q) (ad := ad) (x := .inl (t, N, x)) hok1 rfl
      have e9 : (tA.getD t (0, .int)).1 = cA2 := by simp [List.getD, ht]
      simp only [ga_e, e9] at e
      have hh := h4 B0 (by simp only; omega) (by simp only; omega) a3 a4 (fun k => if k = w.1.length then q else ad k) H1 locs ls
        ⟨by simp only [List.length_append, List.length_singleton]; have := x1.1; omega, fun k hk => by
          simp only [List.length_append, List.length_singleton] at hk
          have := x1.1
          simp only
          rw [if_neg (by omega)]
          exact x1.2 k (by omega)⟩ ⟨by rw [e]; exact g1, by rw [e]; exact g2⟩ g3 (by rw [ga_ok_lv hag hok2]; exact x4)
      simp only [List.map_cons, ga_v, if_true] at hh
      rw [ga_ok_st hag hok3] at hh
      have e1 : w.2.1 + 1 - w0.2.1 = w.2.1 - w0.2.1 + 1 := by omega
      have e2 : w.2.2 + N - w0.2.2 = w.2.2 - w0.2.2 + N := by omega
      rw [e1, e2] at hh
      exact hh
    · rw [if_neg hok]
      exact ga_no
  exact key
/-! calls -/
theorem ga_objInit {index a : Nat} (h1 : Cond.methodLink own index Lib.objectInit ∈ Ts) (h2 : Cond.instanceMethod Lib.objectInit ∈ Ts) (h3 : Cond.code Lib.objectInit ⟨#[0xb1]⟩ 1 none ∈ Ts) (hw : (st.map fun v => v.category).sum ≤ 8) (hf : 1 ≤ fr) (hl : 20 ≤ lo) (d : decode cc pc = .ok (.invokespecial index, 3))
    (k : ga_J l S0 D cl tA base b xn p e R s m args below meth c nL Ts own cc ret tb mn fr lo fl ad0 w0 Q (pc + 3) lv st w o) : ga_J l S0 D cl tA base b xn p e R s m args below meth c nL Ts own cc ret tb mn fr lo fl ad0 w0 Q pc lv (.ref a :: st) w o := by
  refine ga_of (fun B ad H locs k n ls Q' hl2 kk => ?_) k
  obtain ⟨hx, hb, hml, hr, hown, hts, hlk, hbs, hK, hZ, htb, hmn, hfr, hlo, hst, h00⟩ := B
  have hcs := ga_catsum b ad st
  exact W.objInit (g := F0 m pc ls (.ref (ad a) :: st.map (ga_v b ad))) hx hb hown (hts _ h1) (hts _ h2) (hts _ h3) rfl (by rw [hml]; exact hl2.1) rfl d (by omega) (by show 2 * 0 + _ + 12 ≤ _; omega) kk
theorem ga_max {index : Nat} {x y : Int32} (h1 : Cond.methodLink own index Lib.Math.max.name ∈ Ts) (h2 : Cond.static Lib.Math.max.name ∈ Ts) (h3 : Cond.initialized "java/lang/Math" ∈ Ts) (h4 : Cond.code Lib.Math.max.name Lib.Math.max.code 2 (some .int) ∈ Ts) (hw : (st.map fun v => v.category).sum ≤ 8) (hf : 1 ≤ fr) (hl : 21 ≤ lo) (d : decode cc pc = .ok (.invokestatic index, 3))
    (k : ga_J l S0 D cl tA base b xn p e R s m args below meth c nL Ts own cc ret tb mn fr lo fl ad0 w0 Q (pc + 3) lv (.int (if x < y then y else x) :: st) w o) : ga_J l S0 D cl tA base b xn p e R s m args below meth c nL Ts own cc ret tb mn fr lo fl ad0 w0 Q pc lv (.int y :: .int x :: st) w o := by
  intro r w' ho
  obtain ⟨g1, g4⟩ := k r w' ho
  refine ⟨g1, fun B a1 a2 a3 a4 ad H locs ls x1 x2 x3 x4 => ?_⟩
  have kk := g4 B a1 a2 a3 a4 ad H locs ls x1 x2 x3 x4
  obtain ⟨hx, hb, hml, hr, hown, hts, hlk, hbs, hK, hZ, htb, hmn, hfr, hlo, hst, h00⟩ := B
  obtain ⟨n1, n2, -, -⟩ := g1
  have hcs := ga_catsum b ad st
  exact va_mmax hx hb (hml.trans x4.1.symm) hown (hts _ h1) (hts _ h2) (hts _ h3) (hts _ h4) (by omega) (by omega) (by omega) (by omega) d kk
theorem ga_min {index : Nat} {x y : Int32} (h1 : Cond.methodLink own index Lib.Math.min.name ∈ Ts) (h2 : Cond.static Lib.Math.min.name ∈ Ts) (h3 : Cond.initialized "java/lang/Math" ∈ Ts) (h4 : Cond.code Lib.Math.min.name Lib.Math.min.code 2 (some .int) ∈ Ts) (hw : (st.map fun v => v.category).sum ≤ 8) (hf : 1 ≤ fr) (hl : 21 ≤ lo) (d : decode cc pc = .ok (.invokestatic index, 3))
    (k : ga_J l S0 D cl tA base b xn p e R s m args below meth c nL Ts own cc ret tb mn fr lo fl ad0 w0 Q (pc + 3) lv (.int (if y < x then y else x) :: st) w o) : ga_J l S0 D cl tA base b xn p e R s m args below meth c nL Ts own cc ret tb mn fr lo fl ad0 w0 Q pc lv (.int y :: .int x :: st) w o := by
  intro r w' ho
  obtain ⟨g1, g4⟩ := k r w' ho
  refine ⟨g1, fun B a1 a2 a3 a4 ad H locs ls x1 x2 x3 x4 => ?_⟩
  have kk := g4 B a1 a2 a3 a4 ad H locs ls x1 x2 x3 x4
  obtain ⟨hx, hb, hml, hr, hown, hts, hlk, hbs, hK, hZ, htb, hmn, hfr, hlo, hst, h00⟩ := B
  obtain ⟨n1, n2, -, -⟩ := g1
  have hcs := ga_catsum b ad st
  exact va_mmin hx hb (hml.trans x4.1.symm) hown (hts _ h1) (hts _ h2) (hts _ h3) (hts _ h4) (by omega) (by omega) (by omega) (by omega) d kk
end GC
/-- how a body ends -/
def ga_MQ (xn : Nat → String) (D : va_G) (cl : List vw_C) (tA : List (ClassId × FieldType)) (base b : Nat) (s : State) (args : Array Value) (below : List Frame) (ad0 : Nat → Nat) (w0 : ga_W) (r : ga_R) (w' : ga_W) : State → Prop := match r with
  | .inl v => MQ below (ga_Qc D cl tA base b ad0 w0.1.length v w') args s (w'.2.1 - w0.2.1) (w'.2.2 - w0.2.2) (fun q => base ≤ q)
  | .inr x => fun t => ∃ o, t.status = .running ∧ Ended t below o ∧ ga_Tq xn D cl tA base b ad0 w0.1.length x w' (w'.2.1 - w0.2.1) (w'.2.2 - w0.2.2) args s o t
/-- a method that ends so -/
def ga_MM (l : Launch) (S0 : State) (D : va_G) (cl : List vw_C) (tA : List (ClassId × FieldType)) (base b : Nat) (xn : Nat → String) (y : MethodName) (ws : List Cond) (fr lo : Nat) (av : List Value) (w : ga_W) (ad : Nat → Nat) (r : ga_R) (w' : ga_W) : Prop := match r with
  | .inl v => Met l y ws { frames := fr, cells := w'.2.1 - w.2.1, slots := w'.2.2 - w.2.2, locals := lo } (va_Pc (av.map (ga_v b ad)) (fun U => ga_P S0 D cl tA base b ad w U)) (ga_Qc D cl tA base b ad w.1.length v w') (w'.2.1 - w.2.1) (w'.2.2 - w.2.2) (fun q => base ≤ q)
  | .inr x => MetFree l y (headSpec ws { frames := fr, cells := w'.2.1 - w.2.1, slots := w'.2.2 - w.2.2, locals := lo }) (va_Pc (av.map (ga_v b ad)) (fun U => ga_P S0 D cl tA base b ad w U)) (fun _ _ _ _ _ => True) (ga_Tq xn D cl tA base b ad w.1.length x w' (w'.2.1 - w.2.1) (w'.2.2 - w.2.2))
/-- a method: its pure answer o at the arguments av in the world w -/
def ga_M (l : Launch) (S0 : State) (D : va_G) (cl : List vw_C) (tA : List (ClassId × FieldType)) (base b : Nat) (xn : Nat → String) (y : MethodName) (ws : List Cond) (fr lo : Nat) (fl : Bool) (av : List Value) (w : ga_W) (o : ga_O) : Prop :=
  ∀ (r : ga_R) (w' : ga_W), o = some (r, w') → (∀ (p : Program) (e : Env) (R : Room) (s : State) (m : MethodId) (args : Array Value) (below : List Frame) (meth : Method) (c : Code), ga_N fl w w') ∧
    ∀ ad : Nat → Nat, ga_MM l S0 D cl tA base b xn y ws fr lo av w ad r w'
/-- what comes behind a call -/
def ga_c (o1 : ga_O) (f : Option Value → ga_W → ga_O) (g : Nat → ga_W → ga_O) : ga_O := match o1 with
  | some (.inl v, w1) => f v w1
  | some (.inr x, w1) => g x w1
  | none => none
def ga_kI (f : Int32 → ga_W → ga_O) (v : Option Value) (w1 : ga_W) : ga_O := match v with
  | some (.int x) => f x w1
  | _ => none
def ga_kD (f : UInt64 → ga_W → ga_O) (v : Option Value) (w1 : ga_W) : ga_O := match v with
  | some (.double x) => f x w1
  | _ => none
def ga_kR (f : Nat → ga_W → ga_O) (v : Option Value) (w1 : ga_W) : ga_O := match v with
  | some (.ref x) => f x w1
  | _ => none
def ga_kV (f : ga_W → ga_O) (v : Option Value) (w1 : ga_W) : ga_O := match v with
  | none => f w1
  | _ => none
/-- the cell a is an object of the class number ci -/
def ga_is (w : ga_W) (ci a : Nat) : Bool := match w.1[a]? with
  | some (.inr (c', _)) => decide (c' = ci)
  | _ => false
theorem ga_is_spec {w : ga_W} {ci a : Nat} (h : ga_is w ci a = true) : ∃ fs, w.1[a]? = some (.inr (ci, fs)) := by
  unfold ga_is at h
  split at h
  · rename_i c' fs hw
    rw [decide_eq_true_eq] at h
    subst h
    exact ⟨fs, hw⟩
  · cases h
/-- an exception goes on to the caller -/
def ga_up (x : Nat) (w1 : ga_W) : ga_O := some (.inr x, w1)
/-- a call that ends in an exception of the class xn x, seen by the caller -/
def ga_XR (xn : Nat → String) (D : va_G) (cl : List vw_C) (tA : List (ClassId × FieldType)) (base b : Nat) (ad : Nat → Nat) (n0 : Nat) (x : Nat) (w1 : ga_W) (p : Program) (l : Launch) (e : Env) (R : Room) (s : State) (m : MethodId) (args : Array Value) (below : List Frame) (meth : Method) (c : Code) (H : Heap) (locs : List Loc) (k n mc ms : Nat) (g : JFrame) (rest : List Value) : Prop :=
  ∀ T : State, T.heap = H → Stand p l e R s m args below meth c T locs k n → ∃ (q : Addr) (ce : Cell) (T' : State) (L : List Loc) (ad' : Nat → Nat), Stand p l e R s m args below meth c T' (locs ++ L) (k + mc) (n + ms) ∧ (∀ z ∈ L, base ≤ z.base) ∧
    T'.heap[q]? = some ce ∧ ce.vm = .none ∧ s.vm.findClass (xn x) = some ce.cls ∧ ga_X n0 ad w1.1.length ad' ∧ ga_H D cl tA base b ad' w1.1 T'.heap ∧ H.size ≤ T'.heap.size ∧ (∀ z : Nat, z < H.size → ¬ base ≤ z → T'.heap[z]? = H[z]?) ∧
    Steps p.tables e below (T.setTop g) ((T'.setTop { g with stack := rest }).pushFrame (.throwing q))
section GD
variable {l : Launch} {S0 : State} {D : va_G} {cl : List vw_C} {tA : List (ClassId × FieldType)} {base b : Nat} {xn : Nat → String} {p : Program} {e : Env} {R : Room} {s : State} {m : MethodId} {args : Array Value} {below : List Frame} {meth : Method} {c : Code} {nL : Nat} {Ts : List Cond} {own : String} {cc : ByteArray} {ret : Option FieldType} {tb : List ExceptionTableEntry} {mn : String} {fr lo : Nat} {fl : Bool} {ad0 : Nat → Nat} {w0 : ga_W} {Q : ga_R → ga_W → State → Prop}
variable {pc : Nat} {lv : List (Nat × Value)} {st : List Value} {w : ga_W} {o : ga_O}
theorem ga_blind {av : List Value} {ad : Nat → Nat} : FrameBlind (va_Pc av (fun U => ga_P S0 D cl tA base b ad w U)) := by
  intro a U g mk q
  obtain ⟨q0, q1, q2, q3, q4, q5⟩ := q
  exact ⟨q0, q1, va_K.moved (u := U) (U := U.calling g mk a) (Vm.Alike.refl U.vm) q2, ga_Z.warm (u := U) (U := U.calling g mk a) (State.WarmedH.refl U) q3, q4, q5⟩
theorem ga_pre {ad : Nat → Nat} {H : Heap} {locs : List Loc} (B : (ga_B l S0 D cl tA base b p R s m args meth c nL Ts own cc ret tb mn fr lo)) (hH : ga_H D cl tA base b ad w.1 H) (hS : va_S (fun q => base ≤ q) s.heap H locs) : ∀ U : State, U.heap = H → s.WarmedH U.vm → ga_P S0 D cl tA base b ad w U := by
  intro U hU hW
  obtain ⟨hx, hb, hml, hr, hown, hts, hlk, hbs, hK, hZ, htb, hmn, hfr, hlo, hst, h00⟩ := B
  refine ⟨by rw [hU]; exact Nat.le_trans hbs hS.1, va_K.moved hW.alike hK, ?_, h00, by rw [hU]; exact hH⟩
  have h1 : ga_Z S0 base s H := hZ.kept hbs (fun a h1 h2 => hS.2.1 a h1 h2)
  rw [hU]
  exact h1.warm hW
/-- behind a call nothing old has changed -/
theorem ga_keep {H H1 : Heap} {locs L : List Loc} (hS : va_S (fun q => base ≤ q) s.heap H locs) (hz : H.size ≤ H1.size) (hk : ∀ z : Nat, z < H.size → ¬ base ≤ z → H1[z]? = H[z]?) (hL : ∀ z ∈ L, base ≤ z.base) : va_S (fun q => base ≤ q) s.heap H1 (locs ++ L) := by
  refine ⟨Nat.le_trans hS.1 hz, fun q h1 h2 => ?_, fun q hq => ?_⟩
  · rw [hk q (Nat.lt_of_lt_of_le h1 hS.1) h2]
    exact hS.2.1 q h1 h2
  · rcases List.mem_append.mp hq with h | h
    · exact hS.2.2 q h
    · exact hL q h
theorem ga_run {y : MethodName} {ws : List Cond} {fr1 lo1 : Nat} {fl1 : Bool} {av st0 : List Value} {o1 : ga_O} {f : Option Value → ga_W → ga_O} {g : Nat → ga_W → ga_O} (hM : ga_M l S0 D cl tA base b xn y ws fr1 lo1 fl1 av w o1) (hf : fl1 = true ∨ (fl = false ∧ lv.all (fun q => ga_ok w.1.length q.2) = true ∧ st.all (ga_ok w.1.length) = true))
    (hrv : ∀ (v : Option Value) (w1 : ga_W), o1 = some (.inl v, w1) → (ga_B l S0 D cl tA base b p R s m args meth c nL Ts own cc ret tb mn fr lo) → ∀ (ad : Nat → Nat) (H : Heap) (locs : List Loc) (k n : Nat) (ls : Array Slot), ga_H D cl tA base b ad w.1 H → va_S (fun q => base ≤ q) s.heap H locs → lv_has ls nL (ga_l b ad lv) → k + (w1.2.1 - w.2.1) ≤ R.cells → n + (w1.2.2 - w.2.2) ≤ R.slots →
      ∃ aa : Array Value, va_Run p l e R s m args below meth c H locs k n (w1.2.1 - w.2.1) (w1.2.2 - w.2.2) (F0 m pc ls (st0.map (ga_v b ad))) (st.map (ga_v b ad)) (ga_Qc D cl tA base b ad w.1.length v w1 aa) (fun q => base ≤ q))
    (hrx : ∀ (x : Nat) (w1 : ga_W), o1 = some (.inr x, w1) → (ga_B l S0 D cl tA base b p R s m args meth c nL Ts own cc ret tb mn fr lo) → ∀ (ad : Nat → Nat) (H : Heap) (locs : List Loc) (k n : Nat) (ls : Array Slot), ga_H D cl tA base b ad w.1 H → va_S (fun q => base ≤ q) s.heap H locs → lv_has ls nL (ga_l b ad lv) → k + (w1.2.1 - w.2.1) ≤ R.cells → n + (w1.2.2 - w.2.2) ≤ R.slots →
      ga_XR xn D cl tA base b ad w.1.length x w1 p l e R s m args below meth c H locs k n (w1.2.1 - w.2.1) (w1.2.2 - w.2.2) (F0 m pc ls (st0.map (ga_v b ad))) (st.map (ga_v b ad)))
    (kv : ∀ v w1, ga_J l S0 D cl tA base b xn p e R s m args below meth c nL Ts own cc ret tb mn fr lo fl ad0 w0 Q (pc + 3) lv (v.toList ++ st) w1 (f v w1)) (kx : ∀ x w1, ga_JX l S0 D cl tA base b xn p e R s m args below meth c nL Ts own cc ret tb mn fr lo fl ad0 w0 Q pc lv x w1 (g x w1)) : ga_J l S0 D cl tA base b xn p e R s m args below meth c nL Ts own cc ret tb mn fr lo fl ad0 w0 Q pc lv st0 w (ga_c o1 f g) := by
  cases ho1 : o1 with
  | none => exact ga_no
  | some q1 =>
    obtain ⟨r1, w1⟩ := q1
    intro r w' ho
    obtain ⟨hN1, -⟩ := hM r1 w1 ho1
    have hN1 := hN1 p e R s m args below meth c
    have hflip : ∀ w2 : ga_W, ga_N fl w1 w2 → ga_N fl w w2 := fun w2 h => by
      refine ga_N.tr ⟨hN1.1, hN1.2.1, hN1.2.2.1, fun z => ?_⟩ h
      rcases hf with hf | ⟨hf, -⟩
      · exact hN1.2.2.2 hf
      · rw [hf] at z; cases z
    have hsame : ∀ ad ad' : Nat → Nat, ga_X w.1.length ad w1.1.length ad' → ga_l b ad' lv = ga_l b ad lv ∧ st.map (ga_v b ad') = st.map (ga_v b ad) := fun ad ad' hX => by
      rcases hf with hf | ⟨-, hf1, hf2⟩
      · rw [hN1.2.2.2 hf] at hX
        rw [hX.eq]
        exact ⟨rfl, rfl⟩
      · exact ⟨ga_ok_lv (fun k hk => hX.2 k (Or.inl hk)) hf1, ga_ok_st (fun k hk => hX.2 k (Or.inl hk)) hf2⟩
    cases r1 with
    | inl v =>
      obtain ⟨g1, g4⟩ := kv v w1 r w' ho
      refine ⟨hflip _ g1, fun B a1 a2 a3 a4 ad H locs ls x1 x2 x3 x4 => ?_⟩
      obtain ⟨n1, n2, n3, -⟩ := hN1
      obtain ⟨n4, n5, n6, -⟩ := id g1
      obtain ⟨aa, hr⟩ := hrv v w1 ho1 B ad H locs (w.2.1 - w0.2.1) (w.2.2 - w0.2.2) ls x2 x3 x4 (by omega) (by omega)
      intro T hT X
      obtain ⟨v', st₀, t, T', L, h0, X', hL, e1, e2, ⟨⟨ad', hX, hv, hH'⟩, hF⟩, stp⟩ := hr T hT X
      cases hv
      obtain ⟨q1, q2⟩ := hsame ad ad' hX
      have k3 : va_S (fun q => base ≤ q) s.heap T'.heap (locs ++ L) := ga_keep x3 (by rw [e1, ← h0]; exact hF.1) (fun z h1 h2 => by rw [e1, ← h0]; exact hF.2 z (by rw [h0]; exact h1) h2) hL
      have hh := g4 B (by omega) (by omega) a3 a4 ad' T'.heap (locs ++ L) ls (ga_X.tr x1 hX) (by rw [e1]; exact hH') k3 (by rw [q1]; exact x4)
      have z1 : w1.2.1 - w0.2.1 = w.2.1 - w0.2.1 + (w1.2.1 - w.2.1) := by omega
      have z2 : w1.2.2 - w0.2.2 = w.2.2 - w0.2.2 + (w1.2.2 - w.2.2) := by omega
      rw [z1, z2, List.map_append, q2] at hh
      have z3 : v.toList.map (ga_v b ad') = (v.map (ga_v b ad')).toList := by cases v <;> rfl
      rw [z3] at hh
      obtain ⟨t2, s1, s2⟩ := hh T' rfl X'
      exact ⟨t2, stp t2 s1, s2⟩
    | inr x =>
      obtain ⟨g1, g4⟩ := kx x w1 r w' ho
      refine ⟨hflip _ g1, fun B a1 a2 a3 a4 ad H locs ls x1 x2 x3 x4 => ?_⟩
      obtain ⟨n1, n2, n3, -⟩ := hN1
      obtain ⟨n4, n5, n6, -⟩ := id g1
      have hr := hrx x w1 ho1 B ad H locs (w.2.1 - w0.2.1) (w.2.2 - w0.2.2) ls x2 x3 x4 (by omega) (by omega)
      intro T hT X
      obtain ⟨q, ce, T', L, ad', X', hL, hce, hcv, hcl, hX, hH', hz, hk, stp⟩ := hr T hT X
      obtain ⟨q1, q2⟩ := hsame ad ad' hX
      have hh := g4 B (by omega) (by omega) a3 a4 ad' T'.heap (locs ++ L) ls (st.map (ga_v b ad)) ce q (ga_X.tr x1 hX) hH' (ga_keep x3 hz hk hL) (by rw [q1]; exact x4) hce hcv hcl
      have z1 : w1.2.1 - w0.2.1 = w.2.1 - w0.2.1 + (w1.2.1 - w.2.1) := by omega
      have z2 : w1.2.2 - w0.2.2 = w.2.2 - w0.2.2 + (w1.2.2 - w.2.2) := by omega
      rw [z1, z2] at hh
      obtain ⟨t2, s1, s2⟩ := hh T' rfl X'
      exact ⟨t2, stp.trans s1, s2⟩
end GD
end
section
/-! A CALL THAT ENDS IN AN EXCEPTION -/
section GE
variable {l : Launch} {S0 : State} {D : va_G} {cl : List vw_C} {tA : List (ClassId × FieldType)} {base b : Nat} {xn : Nat → String} {p : Program} {e : Env} {R : Room} {s : State} {m : MethodId} {args : Array Value} {below : List Frame} {meth : Method} {c : Code} {nL : Nat} {Ts : List Cond} {own : String} {cc : ByteArray} {ret : Option FieldType} {tb : List ExceptionTableEntry} {mn : String} {fr lo : Nat} {fl : Bool} {ad0 : Nat → Nat} {w0 : ga_W} {Q : ga_R → ga_W → State → Prop}
variable {pc : Nat} {lv : List (Nat × Value)} {st : List Value} {w : ga_W} {o : ga_O}
theorem ga_backT {y : MethodName} {ws : List Cond} {fr1 lo1 mc ms maxL n0 x : Nat} {ad : Nat → Nat} {w1 : ga_W} {bytes : ByteArray} {ret1 : Option FieldType} {Pc : Array Value → State → Prop} (hM : MetFree l y (headSpec ws { frames := fr1, cells := mc, slots := ms, locals := lo1 }) Pc (fun _ _ _ _ _ => True) (ga_Tq xn D cl tA base b ad n0 x w1 mc ms))
    {U : State} {locs : List Loc} {k n : Nat} (X : Stand p l e R s m args below meth c U locs k n) {g : JFrame} (hg : g.method = m) (hsize : g.locals.size = c.maxLocals) {ig : Instr} {len : Nat} (hdg : decode c.code g.pc = .ok (ig, len)) (hW : 2 * g.monitorRoom + (g.stack.map fun v => v.category).sum ≤ 8)
    {mk : MethodId} {a : Array Value} (hn : U.methodNamed? y = some mk) (h1 : (headSpec ws { frames := fr1, cells := mc, slots := ms, locals := lo1 }).pre.before a U = true) (h2 : (Cond.code y bytes maxL ret1).before a U = true) (h3 : (Cond.initialized y.cls).before a U = true) (hfr : fr1 + 1 ≤ R.frames) (hlo : 8 + (maxL + 11) + lo1 ≤ R.locals) (h4 : k + mc ≤ R.cells) (h5 : n + ms ≤ R.slots) (hP : Pc a (U.calling g mk a)) :
    ∃ (q : Addr) (ce : Cell) (T' : State) (L : List Loc) (ad' : Nat → Nat), Stand p l e R s m args below meth c T' (locs ++ L) (k + mc) (n + ms) ∧ (∀ z ∈ L, base ≤ z.base) ∧
      T'.heap[q]? = some ce ∧ ce.vm = .none ∧ U.vm.findClass (xn x) = some ce.cls ∧ ga_X n0 ad w1.1.length ad' ∧ ga_H D cl tA base b ad' w1.1 T'.heap ∧ U.heap.size ≤ T'.heap.size ∧ (∀ z : Nat, z < U.heap.size → ¬ base ≤ z → T'.heap[z]? = U.heap[z]?) ∧
      Steps p.tables e below (doInvoke e (U.setTop g) [] mk a).1 ((T'.setTop g).pushFrame (.throwing q)) := by
  obtain ⟨methY, cY, hmY, hcY, -, hlY, -, -, -, -⟩ := Cond.code_spec hn h2
  obtain ⟨kY, hkY, -⟩ := className_of_methodNamed hn
  have hinitY : kY.init = .initialized := Cond.initialized_spec (findClass_of_methodNamed hn) hkY h3
  have h : At U g.method c below := by rw [hg]; exact X.here
  have hroom : (U.calling g mk a).hasRoom e.platform (headSpec ws { frames := fr1, cells := mc, slots := ms, locals := lo1 }).room = true := X.room_calling (g := g) (R' := (headSpec ws { frames := fr1, cells := mc, slots := ms, locals := lo1 }).room) hsize hmY hcY hfr (by rw [hlY]; show _ + (maxL + 11) + lo1 ≤ R.locals; omega) h4 h5
  have happ : (headSpec ws { frames := fr1, cells := mc, slots := ms, locals := lo1 }).appliesLoose y e.platform (U.calling g mk a) = true := Spec.appliesLoose_calling (g := g) h hdg hn hkY hinitY hroom h1
  obtain ⟨mid, hmid⟩ := h.above
  have hfrm : (U.setTop g).frames = (.java g :: mid) ++ below := by rw [State.frames_setTop' g h.top, hmid]; rfl
  obtain ⟨oc, t, hsteps, -, hend, hq⟩ := Steps.callFree hM p X.admits X.cas X.clock (acts := []) hfrm happ hP trivial
  have hq' : ga_Tq xn D cl tA base b ad n0 x w1 mc ms a (U.calling g mk a) oc t := hq
  obtain ⟨q, ce, L, ad', rfl, hce, hcv, hcl, hWt, hsm, hL, hX, hH, hF⟩ := hq'
  rw [State.frames_setTop' g h.top] at hend
  have hfr2 : t.frames = .throwing q :: .java g :: U.frames.tail := hend
  obtain ⟨g₀, hg0⟩ := Option.isSome_iff_exists.mp h.top
  obtain ⟨r, hr⟩ := State.topJava?_eq_some.mp hg0
  obtain ⟨e2, q2, q3, q4, q5, q6⟩ := hsm
  have e3 : t = ({ (U.calling g mk a).setFrames t.frames with heap := t.heap, slotsUsed := t.slotsUsed } : State).setVm t.vm := by
    have z : t = ({ t with vm := (U.calling g mk a).vm } : State).setVm t.vm := rfl
    rw [e2] at z
    exact z
  have hW' : U.WarmedH t.vm := hWt
  have hr' : (({ U with heap := t.heap, slotsUsed := t.slotsUsed } : State).setVm t.vm).frames = .java g₀ :: r := hr
  have ht : t = ((({ U with heap := t.heap, slotsUsed := t.slotsUsed } : State).setVm t.vm).setTop g).pushFrame (.throwing q) := by
    refine e3.trans ?_
    rw [hfr2, State.calling_eq h.top, State.setFrames_setFrames, State.pushFrame, State.frames_setTop _ hr', State.setTop_of_frames _ hr', State.setFrames_setFrames, hr]
    rfl
  have hsame : U.sameButNew ({ U with heap := t.heap, slotsUsed := t.slotsUsed } : State) L mc ms := by
    refine ⟨?_, q2, q3, q4, q5, q6⟩
    obtain ⟨th, hth, -⟩ := State.frames_cons hr
    show ({ U with heap := t.heap, slotsUsed := t.slotsUsed } : State) = { U.setFrames U.frames with heap := t.heap, slotsUsed := t.slotsUsed }
    rw [State.setFrames_self hth]
  subst hg
  refine ⟨q, ce, ({ U with heap := t.heap, slotsUsed := t.slotsUsed } : State).setVm t.vm, L, ad',
    ⟨X.admits, X.cas, X.clock, X.frames, X.room, X.hears, X.method, X.code, (X.here.setHeapUsed t.heap t.slotsUsed).setVm hW'.alike, X.tail, State.WarmedH.trans X.warmed hW', X.limits, X.bytes, X.same.trans (hsame.setVm s.vm)⟩,
    hL, hce, hcv, hcl, hX, hH, hF.1, fun z h1 h2 => hF.2 z h1 h2, ?_⟩
  rw [← ht]
  exact hsteps
theorem ga_xV {y : MethodName} {ws : List Cond} {fr1 lo1 mc ms maxL n0 x index nA b0 : Nat} {ad : Nat → Nat} {w1 : ga_W} {bytes : ByteArray} {ret1 : Option FieldType} {C : String} {Pc : Array Value → State → Prop} {H : Heap} {locs : List Loc} {k n : Nat} {As rest : List Value} {g : JFrame} (S : CallFix p m c cc nL s args Ts own) (hM : MetFree l y (headSpec ws { frames := fr1, cells := mc, slots := ms, locals := lo1 }) Pc (fun _ _ _ _ _ => True) (ga_Tq xn D cl tA base b ad n0 x w1 mc ms))
    (cw : CallW R s args own C index y bytes maxL ret1 ws { frames := fr1, cells := mc, slots := ms, locals := lo1 } mc ms nA) (hp : PreV s H C b0 Pc As) (hg : g.method = m) (hn : As.length = nA) (hsize : g.locals.size = nL) (hstack : g.stack = As.reverse ++ .ref b0 :: rest) (hW : 2 * g.monitorRoom + (rest.map fun v => v.category).sum ≤ 8) (hdg : decode cc g.pc = .ok (.invokevirtual index, 3)) (hf : k + mc ≤ R.cells ∧ n + ms ≤ R.slots) :
    ga_XR xn D cl tA base b ad n0 x w1 p l e R s m args below meth c H locs k n mc ms g rest := by
  obtain ⟨⟨hrc, hrs, hfr, hlo, hws, hcw, hcode, hini, hy, hlen, hl⟩, hin, hse⟩ := cw
  obtain ⟨hx, hb, hml, ho, -⟩ := S
  obtain ⟨hblind, ⟨cellB, hcB, hoB, hclB⟩, hPc⟩ := hp
  intro T hT X
  obtain ⟨mk, methM, hnamed, hmethM, hstM, habM⟩ := Cond.instanceMethod_spec hin
  obtain ⟨methM', cM, hmethM', -, -, -, -, -, -, hsigM⟩ := Cond.code_spec hnamed hcode
  cases hmethM.symm.trans hmethM'
  obtain ⟨c2, r2, m2, q1, q2, q3, q4, kP, hkP, hkPi⟩ := Cond.selects_spec hse
  cases hclB.symm.trans q1
  cases (State.methodFound?_of_named hnamed hy).symm.trans q2
  cases hnamed.symm.trans q3
  have hselP : selectMethod e.platform s.vm cellB.cls mk = .method mk := by rw [Launch.admits_selectMethod X.admits]; exact q4
  obtain ⟨vm₁, X₁, hstep₁⟩ := X.invokevirtual hx ho hl hnamed hmethM hstM hkP hkPi hy (a := b0) (cell := cellB) (by rw [hT]; exact hcB)
    (fun z h => by rw [h] at hoB; cases hoB) hselP hmethM habM hkP hkPi (g := g) hg (argsL := As) (rest := rest) (hn.trans (hlen _ hsigM)) hstack (by rw [hb]; exact hdg)
  obtain ⟨q, ce, T', L, ad', X', hL, hce, hcv, hcl, hX, hH, hz, hk, st⟩ := ga_backT hM X₁ (g := { g with stack := rest }) (ig := .invokevirtual index) (len := 3) hg (hsize.trans hml.symm) (by rw [hb]; exact hdg) hW (X₁.named hnamed) (a := (Value.ref b0 :: As).toArray) (atoms_intro fun w hw => hws w hw _ _ X₁.warmed) (hws _ hcw _ _ X₁.warmed)
    (word_at X₁.warmed (Or.inl (by first | rfl | simp [Cond.onTables, Cond.keeps, Cond.steady])) hini) hfr hlo hf.1 hf.2 (hblind _ _ _ _ (hPc (T.setVm vm₁) hT X₁.warmed))
  refine ⟨q, ce, T', L, ad', X', hL, hce, hcv, ?_, hX, hH, by rw [← hT]; exact hz, fun z h1 h2 => by rw [← hT]; exact hk z (by rw [← hT] at h1; exact h1) h2, hstep₁ _ fun acts => by rw [doInvoke_state]; exact st⟩
  have z1 : vm₁.findClass (xn x) = some ce.cls := hcl
  have z2 : s.WarmedH vm₁ := X₁.warmed
  rw [z2.alike.findClass] at z1
  exact z1
theorem ga_xS {y : MethodName} {ws : List Cond} {fr1 lo1 mc ms maxL n0 x index nA : Nat} {ad : Nat → Nat} {w1 : ga_W} {bytes : ByteArray} {ret1 : Option FieldType} {Pc : Array Value → State → Prop} {H : Heap} {locs : List Loc} {k n : Nat} {As rest : List Value} {g : JFrame} (S : CallFix p m c cc nL s args Ts own) (hM : MetFree l y (headSpec ws { frames := fr1, cells := mc, slots := ms, locals := lo1 }) Pc (fun _ _ _ _ _ => True) (ga_Tq xn D cl tA base b ad n0 x w1 mc ms))
    (cw : CallB R s args own index y bytes maxL ret1 ws { frames := fr1, cells := mc, slots := ms, locals := lo1 } mc ms nA ∧ (Cond.static y).before args s = true) (hp : PreS s H Pc As) (hg : g.method = m) (hn : As.length = nA) (hsize : g.locals.size = nL) (hstack : g.stack = As.reverse ++ rest) (hW : 2 * g.monitorRoom + (rest.map fun v => v.category).sum ≤ 8) (hdg : decode cc g.pc = .ok (.invokestatic index, 3)) (hf : k + mc ≤ R.cells ∧ n + ms ≤ R.slots) :
    ga_XR xn D cl tA base b ad n0 x w1 p l e R s m args below meth c H locs k n mc ms g rest := by
  obtain ⟨⟨hrc, hrs, hfr, hlo, hws, hcw, hcode, hini, hy, hlen, hl⟩, hstt⟩ := cw
  obtain ⟨hx, hb, hml, ho, -⟩ := S
  obtain ⟨hblind, hPc⟩ := hp
  intro T hT X
  obtain ⟨mk, hnamed⟩ := Cond.code_named hcode
  obtain ⟨methM, cM, hmethM, -, -, -, -, -, -, hsigM⟩ := Cond.code_spec hnamed hcode
  have hstatic : methM.isStatic = true := Cond.static_spec hnamed hmethM hstt
  obtain ⟨kP, hkP, -⟩ := className_of_methodNamed hnamed
  have hinitP : kP.init = .initialized := Cond.initialized_spec (findClass_of_methodNamed hnamed) hkP hini
  obtain ⟨vm₁, X₁, hstep₁⟩ := X.invokestatic hx ho hl hnamed hmethM hstatic hkP hinitP hy (g := g) hg (argsL := As) (rest := rest) (hn.trans (hlen _ hsigM)) hstack (by rw [hb]; exact hdg)
  obtain ⟨q, ce, T', L, ad', X', hL, hce, hcv, hcl, hX, hH, hz, hk, st⟩ := ga_backT hM X₁ (g := { g with stack := rest }) (ig := .invokestatic index) (len := 3) hg (hsize.trans hml.symm) (by rw [hb]; exact hdg) hW (X₁.named hnamed) (a := As.toArray) (atoms_intro fun w hw => hws w hw _ _ X₁.warmed) (hws _ hcw _ _ X₁.warmed)
    (word_at X₁.warmed (Or.inl (by first | rfl | simp [Cond.onTables, Cond.keeps, Cond.steady])) hini) hfr hlo hf.1 hf.2 (hblind _ _ _ _ (hPc (T.setVm vm₁) hT X₁.warmed))
  refine ⟨q, ce, T', L, ad', X', hL, hce, hcv, ?_, hX, hH, by rw [← hT]; exact hz, fun z h1 h2 => by rw [← hT]; exact hk z (by rw [← hT] at h1; exact h1) h2, hstep₁ _ fun acts => by rw [doInvoke_state]; exact st⟩
  have z1 : vm₁.findClass (xn x) = some ce.cls := hcl
  have z2 : s.WarmedH vm₁ := X₁.warmed
  rw [z2.alike.findClass] at z1
  exact z1
/-- a static method with handlers, that returns -/
theorem ga_runSW {y : MethodName} {ws : List Cond} {maxL mc ms nA index : Nat} {rm : Room} {bytes : ByteArray} {hh : List (Nat × Nat × Nat × Nat)} {ret1 : Option FieldType} {Pc : Array Value → State → Prop} {Qc : Array Value → State → Outcome → State → Prop} {free : Addr → Prop} {H : Heap} {locs : List Loc} {k n : Nat} {As rest : List Value} {g : JFrame} (S : CallFix p m c cc nL s args Ts own) (hM : Met l y ws rm Pc Qc mc ms free)
    (hrc : rm.cells = mc) (hrs : rm.slots = ms) (hfr : rm.frames + 1 ≤ R.frames) (hlo : 8 + (maxL + 11) + rm.locals ≤ R.locals) (hws : ∀ w ∈ ws, ∀ (a' : Array Value) (U : State), s.WarmedH U.vm → w.before a' U = true) (hcw : Cond.codeWith y bytes maxL ret1 hh ∈ ws) (hini : (Cond.initialized y.cls).before args s = true) (hstt : (Cond.static y).before args s = true) (hl : (Cond.methodLink own index y).before args s = true) (hy : y.cls ≠ "java/lang/invoke/MethodHandle" ∧ y.cls ≠ "java/lang/invoke/VarHandle") (hlen : ∀ sig, parseMethodDescriptor y.desc = some sig → nA = sig.parameters.length)
    (hp : PreS s H Pc As) (hg : g.method = m) (hn : As.length = nA) (hsize : g.locals.size = nL) (hstack : g.stack = As.reverse ++ rest) (hW : 2 * g.monitorRoom + (rest.map fun v => v.category).sum ≤ 8) (hdg : decode cc g.pc = .ok (.invokestatic index, 3)) (hf : k + mc ≤ R.cells ∧ n + ms ≤ R.slots) :
    va_Run p l e R s m args below meth c H locs k n mc ms g rest (Qc As.toArray) free := by
  have hK : Back l R p e below s args y 3 8 (PreOf R mc ms Pc) (PostOf Qc mc ms free) := va_backW (hh := hh) (bytes := bytes) (maxL := maxL) (ret := ret1) hM hp.1 hrc hrs hfr hlo hws hcw (fun a' U hW => word_at hW (Or.inl (by first | rfl | simp [Cond.onTables, Cond.keeps, Cond.steady])) hini)
  obtain ⟨hx, hb, hml, ho, -⟩ := S
  intro T hT X
  obtain ⟨mk, methM, cM, hnamed, hmethM, -, -, -, -, -, -, hsigM⟩ := Cond.codeWith_spec (hws _ hcw args s (State.WarmedH.refl s))
  have hstatic : methM.isStatic = true := Cond.static_spec hnamed hmethM hstt
  obtain ⟨kP, hkP, -⟩ := className_of_methodNamed hnamed
  have hinitP : kP.init = .initialized := Cond.initialized_spec (findClass_of_methodNamed hnamed) hkP hini
  obtain ⟨vm₁, X₁, hstep₁⟩ := X.invokestatic hx ho hl hnamed hmethM hstatic hkP hinitP hy (g := g) hg (argsL := As) (rest := rest) (hn.trans (hlen _ hsigM)) hstack (by rw [hb]; exact hdg)
  obtain ⟨v, ⟨U', l2, c2, s2⟩, X', ⟨g', mk', t, L, e1, e2, hq, h1, hL, h2, h3⟩, st⟩ := hK m meth c ⟨T.setVm vm₁, locs, k, n⟩ { g with stack := rest } (.invokestatic index) mk As.toArray X₁ hg (hsize.trans hml.symm) (by rw [hb]; exact hdg) hW (X₁.named hnamed) ⟨hf.1, hf.2, hp.2 (T.setVm vm₁) hT X₁.warmed⟩
  dsimp only [Pt.U, Pt.locs, Pt.cells, Pt.slots] at X' e1 e2 h1 h2 h3 st
  subst h1; subst h2; subst h3
  exact ⟨v, (T.setVm vm₁).calling g' mk' As.toArray, t, U', L, hT, X', hL, e1, e2, hq, fun target h => hstep₁ _ fun acts => by rw [doInvoke_state]; exact st.trans h⟩
end GE
end
section
/-! KINDS OF CALLS, ENDS -/
section GF
variable {l : Launch} {S0 : State} {D : va_G} {cl : List vw_C} {tA : List (ClassId × FieldType)} {base b : Nat} {xn : Nat → String} {p : Program} {e : Env} {R : Room} {s : State} {m : MethodId} {args : Array Value} {below : List Frame} {meth : Method} {c : Code} {nL : Nat} {Ts : List Cond} {own : String} {cc : ByteArray} {ret : Option FieldType} {tb : List ExceptionTableEntry} {mn : String} {fr lo : Nat} {fl : Bool} {ad0 : Nat → Nat} {w0 : ga_W} {Q : ga_R → ga_W → State → Prop}
variable {pc : Nat} {lv : List (Nat × Value)} {st : List Value} {w : ga_W} {o : ga_O}
theorem ga_rev (b : Nat) (ad : Nat → Nat) (av st : List Value) (v : Value) : (av.reverse ++ v :: st).map (ga_v b ad) = (av.map (ga_v b ad)).reverse ++ ga_v b ad v :: st.map (ga_v b ad) := by
  simp
theorem ga_rev2 (b : Nat) (ad : Nat → Nat) (av st : List Value) : (av.reverse ++ st).map (ga_v b ad) = (av.map (ga_v b ad)).reverse ++ st.map (ga_v b ad) := by
  simp
/-- invokevirtual; the receiver is the cell a, of the class number ci -/
theorem ga_invV {y : MethodName} {ws ws' : List Cond} {bytes : ByteArray} {maxL fr1 lo1 a ci index N nA : Nat} {ret1 : Option FieldType} {fl1 : Bool} {av : List Value} {C : String} {T : u_T} {o1 : ga_O} {f : Option Value → ga_W → ga_O} {g : Nat → ga_W → ga_O} (hM : ga_M l S0 D cl tA base b xn y ws fr1 lo1 fl1 (.ref a :: av) w o1) (hf : fl1 = true ∨ (fl = false ∧ lv.all (fun q => ga_ok w.1.length q.2) = true ∧ st.all (ga_ok w.1.length) = true))
    (hG : GoodIn Ts (wsV own index C y ws)) (hw : ws = Cond.code y bytes maxL ret1 :: ws') (hd : y.cls = C ∧ y.cls ≠ "java/lang/invoke/MethodHandle" ∧ y.cls ≠ "java/lang/invoke/VarHandle" ∧ (parseMethodDescriptor y.desc).map (fun d => d.parameters.length) = some nA) (hn : av.length = nA) (hfr : fr1 + 1 ≤ fr) (hlo : 8 + (maxL + 11) + lo1 ≤ lo) (hws : (st.map fun v => v.category).sum ≤ 8) (hc : cl[ci]? = some (C, T, N)) (d : decode cc pc = .ok (.invokevirtual index, 3))
    (kv : ∀ v w1, ga_J l S0 D cl tA base b xn p e R s m args below meth c nL Ts own cc ret tb mn fr lo fl ad0 w0 Q (pc + 3) lv (v.toList ++ st) w1 (f v w1)) (kx : ∀ x w1, ga_JX l S0 D cl tA base b xn p e R s m args below meth c nL Ts own cc ret tb mn fr lo fl ad0 w0 Q pc lv x w1 (g x w1)) : ga_J l S0 D cl tA base b xn p e R s m args below meth c nL Ts own cc ret tb mn fr lo fl ad0 w0 Q pc lv (av.reverse ++ .ref a :: st) w (if ga_is w ci a = true then ga_c o1 f g else none) := by
  by_cases his : ga_is w ci a = true
  · rw [if_pos his]
    obtain ⟨fs, hwa⟩ := ga_is_spec his
    refine ga_run hM hf (fun v w1 ho1 B ad H locs k n ls hH hS hl hk hn2 => ?_) (fun x w1 ho1 B ad H locs k n ls hH hS hl hk hn2 => ?_) kv kx
    · have B0 := B
      obtain ⟨hx, hb, hml, hr, hown, hts, hlk, hbs, hK, hZ, htb, hmn, hfr9, hlo9, hst, h00⟩ := B
      refine ⟨(Value.ref (ad a) :: av.map (ga_v b ad)).toArray, ?_⟩
      rw [ga_rev]
      exact va_runV (g := F0 m pc ls _) (As := av.map (ga_v b ad)) (rest := st.map (ga_v b ad)) ⟨hx, hb, hml, hown, hts⟩ ((hM _ _ ho1).2 ad) (cwV nA hts hG hw rfl rfl hd ⟨by show fr1 + 1 ≤ R.frames; omega, by show 8 + (maxL + 11) + lo1 ≤ R.locals; omega⟩)
        ⟨ga_blind, va_recv hK hH.1 hc (ga_w_get hwa), fun U hU hW => ⟨rfl, ga_pre B0 hH hS U hU hW⟩⟩ rfl (by simpa using hn) hl.1 rfl (lv_room (by rw [ga_catsum]; exact hws)) d ⟨hk, hn2⟩
    · have B0 := B
      obtain ⟨hx, hb, hml, hr, hown, hts, hlk, hbs, hK, hZ, htb, hmn, hfr9, hlo9, hst, h00⟩ := B
      rw [ga_rev]
      exact ga_xV (g := F0 m pc ls _) (As := av.map (ga_v b ad)) (rest := st.map (ga_v b ad)) ⟨hx, hb, hml, hown, hts⟩ ((hM _ _ ho1).2 ad) (cwV nA hts hG hw rfl rfl hd ⟨by show fr1 + 1 ≤ R.frames; omega, by show 8 + (maxL + 11) + lo1 ≤ R.locals; omega⟩)
        ⟨ga_blind, va_recv hK hH.1 hc (ga_w_get hwa), fun U hU hW => ⟨rfl, ga_pre B0 hH hS U hU hW⟩⟩ rfl (by simpa using hn) hl.1 rfl (lv_room (by rw [ga_catsum]; exact hws)) d ⟨hk, hn2⟩
  · rw [if_neg his]
    exact ga_no
theorem ga_invS {y : MethodName} {ws ws' : List Cond} {bytes : ByteArray} {maxL fr1 lo1 index nA : Nat} {ret1 : Option FieldType} {fl1 : Bool} {av : List Value} {o1 : ga_O} {f : Option Value → ga_W → ga_O} {g : Nat → ga_W → ga_O} (hM : ga_M l S0 D cl tA base b xn y ws fr1 lo1 fl1 av w o1) (hf : fl1 = true ∨ (fl = false ∧ lv.all (fun q => ga_ok w.1.length q.2) = true ∧ st.all (ga_ok w.1.length) = true))
    (hG : GoodIn Ts (va_wsS own index y ws)) (hw : ws = Cond.code y bytes maxL ret1 :: ws') (hd : y.cls ≠ "java/lang/invoke/MethodHandle" ∧ y.cls ≠ "java/lang/invoke/VarHandle" ∧ (parseMethodDescriptor y.desc).map (fun d => d.parameters.length) = some nA) (hn : av.length = nA) (hfr : fr1 + 1 ≤ fr) (hlo : 8 + (maxL + 11) + lo1 ≤ lo) (hws : (st.map fun v => v.category).sum ≤ 8) (d : decode cc pc = .ok (.invokestatic index, 3))
    (kv : ∀ v w1, ga_J l S0 D cl tA base b xn p e R s m args below meth c nL Ts own cc ret tb mn fr lo fl ad0 w0 Q (pc + 3) lv (v.toList ++ st) w1 (f v w1)) (kx : ∀ x w1, ga_JX l S0 D cl tA base b xn p e R s m args below meth c nL Ts own cc ret tb mn fr lo fl ad0 w0 Q pc lv x w1 (g x w1)) : ga_J l S0 D cl tA base b xn p e R s m args below meth c nL Ts own cc ret tb mn fr lo fl ad0 w0 Q pc lv (av.reverse ++ st) w (ga_c o1 f g) := by
  refine ga_run hM hf (fun v w1 ho1 B ad H locs k n ls hH hS hl hk hn2 => ?_) (fun x w1 ho1 B ad H locs k n ls hH hS hl hk hn2 => ?_) kv kx
  · have B0 := B
    obtain ⟨hx, hb, hml, hr, hown, hts, hlk, hbs, hK, hZ, htb, hmn, hfr9, hlo9, hst, h00⟩ := B
    have ok : ∀ x ∈ va_wsS own index y ws, x.before args s = true := fun x h => hts x (hG x h).1
    refine ⟨(av.map (ga_v b ad)).toArray, ?_⟩
    rw [ga_rev2]
    exact va_runS (g := F0 m pc ls _) (As := av.map (ga_v b ad)) (rest := st.map (ga_v b ad)) ⟨hx, hb, hml, hown, hts⟩ ((hM _ _ ho1).2 ad)
      ⟨callB_of nA hts (fun x h => hG x (by unfold va_wsS; exact List.mem_append_right _ h)) hw rfl rfl (ok _ (by simp [va_wsS])) (ok _ (by simp [va_wsS])) hd ⟨by show fr1 + 1 ≤ R.frames; omega, by show 8 + (maxL + 11) + lo1 ≤ R.locals; omega⟩, ok _ (by simp [va_wsS])⟩
      ⟨ga_blind, fun U hU hW => ⟨rfl, ga_pre B0 hH hS U hU hW⟩⟩ rfl (by simpa using hn) hl.1 rfl (lv_room (by rw [ga_catsum]; exact hws)) d ⟨hk, hn2⟩
  · have B0 := B
    obtain ⟨hx, hb, hml, hr, hown, hts, hlk, hbs, hK, hZ, htb, hmn, hfr9, hlo9, hst, h00⟩ := B
    have ok : ∀ x ∈ va_wsS own index y ws, x.before args s = true := fun x h => hts x (hG x h).1
    rw [ga_rev2]
    exact ga_xS (g := F0 m pc ls _) (As := av.map (ga_v b ad)) (rest := st.map (ga_v b ad)) ⟨hx, hb, hml, hown, hts⟩ ((hM _ _ ho1).2 ad)
      ⟨callB_of nA hts (fun x h => hG x (by unfold va_wsS; exact List.mem_append_right _ h)) hw rfl rfl (ok _ (by simp [va_wsS])) (ok _ (by simp [va_wsS])) hd ⟨by show fr1 + 1 ≤ R.frames; omega, by show 8 + (maxL + 11) + lo1 ≤ R.locals; omega⟩, ok _ (by simp [va_wsS])⟩
      ⟨ga_blind, fun U hU hW => ⟨rfl, ga_pre B0 hH hS U hU hW⟩⟩ rfl (by simpa using hn) hl.1 rfl (lv_room (by rw [ga_catsum]; exact hws)) d ⟨hk, hn2⟩
/-- a static method with handlers of its own, that returns -/
theorem ga_invSW {y : MethodName} {ws ws' : List Cond} {bytes : ByteArray} {hh : List (Nat × Nat × Nat × Nat)} {maxL fr1 lo1 index nA : Nat} {ret1 : Option FieldType} {fl1 : Bool} {av : List Value} {o1 : ga_O} {f : Option Value → ga_W → ga_O} (hM : ga_M l S0 D cl tA base b xn y ws fr1 lo1 fl1 av w o1) (hf : fl1 = true ∨ (fl = false ∧ lv.all (fun q => ga_ok w.1.length q.2) = true ∧ st.all (ga_ok w.1.length) = true))
    (hG : GoodIn Ts (va_wsS own index y ws)) (hw : ws = Cond.codeWith y bytes maxL ret1 hh :: ws') (hd : y.cls ≠ "java/lang/invoke/MethodHandle" ∧ y.cls ≠ "java/lang/invoke/VarHandle" ∧ (parseMethodDescriptor y.desc).map (fun d => d.parameters.length) = some nA) (hn : av.length = nA) (hfr : fr1 + 1 ≤ fr) (hlo : 8 + (maxL + 11) + lo1 ≤ lo) (hws : (st.map fun v => v.category).sum ≤ 8) (d : decode cc pc = .ok (.invokestatic index, 3))
    (kv : ∀ v w1, ga_J l S0 D cl tA base b xn p e R s m args below meth c nL Ts own cc ret tb mn fr lo fl ad0 w0 Q (pc + 3) lv (v.toList ++ st) w1 (f v w1)) : ga_J l S0 D cl tA base b xn p e R s m args below meth c nL Ts own cc ret tb mn fr lo fl ad0 w0 Q pc lv (av.reverse ++ st) w (ga_c o1 f (fun _ _ => none)) := by
  cases ho1 : o1 with
  | none => exact ga_no
  | some q1 =>
    obtain ⟨r1, w1⟩ := q1
    cases r1 with
    | inr x => exact ga_no
    | inl v =>
      rw [← ho1]
      refine ga_run hM hf (g := fun _ _ => none) (fun v2 w2 ho2 B ad H locs k n ls hH hS hl hk hn2 => ?_) (fun x w2 ho2 => absurd (ho1.symm.trans ho2) (fun h => by cases h)) kv (fun x w1 r w' h => nomatch h)
      have B0 := B
      obtain ⟨hx, hb, hml, hr, hown, hts, hlk, hbs, hK, hZ, htb, hmn, hfr9, hlo9, hst, h00⟩ := B
      have ok : ∀ x ∈ va_wsS own index y ws, x.before args s = true := fun x h => hts x (hG x h).1
      have hG2 : GoodIn Ts ws := fun x h => hG x (by unfold va_wsS; exact List.mem_append_right _ h)
      refine ⟨(av.map (ga_v b ad)).toArray, ?_⟩
      rw [ga_rev2]
      exact ga_runSW (hh := hh) (bytes := bytes) (maxL := maxL) (ret1 := ret1) (nA := nA) (g := F0 m pc ls _) (As := av.map (ga_v b ad)) (rest := st.map (ga_v b ad)) ⟨hx, hb, hml, hown, hts⟩ ((hM _ _ ho2).2 ad) rfl rfl (by show fr1 + 1 ≤ R.frames; omega) (by show 8 + (maxL + 11) + lo1 ≤ R.locals; omega) (pay_in hts hG2) (by rw [hw]; exact List.mem_cons_self) (ok _ (by simp [va_wsS])) (ok _ (by simp [va_wsS])) (ok _ (by simp [va_wsS])) ⟨hd.1, hd.2.1⟩
        (fun sig h => by have h2 := hd.2.2; rw [h] at h2; exact (Option.some.inj h2).symm)
        ⟨ga_blind, fun U hU hW => ⟨rfl, ga_pre B0 hH hS U hU hW⟩⟩ rfl (by simpa using hn) hl.1 rfl (lv_room (by rw [ga_catsum]; exact hws)) d ⟨hk, hn2⟩
/-- a constructor: it returns; nest: by a nest mate's link -/
theorem ga_invI {y : MethodName} {ws ws' : List Cond} {bytes : ByteArray} {maxL fr1 lo1 a index nA : Nat} {fl1 : Bool} {av : List Value} {o1 : ga_O} {f : ga_W → ga_O} (hM : ga_M l S0 D cl tA base b xn y ws fr1 lo1 fl1 (.ref a :: av) w o1) (hf : fl1 = true ∨ (fl = false ∧ lv.all (fun q => ga_ok w.1.length q.2) = true ∧ st.all (ga_ok w.1.length) = true))
    (hG : GoodIn Ts ws) (hw : ws = Cond.code y bytes maxL none :: ws') (h1 : Cond.initialized y.cls ∈ Ts) (h2 : Cond.methodLink own index y ∈ Ts ∨ ∃ host, Cond.methodLinkNest own index y host ∈ lw_tbl) (h3 : Cond.instanceMethod y ∈ Ts) (hy : y.name = "<init>") (hd : y.cls ≠ "java/lang/invoke/MethodHandle" ∧ y.cls ≠ "java/lang/invoke/VarHandle" ∧ (parseMethodDescriptor y.desc).map (fun d => d.parameters.length) = some nA) (hn : av.length = nA) (hfr : fr1 + 1 ≤ fr) (hlo : 8 + (maxL + 11) + lo1 ≤ lo) (hws : (st.map fun v => v.category).sum ≤ 8) (d : decode cc pc = .ok (.invokespecial index, 3))
    (kv : ∀ w1, ga_J l S0 D cl tA base b xn p e R s m args below meth c nL Ts own cc ret tb mn fr lo fl ad0 w0 Q (pc + 3) lv st w1 (f w1)) : ga_J l S0 D cl tA base b xn p e R s m args below meth c nL Ts own cc ret tb mn fr lo fl ad0 w0 Q pc lv (av.reverse ++ .ref a :: st) w (ga_c o1 (ga_kV f) (fun _ _ => none)) := by
  cases ho1 : o1 with
  | none => exact ga_no
  | some q1 =>
    obtain ⟨r1, w1⟩ := q1
    cases r1 with
    | inr x => exact ga_no
    | inl v =>
      rw [← ho1]
      refine ga_run hM hf (f := ga_kV f) (g := fun _ _ => none) (fun v2 w2 ho2 B ad H locs k n ls hH hS hl hk hn2 => ?_) (fun x w2 ho2 => absurd (ho1.symm.trans ho2) (fun h => by cases h)) (fun v w1 => ?_) (fun x w1 r w' h => nomatch h)
      · have B0 := B
        obtain ⟨hx, hb, hml, hr, hown, hts, hlk, hbs, hK, hZ, htb, hmn, hfr9, hlo9, hst, h00⟩ := B
        refine ⟨(Value.ref (ad a) :: av.map (ga_v b ad)).toArray, ?_⟩
        rw [ga_rev]
        rcases h2 with h2 | ⟨host, h2⟩
        · exact va_runI (g := F0 m pc ls _) (As := av.map (ga_v b ad)) (rest := st.map (ga_v b ad)) ⟨hx, hb, hml, hown, hts⟩ ((hM _ _ ho2).2 ad) (cwI nA hts hG hw rfl rfl (hts _ h1) (hts _ h2) (hts _ h3) hy hd ⟨by show fr1 + 1 ≤ R.frames; omega, by show 8 + (maxL + 11) + lo1 ≤ R.locals; omega⟩)
            ⟨ga_blind, fun U hU hW => ⟨rfl, ga_pre B0 hH hS U hU hW⟩⟩ rfl (by simpa using hn) hl.1 rfl (lv_room (by rw [ga_catsum]; exact hws)) d ⟨hk, hn2⟩
        · exact va_runIN (g := F0 m pc ls _) (As := av.map (ga_v b ad)) (rest := st.map (ga_v b ad)) ⟨hx, hb, hml, hown, hts⟩ ((hM _ _ ho2).2 ad) ⟨va_cnB nA hts hG hw rfl rfl (va_Nw.warmM hZ.2.1 (va_Nw.of rfl (h00.1 _ h2))) (hts _ h1) hd ⟨by show fr1 + 1 ≤ R.frames; omega, by show 8 + (maxL + 11) + lo1 ≤ R.locals; omega⟩, hy, hts _ h3⟩
            ⟨ga_blind, fun U hU hW => ⟨rfl, ga_pre B0 hH hS U hU hW⟩⟩ rfl (by simpa using hn) hl.1 rfl (lv_room (by rw [ga_catsum]; exact hws)) d ⟨hk, hn2⟩
      · cases v with
        | none => exact kv w1
        | some v => exact ga_no
/-! ends -/
theorem ga_iret {x : Int32} (hr : ret = some .int) (d : decode cc pc = .ok (.ireturn, 1)) : ga_J l S0 D cl tA base b xn p e R s m args below meth c nL Ts own cc ret tb mn fr lo fl ad0 w0 (ga_MQ xn D cl tA base b s args below ad0 w0) pc lv [.int x] w (some (.inl (some (.int x)), w)) := by
  intro r w' ho
  cases ho
  refine ⟨ga_N.rf, fun B a1 a2 a3 a4 ad H locs ls x1 x2 x3 x4 => ?_⟩
  obtain ⟨hx, hb, hml, hrt, hown, hts, hlk, hbs, hK, hZ, htb, hmn, hfr, hlo, hst, h00⟩ := B
  exact W.iret (v := x) hx hb (hrt.trans hr) (fun t ht hW => ⟨⟨ad, x1, rfl, by rw [ht]; exact x2⟩, x3.F ht⟩) x3.2.2 d hlk
theorem ga_zret {x : Int32} (hr : ret = some .boolean) (hn : narrow .boolean (.int x) = .int x) (d : decode cc pc = .ok (.ireturn, 1)) : ga_J l S0 D cl tA base b xn p e R s m args below meth c nL Ts own cc ret tb mn fr lo fl ad0 w0 (ga_MQ xn D cl tA base b s args below ad0 w0) pc lv [.int x] w (some (.inl (some (.int x)), w)) := by
  intro r w' ho
  cases ho
  refine ⟨ga_N.rf, fun B a1 a2 a3 a4 ad H locs ls x1 x2 x3 x4 => ?_⟩
  obtain ⟨hx, hb, hml, hrt, hown, hts, hlk, hbs, hK, hZ, htb, hmn, hfr, hlo, hst, h00⟩ := B
  exact W.zret (v := x) hx hb (hrt.trans hr) hn (fun t ht hW => ⟨⟨ad, x1, rfl, by rw [ht]; exact x2⟩, x3.F ht⟩) x3.2.2 d hlk
theorem ga_dret {x : UInt64} (hr : ret = some .double) (d : decode cc pc = .ok (.dreturn, 1)) : ga_J l S0 D cl tA base b xn p e R s m args below meth c nL Ts own cc ret tb mn fr lo fl ad0 w0 (ga_MQ xn D cl tA base b s args below ad0 w0) pc lv [.double x] w (some (.inl (some (.double x)), w)) := by
  intro r w' ho
  cases ho
  refine ⟨ga_N.rf, fun B a1 a2 a3 a4 ad H locs ls x1 x2 x3 x4 => ?_⟩
  obtain ⟨hx, hb, hml, hrt, hown, hts, hlk, hbs, hK, hZ, htb, hmn, hfr, hlo, hst, h00⟩ := B
  exact W.dret (v := x) hx hb (hrt.trans hr) (fun t ht hW => ⟨⟨ad, x1, rfl, by rw [ht]; exact x2⟩, x3.F ht⟩) x3.2.2 d hlk
theorem ga_vret (hr : ret = none) (d : decode cc pc = .ok (.return_, 1)) : ga_J l S0 D cl tA base b xn p e R s m args below meth c nL Ts own cc ret tb mn fr lo fl ad0 w0 (ga_MQ xn D cl tA base b s args below ad0 w0) pc lv [] w (some (.inl none, w)) := by
  intro r w' ho
  cases ho
  refine ⟨ga_N.rf, fun B a1 a2 a3 a4 ad H locs ls x1 x2 x3 x4 => ?_⟩
  obtain ⟨hx, hb, hml, hrt, hown, hts, hlk, hbs, hK, hZ, htb, hmn, hfr, hlo, hst, h00⟩ := B
  exact W.vret hx hb (hrt.trans hr) (fun t ht hW => ⟨⟨ad, x1, rfl, by rw [ht]; exact x2⟩, x3.F ht⟩) x3.2.2 d hlk
/-- an exception that the method lets go -/
theorem ga_thru {x : Nat} (ht : tb = []) : ga_JX l S0 D cl tA base b xn p e R s m args below meth c nL Ts own cc ret tb mn fr lo fl ad0 w0 (ga_MQ xn D cl tA base b s args below ad0 w0) pc lv x w (ga_up x w) := by
  intro r w' ho
  cases ho
  refine ⟨ga_N.rf, fun B a1 a2 a3 a4 ad H locs ls rest ce q x1 x2 x3 x4 hce hcv hcl => ?_⟩
  obtain ⟨hx, hb, hml, hr, hown, hts, hlk, hbs, hK, hZ, htb, hmn, hfr, hlo, hst, h00⟩ := B
  intro T hT X
  obtain ⟨st1, hrun, hend, hW, hsm⟩ := X.leaveThrown q (g := F0 m pc ls rest) rfl rfl rfl (fun z hz => by rw [htb, ht] at hz; cases hz) hlk
  refine ⟨_, st1, .threw q, hrun, hend, q, ce, locs, ad, rfl, ?_, hcv, hcl, hW, hsm, x3.2.2, x1, ?_, ?_⟩
  · show T.heap[q]? = some ce
    rw [hT]; exact hce
  · show ga_H D cl tA base b ad w.1 T.heap
    rw [hT]; exact x2
  · exact x3.F (t := T.setFrames (.throwing q :: below)) hT
/-- a method from its body -/
theorem ga_enter {y : MethodName} {ws ws' : List Cond} {maxL : Nat} {av : List Value} (hst : l.stackTraces = false) (hy : plainName y.cls = true) (hw : ws = Cond.code y cc maxL ret :: ws') (hsl : (lg_sl av).length ≤ maxL)
    (body : ∀ (p : Program) (e : Env) (R : Room) (s : State) (m : MethodId) (args : Array Value) (below : List Frame) (meth : Method) (c : Code) (ad0 : Nat → Nat), ga_J l S0 D cl tA base b xn p e R s m args below meth c maxL ws y.cls cc ret [] y.name fr lo fl ad0 w (ga_MQ xn D cl tA base b s args below ad0 w) 0 (lv_args 0 av) [] w o) : ga_M l S0 D cl tA base b xn y ws fr lo fl av w o := by
  intro r w' ho
  refine ⟨fun p e R s m args below meth c => (body p e R s m args below meth c (fun k => k) r w' ho).1, fun ad => ?_⟩
  have key : ∀ (p : Program) (e : Env) (s : State) (m : MethodId) (args : Array Value) (below : List Frame) (meth : Method) (c : Code) (s₁ : State), BodyLoose p l y (headSpec ws { frames := fr, cells := w'.2.1 - w.2.1, slots := w'.2.2 - w.2.2, locals := lo }) cc maxL ret e s m args below meth c s₁ → c.maxLocals = maxL → (va_Pc (av.map (ga_v b ad)) (fun U => ga_P S0 D cl tA base b ad w U)) args s →
      W p l e (headSpec ws { frames := fr, cells := w'.2.1 - w.2.1, slots := w'.2.2 - w.2.2, locals := lo }).room s m args below meth c s.heap [] 0 0 (ga_MQ xn D cl tA base b s args below ad w r w') (entryFrame m args maxL) := by
    intro p e s m args below meth c s₁ B hml hv
    obtain ⟨rfl, hbs, hK, hZ, h00, hH⟩ := hv
    obtain ⟨-, h4⟩ := body p e (headSpec ws { frames := fr, cells := w'.2.1 - w.2.1, slots := w'.2.2 - w.2.2, locals := lo }).room s m _ below meth c ad r w' ho
    have hname : meth.name = y.name := (name_of_methodNamed B.named B.method).1
    have htab : c.exceptionTable.toList = [] := by
      obtain ⟨meth9, c9, g1, g2, -, -, -, -, g7, -⟩ := Cond.code_spec B.named (atoms_spec (ws := ws) B.pre _ (by rw [hw]; exact List.mem_cons_self))
      cases Option.some.inj (g1.symm.trans B.method)
      cases Option.some.inj (g2.symm.trans (Stand.of_body B).code)
      rw [Array.isEmpty_iff.mp g7]
    have hB : ga_B l S0 D cl tA base b p (headSpec ws { frames := fr, cells := w'.2.1 - w.2.1, slots := w'.2.2 - w.2.2, locals := lo }).room s m ((av.map (ga_v b ad)).toArray) meth c maxL ws y.cls cc ret [] y.name fr lo :=
      ⟨B.exec, B.bytes, hml, B.returns, findClass_of_methodNamed B.named, atoms_spec (ws := ws) B.pre, B.notSynchronized, hbs, hK, hZ, htab, hname, Nat.le_refl _, Nat.le_refl _, hst, h00⟩
    have hl := lv_entry (av.map (ga_v b ad)) (n := maxL) (by rw [ga_sl_len]; exact hsl)
    rw [ga_l_args] at hl
    have hh := h4 hB (Nat.le_refl _) (Nat.le_refl _) (by show w'.2.1 ≤ w.2.1 + (w'.2.1 - w.2.1); omega) (by show w'.2.2 ≤ w.2.2 + (w'.2.2 - w.2.2); omega) ad s.heap [] _ ga_X.rf hH va_S.rf hl
    rw [Nat.sub_self, Nat.sub_self] at hh
    rw [lg_entry_eq]
    exact hh
  cases r with
  | inl v => exact Met.ofW (cc := cc) (maxL := maxL) (ret := ret) hy hw key
  | inr x =>
    refine MetFree.of_bodyS (code := cc) (maxLocals := maxL) (ret := ret) hy ?_ ?_
    · intro args s m h hn
      obtain ⟨meth, c, h1, h2, h3, h4, h5, h6, -, -⟩ := Cond.code_spec hn (atoms_spec (ws := ws) h _ (by rw [hw]; exact List.mem_cons_self))
      exact ⟨meth, c, h1, h2, h3, h4, h5, h6⟩
    · intro p e s m args below meth c s₁ B hml hP _
      have hh0 : s₁.heap = s.heap := by rw [B.state]; rfl
      obtain ⟨t, a1, oc, b1, b2, b3⟩ := key p e s m args below meth c s₁ B hml hP s₁ hh0 (Stand.of_body B)
      exact ⟨t, oc, a1, b1, b2, b3⟩
end GF
end
section
/-! THROW, CATCH, A METHOD WITH HANDLERS -/
/-- a word that the law's start has holds later too -/
def ga_tw (z : Cond) : Bool := goodWord z || (match z with
  | .declares _ => true
  | .castable _ _ => true
  | _ => false)
theorem ga_word {S0 U : State} {b : Nat} {args : Array Value} {z : Cond} (h0 : ga_0 S0 b) (hW : S0.WarmedH U.vm) (hz : z ∈ lw_tbl) (hg : ga_tw z = true) : z.before args U = true := by
  have h := h0.1 z hz
  by_cases hgw : goodWord z = true
  · exact word_at hW (good_of_word hgw) h
  · simp only [ga_tw, hgw, Bool.false_or] at hg
    split at hg
    · exact va_Nw.use rfl (va_Nw.warmD hW (va_Nw.of rfl h))
    · exact va_Nw.use rfl (va_Nw.warmC hW (va_Nw.of rfl h))
    · cases hg
/-- a static field lies where it lay, and holds a reference or null -/
theorem ga_static {S0 U : State} {b : Nat} {args : Array Value} {C n d : String} (hl : (Cond.laysStatic C n d).before #[Value.ref b] S0 = true) (hi : (Cond.initialized C).before #[Value.ref b] S0 = true) (hr : (Cond.isRef (.static C n d)).before #[Value.ref b] S0 = true) (hW : S0.WarmedH U.vm) (hH : ∀ q : Nat, q < S0.heap.size → U.heap[q]? = S0.heap[q]?) :
    (Cond.laysStatic C n d).before args U = true ∧ (Cond.isRef (.static C n d)).before args U = true := by
  constructor
  · obtain ⟨c, k, i, f, a, cell, h1, h2, h3, h4, h5, h6, h7, h8, h9⟩ := Cond.laysStatic_spec hl
    obtain ⟨k', hi', he⟩ := State.fieldFound?_setVm (s := S0) hW.alike h2
    have ha : a < S0.heap.size := (Array.getElem?_eq_some_iff.mp h5).1
    show (Cond.laysStatic C n d).holds args U none U [] = true
    exact Cond.laysStatic_of (by rw [hW.alike.findClass]; exact h1) hi' h3 (by rw [he]; exact h4) (by rw [hH a ha]; exact h5) h6 h7 h8 (by rw [he]; exact h9)
  · have hz : va_Zq C n d (fun q => S0.heap.size ≤ q) S0 S0.heap := va_Zqof hl hi hr (fun a ha => by omega)
    have hz2 : va_Zq C n d (fun q => S0.heap.size ≤ q) U U.heap := va_Zq.moved hW.alike (hz.kept (fun a ha _ => hH a ha))
    have key : ∀ v : Value, v.isRef = true → va_Z C n d v (fun q => S0.heap.size ≤ q) U U.heap → (Cond.isRef (.static C n d)).before args U = true := by
      intro v hv hzz
      obtain ⟨cf, kf, fi, f, a, cell, h1, h2, h3, h4, h5, h6, h7, -⟩ := hzz
      have he : (Term.static C n d).eval args U none [] U = some v := by
        simp [Term.eval, State.fieldNamed?, h1, h2, h4, h5, h6, h7]
      simp only [Cond.before, Cond.holds, Cond.value, he]
      cases v <;> simp_all [Value.isRef]
    rcases hz2 with hz2 | ⟨t, hz2⟩
    · exact key _ rfl hz2
    · exact key _ rfl hz2
def ga_hw (z : Cond) : Bool := decide (z = .isRef (.static Bundle.tN "UNASSIGNED_STACK" Bundle.steD)) || decide (z = .isRef (.static Bundle.tN "SUPPRESSED_SENTINEL" Bundle.listD)) || decide (z = .laysStatic Bundle.tN "UNASSIGNED_STACK" Bundle.steD) || decide (z = .laysStatic Bundle.tN "SUPPRESSED_SENTINEL" Bundle.listD)
section GG
variable {l : Launch} {S0 : State} {D : va_G} {cl : List vw_C} {tA : List (ClassId × FieldType)} {base b : Nat} {xn : Nat → String} {p : Program} {e : Env} {R : Room} {s : State} {m : MethodId} {args : Array Value} {below : List Frame} {meth : Method} {c : Code} {nL : Nat} {Ts : List Cond} {own : String} {cc : ByteArray} {ret : Option FieldType} {tb : List ExceptionTableEntry} {mn : String} {fr lo : Nat} {fl : Bool} {ad0 : Nat → Nat} {w0 : ga_W} {Q : ga_R → ga_W → State → Prop}
variable {pc : Nat} {lv : List (Nat × Value)} {st : List Value} {w : ga_W} {o : ga_O}
/-- the words of a throw, in a later state of the same tables -/
theorem ga_own {U : State} {ic : Nat} {X : String} {names : List String} (h0 : ga_0 S0 b) (hW : S0.WarmedH U.vm) (hH : ∀ q : Nat, q < S0.heap.size → U.heap[q]? = S0.heap[q]?) (hat : ∀ z ∈ Bundle.ownAtoms0 own ic X names, ga_hw z = true ∨ (z ∈ lw_tbl ∧ ga_tw z = true)) : ∀ z ∈ Bundle.ownAtoms0 own ic X names, z.before args U = true := by
  have i0 : (Cond.initialized Bundle.tN).before #[Value.ref b] S0 = true := h0.1 _ (by decide +kernel)
  have f := flat_of_before _ h0.2
  have u := ga_static (args := args) (h0.1 (Cond.laysStatic Bundle.tN "UNASSIGNED_STACK" Bundle.steD) (by decide +kernel)) i0 (f (Cond.isRef (.static Bundle.tN "UNASSIGNED_STACK" Bundle.steD)) (by decide +kernel)) hW hH
  have v := ga_static (args := args) (h0.1 (Cond.laysStatic Bundle.tN "SUPPRESSED_SENTINEL" Bundle.listD) (by decide +kernel)) i0 (f (Cond.isRef (.static Bundle.tN "SUPPRESSED_SENTINEL" Bundle.listD)) (by decide +kernel)) hW hH
  intro z hz
  rcases hat z hz with h | ⟨h1, h2⟩
  · simp only [ga_hw, Bool.or_eq_true, decide_eq_true_eq] at h
    rcases h with ((h | h) | h) | h
    · rw [h]; exact u.2
    · rw [h]; exact v.2
    · rw [h]; exact u.1
    · rw [h]; exact v.1
  · exact ga_word h0 hW h1 h2
/-- the frame, as if its method were called in the state that stands now -/
theorem ga_anew {T : State} {locs : List Loc} {k n : Nat} (X : Stand p l e R s m args below meth c T locs k n) {R' : Room} (hf : R'.frames ≤ R.frames) (hl : R'.locals ≤ R.locals) (hc : k + R'.cells ≤ R.cells) (hs : n + R'.slots ≤ R.slots) : Stand p l e R' ((T.setVm s.vm).setFrames (.invoking m args :: below)) m args below meth c T [] 0 0 := by
  have top : (T.setVm s.vm).topJava?.isSome := X.here.top
  have fr9 : ((T.setVm s.vm).setFrames (.invoking m args :: below)).frames = .invoking m args :: below := State.frames_setFrames _ (State.cur_lt_of_top top)
  obtain ⟨g₀, hg0⟩ := Option.isSome_iff_exists.mp top
  obtain ⟨r, hr⟩ := State.topJava?_eq_some.mp hg0
  obtain ⟨th, hth, -⟩ := State.frames_cons hr
  have lim : e.platform.stackLimits (T.setVm s.vm).me = e.platform.stackLimits s.me := X.limits
  have byt : (T.setVm s.vm).me.stackBytes = s.me.stackBytes := X.bytes
  have used : ((T.setVm s.vm).setFrames (.invoking m args :: below)).localsInUse = s.localsInUse := by
    rw [State.localsInUse_invoking fr9 (meth := meth) (c := c) X.method X.code, State.localsInUse_invoking X.frames X.method X.code]
  have drop0 : T.heap.toList.drop T.heap.size = [] := List.drop_eq_nil_of_le (Nat.le_of_eq Array.length_toList)
  refine ⟨X.admits, X.cas, X.clock, fr9, ?_, X.hears, X.method, X.code, X.here, X.tail, X.warmed, by rw [State.stackLimits_setFrames]; rfl, by rw [State.stackBytes_setFrames]; rfl, ?_, Nat.le_refl _, Nat.le_refl _, ?_, ?_, fun a c9 h9 => ⟨c9, h9, rfl, rfl, fun _ _ => rfl⟩⟩
  · have h := X.room
    have sz := X.heapSize
    have us := X.used
    simp only [State.hasRoom, Bool.and_eq_true, decide_eq_true_eq] at h ⊢
    obtain ⟨⟨⟨⟨h1, h2, h3, h4, h5, h6⟩, h7⟩, h8⟩, h9⟩ := h
    rw [X.frames, List.length_cons] at h2 h3
    simp only [fr9, used, List.length_cons, State.stackLimits_setFrames, State.stackBytes_setFrames, lim, byt]
    refine ⟨⟨⟨⟨by omega, by omega, by omega, by omega, by omega, h6⟩, ?_⟩, ?_⟩, X.book⟩
    · show T.heap.size + R'.cells ≤ e.platform.maxCells
      omega
    · show T.slotsUsed + R'.slots ≤ e.platform.maxSlots
      omega
  · show T.setVm s.vm = { ((T.setVm s.vm).setFrames (.invoking m args :: below)).setFrames (T.setVm s.vm).frames with heap := T.heap, slotsUsed := T.slotsUsed }
    rw [State.setFrames_setFrames, State.setFrames_self hth]
    rfl
  · show T.slotsUsed = T.slotsUsed + ((T.heap.toList.drop T.heap.size).map (·.slots.size)).sum
    rw [drop0]
    rfl
  · show ((T.heap.toList.drop T.heap.size).map (·.slots.size)).sum ≤ 0
    rw [drop0]
    exact Nat.le_refl _
/-- nothing old has changed, where no place was written -/
theorem ga_old {U V : State} {k n : Nat} (h : U.sameButNew ({ V with vm := U.vm } : State) [] k n) : U.heap.size ≤ V.heap.size ∧ ∀ q : Nat, q < U.heap.size → V.heap[q]? = U.heap[q]? := by
  obtain ⟨-, h2, -, -, -, h6⟩ := h
  refine ⟨h2, fun q hq => ?_⟩
  obtain ⟨c9, e1, e2, e3, e4⟩ := h6 q _ (Array.getElem?_eq_getElem hq)
  have hs : c9.slots = (U.heap[q]).slots := Array.ext_getElem? fun i => e4 i (fun z => nomatch z)
  have hc : c9 = U.heap[q] := by rw [hs] at e2; exact e2
  have e5 : V.heap[q]? = some c9 := e1
  rw [e5, hc, Array.getElem?_eq_getElem hq]
set_option maxHeartbeats 1000000 in
/-- throw new E() -/
theorem ga_throw {x ik ic : Nat} {names : List String} (ht : tb = []) (hE : Bundle.fit (xn x) = true) (hnames : ∀ n ∈ names, Bundle.fit n = true) (h1 : Cond.classLink own ik (xn x) ∈ lw_tbl) (h2 : Cond.initialized (xn x) ∈ lw_tbl) (hat : ∀ z ∈ Bundle.ownAtoms0 own ic (xn x) names, ga_hw z = true ∨ (z ∈ lw_tbl ∧ ga_tw z = true)) (hfr : names.length + 3 < fr) (hlo : (st.map fun v => v.category).sum + (13 * (names.length + 1) + 42) ≤ lo)
    (d0 : decode cc pc = .ok (.new ik, 3)) (d3 : decode cc (pc + 3) = .ok (.dup, 1)) (d4 : decode cc (pc + 4) = .ok (.invokespecial ic, 3)) (d7 : decode cc (pc + 7) = .ok (.athrow, 1)) : ga_J l S0 D cl tA base b xn p e R s m args below meth c nL Ts own cc ret tb mn fr lo fl ad0 w0 (ga_MQ xn D cl tA base b s args below ad0 w0) pc lv st w (some (.inr x, w.1, w.2.1 + 1, w.2.2 + 6)) := by
  intro r w' ho
  cases ho
  refine ⟨⟨by simp only; omega, by simp only; omega, Nat.le_refl _, fun _ => rfl⟩, fun B a1 a2 a3 a4 ad H locs ls x1 x2 x3 x4 => ?_⟩
  obtain ⟨hx, hb, hml, hr, hown, hts, hlk, hbs, hK, hZ, htb, hmn, hfr9, hlo9, hst, h00⟩ := B
  simp only at a3 a4
  have hcs := ga_catsum b ad st
  intro T hT X
  have htr : e.platform.stackTraces = false := (show e.platform.stackTraces = l.stackTraces by rw [X.admits.platform]).trans hst
  have Y := ga_anew X (R' := { frames := R.frames, locals := R.locals, cells := 1, slots := 6 }) (Nat.le_refl _) (Nat.le_refl _) (by show _ + 1 ≤ _; omega) (by show _ + 6 ≤ _; omega)
  obtain ⟨U0, hU0⟩ : ∃ z, z = (T.setVm s.vm).setFrames (.invoking m args :: below) := ⟨_, rfl⟩
  rw [← hU0] at Y
  have hvm : U0.vm = s.vm := by rw [hU0]; rfl
  have hhp : U0.heap = H := by rw [hU0]; exact hT
  have hZH : ga_Z S0 base s H := hZ.kept hbs (fun a g1 g2 => x3.2.1 a g1 g2)
  have hW0 : S0.WarmedH U0.vm := by rw [hvm]; exact hZ.2.1
  have hww : ∀ z ∈ Bundle.ownAtoms0 own ic (xn x) names, z.before args U0 = true := ga_own h00 hW0 (fun q hq => by rw [hhp]; exact hZH.2.2 q (Nat.lt_of_lt_of_le hq hZH.1)) hat
  have hown0 : U0.vm.findClass own = some m.cls := by rw [hvm]; exact hown
  have hins : (Cond.instantiable (xn x) 6).before args U0 = true := hww _ (by simp [Bundle.ownAtoms0])
  obtain ⟨vm₁, cX, kX, hfX, hkX, -, -, X₁, st1⟩ := Y.newCold hx (own := own) (C := xn x) (index := ik) (n := 6) hown0 (ga_word h00 hW0 h1 (by rfl)) hins (ga_word h00 hW0 h2 (by rfl))
    (g := F0 m pc ls (st.map (ga_v b ad))) rfl (by rw [hb]; exact d0) (Nat.le_refl _) (Nat.le_refl _)
  generalize hT1 : (T.setVm vm₁).pushCell { cls := cX, slots := kX.instanceTypes.map defaultValue, vm := .none } = T1 at X₁ st1
  have hcat : (Value.ref T.heap.size).category = 1 := rfl
  have hcellA : T1.heap[T.heap.size]? = some (freshCell cX kX) := by rw [← hT1]; exact State.heap_pushCell_size _ _
  have d3' : decode c.code (pc + 3) = .ok (.dup, 1) := by rw [hb]; exact d3
  obtain ⟨U, hsteps, hrun, hend, hWU, hsame, ce, hce, hO⟩ := X₁.ctorThrow0 hx htr (own := own) (cls := xn x) (names := names) (ic := ic) hown0 hE hnames hww (fun z hz => nomatch hz) hfX hkX hcellA (by rw [hhp, hT]; exact Nat.le_refl _)
    (g := { method := m, pc := pc + 4, locals := ls, stack := .ref T.heap.size :: .ref T.heap.size :: st.map (ga_v b ad), locked := none }) rfl (x4.1.trans hml.symm) rfl rfl (rest := st.map (ga_v b ad)) rfl
    (by rw [hb]; exact d4) (by rw [hb]; exact d7) (fun z hz => by rw [htb, ht] at hz; cases hz) (by show _ < R.frames; omega) (by show 2 * 0 + _ + _ ≤ R.locals; simp only [List.map_cons, List.sum_cons, hcat]; omega) hlk
  obtain ⟨f1, f2⟩ := ga_old hsame
  rw [hhp] at f1 f2
  have hWs : s.WarmedH U.vm := by
    have z0 : s.WarmedH U0.vm := by rw [hvm]; exact State.WarmedH.refl s
    exact State.WarmedH.trans z0 hWU
  have hcl : s.vm.findClass (xn x) = some ce.cls := by
    have h9 := hO.cls
    rw [hvm] at h9
    exact h9
  have hall : s.sameButNew ({ U with vm := s.vm } : State) locs (w.2.1 + 1 - w0.2.1) (w.2.2 + 6 - w0.2.2) := by
    subst hU0
    obtain ⟨e1, e2⟩ := hsame
    rw [State.setFrames_setFrames] at e1
    have g2 : (T.setVm s.vm).sameButNew ({ U with vm := s.vm } : State) [] (0 + 1) (0 + 6) := ⟨e1, e2⟩
    have g3 := X.same.trans g2
    rw [List.append_nil] at g3
    exact g3.mono (by omega) (by omega)
  have hH2 : ga_H D cl tA base b ad w.1 U.heap := ⟨x2.1.kept (fun k q hq => f2 q.1 (x2.1 k q hq).lt), x2.2⟩
  refine ⟨U, ?_, .threw T.heap.size, hrun, hend, T.heap.size, ce, locs, ad, rfl, hce, hO.vm, hcl, hWs, hall, x3.2.2, x1, hH2, Nat.le_trans x3.1 f1, fun q g1 g2 => by rw [f2 q (Nat.lt_of_lt_of_le g1 x3.1)]; exact x3.2.1 q g1 g2⟩
  refine st1 _ ?_
  show Steps p.tables e below (T1.setTop { method := m, pc := pc + 3, locals := ls, stack := .ref T.heap.size :: st.map (ga_v b ad), locked := none }) _
  jvm_step X₁.here [X₁.here.top, hx, d3', Value.category]
  exact hsteps
end GG
end
section
/-! CATCH, AND A METHOD WITH HANDLERS -/
/-- the search through the table ends with h and leaves the tables vm' -/
def ga_Fd (e : Env) (S : State) (f : JFrame) (a : Addr) (t : List ExceptionTableEntry) (h : Handler) (vm' : Vm) : Prop :=
  ∀ (Q : Handler → Pre) (E : CtlPost) (d : Bool) (acts : List Action), wp (findHandler.go f a t) Q E e d acts S ↔ Q h d acts (S.setVm vm')
section GH
variable {l : Launch} {S0 : State} {D : va_G} {cl : List vw_C} {tA : List (ClassId × FieldType)} {base b : Nat} {xn : Nat → String} {p : Program} {e : Env} {R : Room} {s : State} {m : MethodId} {args : Array Value} {below : List Frame} {meth : Method} {c : Code} {nL : Nat} {Ts : List Cond} {own : String} {cc : ByteArray} {ret : Option FieldType} {tb : List ExceptionTableEntry} {mn : String} {fr lo : Nat} {fl : Bool} {ad0 : Nat → Nat} {w0 : ga_W} {Q : ga_R → ga_W → State → Prop}
variable {pc : Nat} {lv : List (Nat × Value)} {st : List Value} {w : ga_W} {o : ga_O}
/-- one row that covers the place and names a class: cold or warm, it takes the thing or lets it by -/
theorem ga_row {S : State} {f : JFrame} {a : Addr} {cell : Cell} {z : ExceptionTableEntry} {t : List ExceptionTableEntry} {k : ClassId} (hx : covers z f.pc = true) (h0 : z.catchType ≠ 0) (hl : S.vm.ClassLinks e.platform f.method.cls z.catchType k) (hcell : S.heap[a]? = some cell) (hobj : ∀ j, cell.vm ≠ .statics j) (hk : ∃ j, S.vm.classes[cell.cls]? = some j) (Q : Handler → Pre) (E : CtlPost) (d : Bool) (acts : List Action) :
    wp (findHandler.go f a (z :: t)) Q E e d acts S ↔ if S.vm.assignable cell.cls k = true then Q (.found z.handlerPc) d acts (S.setVm (S.vm.noted f.method.cls z.catchType (.cls k))) else wp (findHandler.go f a t) Q E e d acts (S.setVm (S.vm.noted f.method.cls z.catchType (.cls k))) := by
  simp only [covers] at hx
  obtain ⟨ha, ht⟩ := (resolveClass_links e.toSetting hl).op (op := VmOp.resolveClass f.method.cls z.catchType) rfl
  have al : S.vm.Alike (S.vm.noted f.method.cls z.catchType (.cls k)) := (Vm.Alike.refl S.vm).noted _ _ _
  obtain ⟨j1, hj1⟩ := hk
  obtain ⟨-, -, -, j2, -, -, -, -, -, hj2, -, -⟩ := hl.here
  obtain ⟨j1', hj1', -⟩ := al.2.2 _ _ hj1
  obtain ⟨j2', hj2', -⟩ := al.2.2 _ _ hj2
  cases hfit : S.vm.assignable cell.cls k with
  | true =>
    have hf' : (S.vm.noted f.method.cls z.catchType (.cls k)).assignable cell.cls k = true := by rw [al.assignable]; exact hfit
    simp [findHandler.go, hx, h0, ha, ht, hcell, hobj, hj1', hj2', hf', VmOp.dirties, VmOp.acts]
  | false =>
    have hf' : (S.vm.noted f.method.cls z.catchType (.cls k)).assignable cell.cls k = false := by rw [al.assignable]; exact hfit
    simp [findHandler.go, hx, h0, ha, ht, hcell, hobj, hj1', hj2', hf', VmOp.dirties, VmOp.acts]
/-- rows that let it by, then one that takes it -/
theorem ga_seek {f : JFrame} {a : Addr} {cell : Cell} {z : ExceptionTableEntry} {suf : List ExceptionTableEntry} {kz : ClassId} (hobj : ∀ j, cell.vm ≠ .statics j) (hk : ∃ j, s.vm.classes[cell.cls]? = some j) (hx : covers z f.pc = true) (h0 : z.catchType ≠ 0) (hl : s.vm.ClassLinks e.platform f.method.cls z.catchType kz) (hfit : s.vm.assignable cell.cls kz = true) :
    ∀ (pre : List ExceptionTableEntry) (S : State), s.WarmedH S.vm → S.heap[a]? = some cell → (∀ y ∈ pre, covers y f.pc = false ∨ (y.catchType ≠ 0 ∧ ∃ k, s.vm.ClassLinks e.platform f.method.cls y.catchType k ∧ s.vm.assignable cell.cls k = false)) →
      ∃ vm', s.WarmedH vm' ∧ ga_Fd e S f a (pre ++ z :: suf) (.found z.handlerPc) vm' := by
  obtain ⟨j, hj⟩ := hk
  intro pre
  induction pre with
  | nil =>
    intro S hW hcell _
    obtain ⟨j', hj', -⟩ := hW.alike.2.2 _ _ hj
    obtain ⟨-, hw, -⟩ := State.classEntry (e := e) hW hl
    refine ⟨_, hw, fun Q E d acts => ?_⟩
    rw [List.nil_append, ga_row hx h0 (hW.classLinks hl) hcell hobj ⟨j', hj'⟩, if_pos (by rw [hW.alike.assignable]; exact hfit)]
  | cons y ys ih =>
    intro S hW hcell hpass
    have hrest := fun z hz => hpass z (List.mem_cons_of_mem _ hz)
    by_cases hcov : covers y f.pc = true
    · rcases hpass y List.mem_cons_self with h | ⟨hy0, k, hyl, hno⟩
      · rw [h] at hcov; cases hcov
      · obtain ⟨j', hj', -⟩ := hW.alike.2.2 _ _ hj
        obtain ⟨-, hw, -⟩ := State.classEntry (e := e) hW hyl
        obtain ⟨vm', hW', hq⟩ := ih (S.setVm (S.vm.noted f.method.cls y.catchType (.cls k))) hw hcell hrest
        refine ⟨vm', hW', fun Q E d acts => ?_⟩
        rw [List.cons_append, ga_row hcov hy0 (hW.classLinks hyl) hcell hobj ⟨j', hj'⟩, if_neg (by rw [hW.alike.assignable, hno]; decide)]
        exact hq Q E d acts
    · obtain ⟨vm', hW', hq⟩ := ih S hW hcell hrest
      refine ⟨vm', hW', fun Q E d acts => ?_⟩
      rw [List.cons_append, Jvm.W.findHandler_go_skip (by simpa using hcov)]
      exact hq Q E d acts
/-- into the handler -/
theorem ga_into {T target : State} {g : JFrame} {q : Addr} {pc2 : Nat} {vm' : Vm} (h : At T g.method c below) (hm : T.vm.method? g.method = some meth) (hc : meth.code = some c) (hf : ga_Fd e ((T.setTop g).pushFrame (.throwing q)) g q c.exceptionTable.toList (.found pc2) vm')
    (hrest : Steps p.tables e below ((T.setVm vm').setTop { g with pc := pc2, stack := [.ref q] }) target) : Steps p.tables e below ((T.setTop g).pushFrame (.throwing q)) target := by
  obtain ⟨hgo, hw⟩ := h.throwing q
  refine Steps.head hgo hw ?_
  have hstep : (stepThrowing e ((T.setTop g).pushFrame (.throwing q)) q (.java g :: T.frames.tail)).Is ((((T.setTop g).pushFrame (.throwing q)).setVm vm').setFrames (.java { g with pc := pc2, stack := [.ref q] } :: T.frames.tail)) [] := by
    have hm' : ((T.setTop g).pushFrame (.throwing q)).vm.method? g.method = some meth := by simpa [State.pushFrame, State.setFrames] using hm
    simp only [stepThrowing, searchFrame, vmDo]
    generalize hr : Sem.go _ e false [] ((T.setTop g).pushFrame (.throwing q)) = res
    obtain ⟨as, rfl, ha⟩ := Sem.eq_ok_of hr (a := Handler.found pc2) (s' := ((T.setTop g).pushFrame (.throwing q)).setVm vm') (acts' := []) (by simp [Jvm.W.findHandler_eq hm' hc, hf _ _ _ _])
    exact ⟨rfl, ha⟩
  rw [stepThread_throwing (frames_entered h.top _), hstep.1]
  obtain ⟨g₀, hg⟩ := Option.isSome_iff_exists.mp h.top
  obtain ⟨r, hr⟩ := State.topJava?_eq_some.mp hg
  have hr' : (T.setVm vm').frames = .java g₀ :: r := hr
  have e1 : ∀ (V : State) (F G : List Frame), ((V.setFrames F).setVm vm').setFrames G = (V.setVm vm').setFrames G := fun V F G => by
    have z : (V.setFrames F).setVm vm' = (V.setVm vm').setFrames F := rfl
    rw [z, State.setFrames_setFrames]
  rw [State.setTop_of_frames _ hr'] at hrest
  rw [hr, List.tail_cons, State.pushFrame, e1, State.setTop_of_frames _ hr, e1]
  exact hrest
/-- the handler's first row lays the exception into a local that nobody reads again -/
theorem ga_catch {x i : Nat} {j : Fin 4} {lv2 : List (Nat × Value)} (pre : List ExceptionTableEntry) (z : ExceptionTableEntry) (suf : List ExceptionTableEntry) (htl : tb = pre ++ z :: suf) (hpass : ∀ y ∈ pre, covers y pc = false ∨ (y.catchType ≠ 0 ∧ ∃ nm : String, Cond.classLink own y.catchType nm ∈ Ts ∧ ∀ (S : State) (b : Nat), ga_0 S b → (Cond.not (.castable (xn x) nm)).before #[Value.ref b] S = true)) (hcov : covers z pc = true) (h0 : z.catchType ≠ 0)
    (hl : Cond.classLink own z.catchType (xn x) ∈ Ts) (hcast : Cond.castable (xn x) (xn x) ∈ lw_tbl) (d : decode cc z.handlerPc = .ok (.astore_n j, 1)) (hi : (j : Nat) = i) (hn : i < nL) (h2 : (ga_s1 lv i .null).tail = lv2) (k : ga_J l S0 D cl tA base b xn p e R s m args below meth c nL Ts own cc ret tb mn fr lo fl ad0 w0 Q (z.handlerPc + 1) lv2 [] w o) : ga_JX l S0 D cl tA base b xn p e R s m args below meth c nL Ts own cc ret tb mn fr lo fl ad0 w0 Q pc lv x w o := by
  intro r w' ho
  obtain ⟨g1, g4⟩ := k r w' ho
  refine ⟨g1, fun B a1 a2 a3 a4 ad H locs ls rest ce q x1 x2 x3 x4 hce hcv hcl => ?_⟩
  have kk := g4 B a1 a2 a3 a4 ad H locs
  obtain ⟨hx, hb, hml, hr, hown, hts, hlk, hbs, hK, hZ, htb, hmn, hfr, hlo, hst, h00⟩ := B
  intro T hT X
  have hpl : e.platform.magicAccessors = ({} : Platform).magicAccessors := by rw [X.admits.platform]
  obtain ⟨kz, hkz, hlz⟩ := Cond.classLink_spec hown (hts _ hl) e.platform hpl
  cases Option.some.inj (hcl.symm.trans hkz)
  obtain ⟨c3, c4, hc3, hc4, hasg⟩ := Cond.castable_spec (ga_word (args := args) (U := s) h00 hZ.2.1 hcast rfl)
  cases Option.some.inj (hc3.symm.trans hcl)
  cases Option.some.inj (hc4.symm.trans hcl)
  obtain ⟨vm', hW', hfd⟩ := ga_seek (e := e) (s := s) (f := F0 m pc ls rest) (a := q) (cell := ce) (z := z) (suf := suf) (fun j h => by rw [hcv] at h; cases h) (by obtain ⟨k9, h9, -⟩ := Vm.findClass_spec hcl; exact ⟨k9, h9⟩) hcov h0 hlz hasg pre ((T.setTop (F0 m pc ls rest)).pushFrame (.throwing q)) (by rw [throwing_vm]; exact X.warmed) (by rw [throwing_heap, hT]; exact hce)
    (fun y hy => by
      rcases hpass y hy with h | ⟨hy0, nm, hnl, hno⟩
      · exact Or.inl h
      · obtain ⟨k6, hk6, hl6⟩ := Cond.classLink_spec hown (hts _ hnl) e.platform hpl
        obtain ⟨a8, b8, h1, h2, h3⟩ := va_Nc.moved hZ.2.1.alike (va_Nc.of (hno S0 b h00))
        cases Option.some.inj (h1.symm.trans hcl)
        cases Option.some.inj (h2.symm.trans hk6)
        exact Or.inr ⟨hy0, _, hl6, h3⟩)
  rw [← htl, ← htb] at hfd
  have hWd : W p l e R s m args below meth c H locs (w.2.1 - w0.2.1) (w.2.2 - w0.2.2) (Q r w') (F0 m z.handlerPc ls [.ref q]) := by
    refine lv_astore_n hx hb d hi x4 hn rfl (fun ls2 hl2 => ?_)
    refine kk ls2 x1 x2 x3 ⟨hl2.1, hl2.2.1, fun u hu => hl2.2.2 u (List.mem_cons_of_mem _ ?_)⟩
    have e1 := congrArg List.tail (ga_s1_l b ad lv i .null)
    rw [← h2] at hu
    simp only [List.tail_cons] at e1
    rw [e1]
    simpa [ga_l, List.map_tail] using hu
  obtain ⟨t, a9, b9⟩ := hWd (T.setVm vm') hT (X.noted hW')
  exact ⟨t, ga_into (h := X.here) (hm := X.method') (hc := X.code) hfd a9, b9⟩
/-- the handler's first row lays the exception into a local that nobody reads again -/
theorem ga_catchA {x i : Nat} {lv2 : List (Nat × Value)} (pre : List ExceptionTableEntry) (z : ExceptionTableEntry) (suf : List ExceptionTableEntry) (htl : tb = pre ++ z :: suf) (hpass : ∀ y ∈ pre, covers y pc = false ∨ (y.catchType ≠ 0 ∧ ∃ nm : String, Cond.classLink own y.catchType nm ∈ Ts ∧ ∀ (S : State) (b : Nat), ga_0 S b → (Cond.not (.castable (xn x) nm)).before #[Value.ref b] S = true)) (hcov : covers z pc = true) (h0 : z.catchType ≠ 0)
    (hl : Cond.classLink own z.catchType (xn x) ∈ Ts) (hcast : Cond.castable (xn x) (xn x) ∈ lw_tbl) (d : decode cc z.handlerPc = .ok (.astore i, 2)) (hn : i < nL) (h2 : (ga_s1 lv i .null).tail = lv2) (k : ga_J l S0 D cl tA base b xn p e R s m args below meth c nL Ts own cc ret tb mn fr lo fl ad0 w0 Q (z.handlerPc + 2) lv2 [] w o) : ga_JX l S0 D cl tA base b xn p e R s m args below meth c nL Ts own cc ret tb mn fr lo fl ad0 w0 Q pc lv x w o := by
  intro r w' ho
  obtain ⟨g1, g4⟩ := k r w' ho
  refine ⟨g1, fun B a1 a2 a3 a4 ad H locs ls rest ce q x1 x2 x3 x4 hce hcv hcl => ?_⟩
  have kk := g4 B a1 a2 a3 a4 ad H locs
  obtain ⟨hx, hb, hml, hr, hown, hts, hlk, hbs, hK, hZ, htb, hmn, hfr, hlo, hst, h00⟩ := B
  intro T hT X
  have hpl : e.platform.magicAccessors = ({} : Platform).magicAccessors := by rw [X.admits.platform]
  obtain ⟨kz, hkz, hlz⟩ := Cond.classLink_spec hown (hts _ hl) e.platform hpl
  cases Option.some.inj (hcl.symm.trans hkz)
  obtain ⟨c3, c4, hc3, hc4, hasg⟩ := Cond.castable_spec (ga_word (args := args) (U := s) h00 hZ.2.1 hcast rfl)
  cases Option.some.inj (hc3.symm.trans hcl)
  cases Option.some.inj (hc4.symm.trans hcl)
  obtain ⟨vm', hW', hfd⟩ := ga_seek (e := e) (s := s) (f := F0 m pc ls rest) (a := q) (cell := ce) (z := z) (suf := suf) (fun j h => by rw [hcv] at h; cases h) (by obtain ⟨k9, h9, -⟩ := Vm.findClass_spec hcl; exact ⟨k9, h9⟩) hcov h0 hlz hasg pre ((T.setTop (F0 m pc ls rest)).pushFrame (.throwing q)) (by rw [throwing_vm]; exact X.warmed) (by rw [throwing_heap, hT]; exact hce)
    (fun y hy => by
      rcases hpass y hy with h | ⟨hy0, nm, hnl, hno⟩
      · exact Or.inl h
      · obtain ⟨k6, hk6, hl6⟩ := Cond.classLink_spec hown (hts _ hnl) e.platform hpl
        obtain ⟨a8, b8, h1, h2, h3⟩ := va_Nc.moved hZ.2.1.alike (va_Nc.of (hno S0 b h00))
        cases Option.some.inj (h1.symm.trans hcl)
        cases Option.some.inj (h2.symm.trans hk6)
        exact Or.inr ⟨hy0, _, hl6, h3⟩)
  rw [← htl, ← htb] at hfd
  have hWd : W p l e R s m args below meth c H locs (w.2.1 - w0.2.1) (w.2.2 - w0.2.2) (Q r w') (F0 m z.handlerPc ls [.ref q]) := by
    refine lv_astore hx hb d x4 hn rfl (fun ls2 hl2 => ?_)
    refine kk ls2 x1 x2 x3 ⟨hl2.1, hl2.2.1, fun u hu => hl2.2.2 u (List.mem_cons_of_mem _ ?_)⟩
    have e1 := congrArg List.tail (ga_s1_l b ad lv i .null)
    rw [← h2] at hu
    simp only [List.tail_cons] at e1
    rw [e1]
    simpa [ga_l, List.map_tail] using hu
  obtain ⟨t, a9, b9⟩ := hWd (T.setVm vm') hT (X.noted hW')
  exact ⟨t, ga_into (h := X.here) (hm := X.method') (hc := X.code) hfd a9, b9⟩
/-- a method with handlers, from its body -/
theorem ga_enterH {y : MethodName} {ws ws' : List Cond} {maxL : Nat} {av : List Value} {hh : List (Nat × Nat × Nat × Nat)} (hst : l.stackTraces = false) (hy : plainName y.cls = true) (hw : ws = Cond.codeWith y cc maxL ret hh :: ws') (hsl : (lg_sl av).length ≤ maxL)
    (body : ∀ (p : Program) (e : Env) (R : Room) (s : State) (m : MethodId) (args : Array Value) (below : List Frame) (meth : Method) (c : Code) (ad0 : Nat → Nat), ga_J l S0 D cl tA base b xn p e R s m args below meth c maxL ws y.cls cc ret (tableOf hh) y.name fr lo fl ad0 w (ga_MQ xn D cl tA base b s args below ad0 w) 0 (lv_args 0 av) [] w o) : ga_M l S0 D cl tA base b xn y ws fr lo fl av w o := by
  intro r w' ho
  refine ⟨fun p e R s m args below meth c => (body p e R s m args below meth c (fun k => k) r w' ho).1, fun ad => ?_⟩
  have key : ∀ (p : Program) (e : Env) (s : State) (m : MethodId) (args : Array Value) (below : List Frame) (meth : Method) (c : Code) (s₁ : State), BodyLoose p l y (headSpec ws { frames := fr, cells := w'.2.1 - w.2.1, slots := w'.2.2 - w.2.2, locals := lo }) cc maxL ret e s m args below meth c s₁ → c.maxLocals = maxL → (va_Pc (av.map (ga_v b ad)) (fun U => ga_P S0 D cl tA base b ad w U)) args s →
      W p l e (headSpec ws { frames := fr, cells := w'.2.1 - w.2.1, slots := w'.2.2 - w.2.2, locals := lo }).room s m args below meth c s.heap [] 0 0 (ga_MQ xn D cl tA base b s args below ad w r w') (entryFrame m args maxL) := by
    intro p e s m args below meth c s₁ B hml hv
    obtain ⟨rfl, hbs, hK, hZ, h00, hH⟩ := hv
    obtain ⟨-, h4⟩ := body p e (headSpec ws { frames := fr, cells := w'.2.1 - w.2.1, slots := w'.2.2 - w.2.2, locals := lo }).room s m _ below meth c ad r w' ho
    have hname : meth.name = y.name := (name_of_methodNamed B.named B.method).1
    have htab : c.exceptionTable.toList = tableOf hh := by
      obtain ⟨m9, meth9, c9, hn9, g1, g2, -, -, g6, -⟩ := Cond.codeWith_spec (atoms_spec (ws := ws) B.pre _ (by rw [hw]; exact List.mem_cons_self))
      cases Option.some.inj (hn9.symm.trans B.named)
      cases Option.some.inj (g1.symm.trans B.method)
      cases Option.some.inj (g2.symm.trans (Stand.of_body B).code)
      rw [← g6, table_eq]
    have hB : ga_B l S0 D cl tA base b p (headSpec ws { frames := fr, cells := w'.2.1 - w.2.1, slots := w'.2.2 - w.2.2, locals := lo }).room s m ((av.map (ga_v b ad)).toArray) meth c maxL ws y.cls cc ret (tableOf hh) y.name fr lo :=
      ⟨B.exec, B.bytes, hml, B.returns, findClass_of_methodNamed B.named, atoms_spec (ws := ws) B.pre, B.notSynchronized, hbs, hK, hZ, htab, hname, Nat.le_refl _, Nat.le_refl _, hst, h00⟩
    have hl := lv_entry (av.map (ga_v b ad)) (n := maxL) (by rw [ga_sl_len]; exact hsl)
    rw [ga_l_args] at hl
    have hh9 := h4 hB (Nat.le_refl _) (Nat.le_refl _) (by show w'.2.1 ≤ w.2.1 + (w'.2.1 - w.2.1); omega) (by show w'.2.2 ≤ w.2.2 + (w'.2.2 - w.2.2); omega) ad s.heap [] _ ga_X.rf hH va_S.rf hl
    rw [Nat.sub_self, Nat.sub_self] at hh9
    rw [lg_entry_eq]
    exact hh9
  cases r with
  | inl v => exact va_MetW (cc := cc) (maxL := maxL) (ret := ret) hy hw key
  | inr x =>
    refine MetFree.of_bodyS (code := cc) (maxLocals := maxL) (ret := ret) hy ?_ ?_
    · intro args s m h hn
      obtain ⟨m9, meth, c, hn9, h1, h2, h3, h4, -, h5, h6, -⟩ := Cond.codeWith_spec (atoms_spec (ws := ws) h _ (by rw [hw]; exact List.mem_cons_self))
      cases hn.symm.trans hn9
      exact ⟨meth, c, h1, h2, h3, h4, h5, h6⟩
    · intro p e s m args below meth c s₁ B hml hP _
      have hh0 : s₁.heap = s.heap := by rw [B.state]; rfl
      obtain ⟨t, a1, oc, b1, b2, b3⟩ := key p e s m args below meth c s₁ B hml hP s₁ hh0 (Stand.of_body B)
      exact ⟨t, oc, a1, b1, b2, b3⟩
end GH
end
section
/-! SMALL ROWS FOR THE PRINTED WALKS -/
def ga_jn {κ : Type} (k : κ) (body : κ → ga_O) : ga_O := body k
section GS
variable {l : Launch} {S0 : State} {D : va_G} {cl : List vw_C} {tA : List (ClassId × FieldType)} {base b : Nat} {xn : Nat → String} {p : Program} {e : Env} {R : Room} {s : State} {m : MethodId} {args : Array Value} {below : List Frame} {meth : Method} {c : Code} {nL : Nat} {Ts : List Cond} {own : String} {cc : ByteArray} {ret : Option FieldType} {tb : List ExceptionTableEntry} {mn : String} {fr lo : Nat} {fl : Bool} {ad0 : Nat → Nat} {w0 : ga_W} {Q : ga_R → ga_W → State → Prop}
variable {pc : Nat} {lv : List (Nat × Value)} {st : List Value} {w : ga_W} {o : ga_O}
theorem ga_guard {P : Prop} [Decidable P] (k : P → ga_J l S0 D cl tA base b xn p e R s m args below meth c nL Ts own cc ret tb mn fr lo fl ad0 w0 Q pc lv st w o) : ga_J l S0 D cl tA base b xn p e R s m args below meth c nL Ts own cc ret tb mn fr lo fl ad0 w0 Q pc lv st w (if P then o else none) := by
  by_cases h : P
  · rw [if_pos h]; exact k h
  · rw [if_neg h]; exact ga_no
theorem ga_ite {P : Prop} [Decidable P] {o2 : ga_O} (k1 : P → ga_J l S0 D cl tA base b xn p e R s m args below meth c nL Ts own cc ret tb mn fr lo fl ad0 w0 Q pc lv st w o) (k2 : ¬ P → ga_J l S0 D cl tA base b xn p e R s m args below meth c nL Ts own cc ret tb mn fr lo fl ad0 w0 Q pc lv st w o2) : ga_J l S0 D cl tA base b xn p e R s m args below meth c nL Ts own cc ret tb mn fr lo fl ad0 w0 Q pc lv st w (if P then o else o2) := by
  by_cases h : P
  · rw [if_pos h]; exact k1 h
  · rw [if_neg h]; exact k2 h
theorem ga_iteX {x : Nat} {P : Prop} [Decidable P] {o2 : ga_O} (k1 : P → ga_JX l S0 D cl tA base b xn p e R s m args below meth c nL Ts own cc ret tb mn fr lo fl ad0 w0 Q pc lv x w o) (k2 : ¬ P → ga_JX l S0 D cl tA base b xn p e R s m args below meth c nL Ts own cc ret tb mn fr lo fl ad0 w0 Q pc lv x w o2) : ga_JX l S0 D cl tA base b xn p e R s m args below meth c nL Ts own cc ret tb mn fr lo fl ad0 w0 Q pc lv x w (if P then o else o2) := by
  by_cases h : P
  · rw [if_pos h]; exact k1 h
  · rw [if_neg h]; exact k2 h
theorem ga_join {κ : Type} {k : κ} {body : κ → ga_O} (P : κ → Prop) (h1 : P k) (h2 : ∀ K, P K → ga_J l S0 D cl tA base b xn p e R s m args below meth c nL Ts own cc ret tb mn fr lo fl ad0 w0 Q pc lv st w (body K)) : ga_J l S0 D cl tA base b xn p e R s m args below meth c nL Ts own cc ret tb mn fr lo fl ad0 w0 Q pc lv st w (ga_jn k body) := h2 k h1
theorem ga_named {x : Int32} {f : Int32 → ga_O} (k : ∀ v : Int32, ga_J l S0 D cl tA base b xn p e R s m args below meth c nL Ts own cc ret tb mn fr lo fl ad0 w0 Q pc lv (.int v :: st) w (f v)) : ga_J l S0 D cl tA base b xn p e R s m args below meth c nL Ts own cc ret tb mn fr lo fl ad0 w0 Q pc lv (.int x :: st) w ((fun v => f v) x) := k x
theorem ga_namedW {f : ga_W → ga_O} {v : ga_W} (k : ∀ v : ga_W, ga_J l S0 D cl tA base b xn p e R s m args below meth c nL Ts own cc ret tb mn fr lo fl ad0 w0 Q pc lv st v (f v)) : ga_J l S0 D cl tA base b xn p e R s m args below meth c nL Ts own cc ret tb mn fr lo fl ad0 w0 Q pc lv st v ((fun v => f v) v) := k v
theorem ga_vI {f : Int32 → ga_W → ga_O} (k : ∀ x w1, ga_J l S0 D cl tA base b xn p e R s m args below meth c nL Ts own cc ret tb mn fr lo fl ad0 w0 Q pc lv (.int x :: st) w1 (f x w1)) : ∀ v w1, ga_J l S0 D cl tA base b xn p e R s m args below meth c nL Ts own cc ret tb mn fr lo fl ad0 w0 Q pc lv (v.toList ++ st) w1 (ga_kI f v w1) := by
  intro v w1
  cases v with
  | none => exact ga_no
  | some v => cases v <;> first | exact k _ _ | exact ga_no
theorem ga_vD {f : UInt64 → ga_W → ga_O} (k : ∀ x w1, ga_J l S0 D cl tA base b xn p e R s m args below meth c nL Ts own cc ret tb mn fr lo fl ad0 w0 Q pc lv (.double x :: st) w1 (f x w1)) : ∀ v w1, ga_J l S0 D cl tA base b xn p e R s m args below meth c nL Ts own cc ret tb mn fr lo fl ad0 w0 Q pc lv (v.toList ++ st) w1 (ga_kD f v w1) := by
  intro v w1
  cases v with
  | none => exact ga_no
  | some v => cases v <;> first | exact k _ _ | exact ga_no
theorem ga_vV {f : ga_W → ga_O} (k : ∀ w1, ga_J l S0 D cl tA base b xn p e R s m args below meth c nL Ts own cc ret tb mn fr lo fl ad0 w0 Q pc lv st w1 (f w1)) : ∀ v w1, ga_J l S0 D cl tA base b xn p e R s m args below meth c nL Ts own cc ret tb mn fr lo fl ad0 w0 Q pc lv (v.toList ++ st) w1 (ga_kV f v w1) := by
  intro v w1
  cases v with
  | none => exact k _
  | some v => exact ga_no
theorem ga_nz1 {x : Int32} (h : x = 0 ∨ x = 1) : narrow .boolean (.int x) = .int x := by
  rcases h with rfl | rfl <;> rfl
theorem ga_nz {x : Int32} {ad : Nat → Nat} (h : x = 0 ∨ x = 1) : narrow .boolean (ga_v b ad (.int x)) = ga_v b ad (.int x) ∧ fits .boolean (ga_v b ad (.int x)) = true := by
  rcases h with rfl | rfl <;> exact ⟨rfl, rfl⟩
theorem ga_zr0 (cA : ClassId) (N : Nat) : vp_cell cA (N, .inl (fun _ => 0)) = arrV cA N (fun _ => defaultValue .int) := rfl
theorem ga_zr1 (cA : ClassId) (N : Nat) : vp_cell cA (N, .inl (fun _ => 0)) = arrV cA N (fun _ => defaultValue .boolean) := rfl
theorem ga_zr2 (cA : ClassId) (N : Nat) : vp_cell cA (N, .inr (.inl (fun _ => 0))) = arrV cA N (fun _ => defaultValue .long) := rfl
theorem ga_zr3 (cA : ClassId) (N : Nat) : vp_cell cA (N, .inr (.inr (.inr (.inl (fun _ => 0))))) = arrV cA N (fun _ => defaultValue .double) := rfl
theorem ga_by {N k : Nat} (h : N ≤ 60000) (hk : k ≤ 8) : N * k ≤ 536870912 := by
  have := Nat.mul_le_mul h hk
  omega
theorem ga_ps1 {x : Nat} {y1 : ExceptionTableEntry} (n1 : String) (a1 : Cond.classLink own y1.catchType n1 ∈ Ts) (c1 : ∀ (S : State) (b : Nat), ga_0 S b → (Cond.not (.castable (xn x) n1)).before #[Value.ref b] S = true) (z1 : y1.catchType ≠ 0 := by decide) : ∀ y ∈ [y1], covers y pc = false ∨ (y.catchType ≠ 0 ∧ ∃ nm : String, Cond.classLink own y.catchType nm ∈ Ts ∧ ∀ (S : State) (b : Nat), ga_0 S b → (Cond.not (.castable (xn x) nm)).before #[Value.ref b] S = true) := by
  intro y hy
  rw [List.mem_singleton] at hy
  subst hy
  exact Or.inr ⟨z1, n1, a1, c1⟩
theorem ga_ps2 {x : Nat} {y1 y2 : ExceptionTableEntry} (n1 : String) (a1 : Cond.classLink own y1.catchType n1 ∈ Ts) (c1 : ∀ (S : State) (b : Nat), ga_0 S b → (Cond.not (.castable (xn x) n1)).before #[Value.ref b] S = true) (n2 : String) (a2 : Cond.classLink own y2.catchType n2 ∈ Ts) (c2 : ∀ (S : State) (b : Nat), ga_0 S b → (Cond.not (.castable (xn x) n2)).before #[Value.ref b] S = true) (z1 : y1.catchType ≠ 0 := by decide) (z2 : y2.catchType ≠ 0 := by decide) : ∀ y ∈ [y1, y2], covers y pc = false ∨ (y.catchType ≠ 0 ∧ ∃ nm : String, Cond.classLink own y.catchType nm ∈ Ts ∧ ∀ (S : State) (b : Nat), ga_0 S b → (Cond.not (.castable (xn x) nm)).before #[Value.ref b] S = true) := by
  intro y hy
  rcases List.mem_cons.mp hy with rfl | hy
  · exact Or.inr ⟨z1, n1, a1, c1⟩
  · exact ga_ps1 n2 a2 c2 z2 y hy
theorem ga_ps3 {x : Nat} {y1 y2 y3 : ExceptionTableEntry} (n1 : String) (a1 : Cond.classLink own y1.catchType n1 ∈ Ts) (c1 : ∀ (S : State) (b : Nat), ga_0 S b → (Cond.not (.castable (xn x) n1)).before #[Value.ref b] S = true) (n2 : String) (a2 : Cond.classLink own y2.catchType n2 ∈ Ts) (c2 : ∀ (S : State) (b : Nat), ga_0 S b → (Cond.not (.castable (xn x) n2)).before #[Value.ref b] S = true) (n3 : String) (a3 : Cond.classLink own y3.catchType n3 ∈ Ts) (c3 : ∀ (S : State) (b : Nat), ga_0 S b → (Cond.not (.castable (xn x) n3)).before #[Value.ref b] S = true) (z1 : y1.catchType ≠ 0 := by decide) (z2 : y2.catchType ≠ 0 := by decide) (z3 : y3.catchType ≠ 0 := by decide) : ∀ y ∈ [y1, y2, y3], covers y pc = false ∨ (y.catchType ≠ 0 ∧ ∃ nm : String, Cond.classLink own y.catchType nm ∈ Ts ∧ ∀ (S : State) (b : Nat), ga_0 S b → (Cond.not (.castable (xn x) nm)).before #[Value.ref b] S = true) := by
  intro y hy
  rcases List.mem_cons.mp hy with rfl | hy
  · exact Or.inr ⟨z1, n1, a1, c1⟩
  · exact ga_ps2 n2 a2 c2 n3 a3 c3 z2 z3 y hy
end GS
theorem ga_out5 {x : Int32} (h0 : ¬ x = 0) (h1 : ¬ x = 1) (h2 : ¬ x = 2) (h3 : ¬ x = 3) (h4 : ¬ x = 4) (h5 : ¬ x = 5) : x.toInt < 0 ∨ 5 < x.toInt := by
  by_cases h : x.toInt < 0
  · exact Or.inl h
  · right
    refine Int.not_le.mp (fun hle => ?_)
    have key : ∀ k : Int32, ¬ x = k → ¬ x.toInt = k.toInt := fun k hk q => hk (Int32.toInt_inj.mp q)
    have q0 : ¬ x.toInt = 0 := key 0 h0
    have q1 : ¬ x.toInt = 1 := key 1 h1
    have q2 : ¬ x.toInt = 2 := key 2 h2
    have q3 : ¬ x.toInt = 3 := key 3 h3
    have q4 : ¬ x.toInt = 4 := key 4 h4
    have q5 : ¬ x.toInt = 5 := key 5 h5
    omega
theorem ga_out15 {x : Int32} (h0 : ¬ x = 0) (h1 : ¬ x = 1) (h2 : ¬ x = 2) (h3 : ¬ x = 3) (h4 : ¬ x = 4) (h5 : ¬ x = 5) (h6 : ¬ x = 6) (h7 : ¬ x = 7) (h8 : ¬ x = 8) (h9 : ¬ x = 9) (h10 : ¬ x = 10) (h11 : ¬ x = 11) (h12 : ¬ x = 12) (h13 : ¬ x = 13) (h14 : ¬ x = 14) (h15 : ¬ x = 15) : x.toInt < 0 ∨ 15 < x.toInt := by
  by_cases h : x.toInt < 0
  · exact Or.inl h
  · right
    refine Int.not_le.mp (fun hle => ?_)
    have key : ∀ k : Int32, ¬ x = k → ¬ x.toInt = k.toInt := fun k hk q => hk (Int32.toInt_inj.mp q)
    have q0 : ¬ x.toInt = 0 := key 0 h0
    have q1 : ¬ x.toInt = 1 := key 1 h1
    have q2 : ¬ x.toInt = 2 := key 2 h2
    have q3 : ¬ x.toInt = 3 := key 3 h3
    have q4 : ¬ x.toInt = 4 := key 4 h4
    have q5 : ¬ x.toInt = 5 := key 5 h5
    have q6 : ¬ x.toInt = 6 := key 6 h6
    have q7 : ¬ x.toInt = 7 := key 7 h7
    have q8 : ¬ x.toInt = 8 := key 8 h8
    have q9 : ¬ x.toInt = 9 := key 9 h9
    have q10 : ¬ x.toInt = 10 := key 10 h10
    have q11 : ¬ x.toInt = 11 := key 11 h11
    have q12 : ¬ x.toInt = 12 := key 12 h12
    have q13 : ¬ x.toInt = 13 := key 13 h13
    have q14 : ¬ x.toInt = 14 := key 14 h14
    have q15 : ¬ x.toInt = 15 := key 15 h15
    omega
theorem ga_out16 {x : Int32} (h0 : ¬ x = 0) (h1 : ¬ x = 1) (h2 : ¬ x = 2) (h3 : ¬ x = 3) (h4 : ¬ x = 4) (h5 : ¬ x = 5) (h6 : ¬ x = 6) (h7 : ¬ x = 7) (h8 : ¬ x = 8) (h9 : ¬ x = 9) (h10 : ¬ x = 10) (h11 : ¬ x = 11) (h12 : ¬ x = 12) (h13 : ¬ x = 13) (h14 : ¬ x = 14) (h15 : ¬ x = 15) (h16 : ¬ x = 16) : x.toInt < 0 ∨ 16 < x.toInt := by
  by_cases h : x.toInt < 0
  · exact Or.inl h
  · right
    refine Int.not_le.mp (fun hle => ?_)
    have key : ∀ k : Int32, ¬ x = k → ¬ x.toInt = k.toInt := fun k hk q => hk (Int32.toInt_inj.mp q)
    have q0 : ¬ x.toInt = 0 := key 0 h0
    have q1 : ¬ x.toInt = 1 := key 1 h1
    have q2 : ¬ x.toInt = 2 := key 2 h2
    have q3 : ¬ x.toInt = 3 := key 3 h3
    have q4 : ¬ x.toInt = 4 := key 4 h4
    have q5 : ¬ x.toInt = 5 := key 5 h5
    have q6 : ¬ x.toInt = 6 := key 6 h6
    have q7 : ¬ x.toInt = 7 := key 7 h7
    have q8 : ¬ x.toInt = 8 := key 8 h8
    have q9 : ¬ x.toInt = 9 := key 9 h9
    have q10 : ¬ x.toInt = 10 := key 10 h10
    have q11 : ¬ x.toInt = 11 := key 11 h11
    have q12 : ¬ x.toInt = 12 := key 12 h12
    have q13 : ¬ x.toInt = 13 := key 13 h13
    have q14 : ¬ x.toInt = 14 := key 14 h14
    have q15 : ¬ x.toInt = 15 := key 15 h15
    have q16 : ¬ x.toInt = 16 := key 16 h16
    omega
end
section
/-! NAMES: classes, fields, methods; printed by a program of mine (wip/gen) out of the claim's Statement -/
def T_E : u_T := fun k => match k with
  | 0 => ("LevelStore$Entries", "keys", "[I", true)
  | 1 => ("LevelStore$Entries", "numbers", "[I", true)
  | 2 => ("LevelStore$Entries", "values", "[I", true)
  | 3 => ("LevelStore$Entries", "gone", "[Z", true)
  | 4 => ("LevelStore$Entries", "spoiled", "[Z", true)
  | _ => ("LevelStore$Entries", "size", "I", false)
def ty_E : Nat → FieldType := fun k => match k with
  | 0 => .array .int
  | 1 => .array .int
  | 2 => .array .int
  | 3 => .array .boolean
  | 4 => .array .boolean
  | _ => .int
theorem nm_E : ∀ a, a < 6 → ∀ b, b < 6 → a ≠ b → (T_E a).2.1 ≠ (T_E b).2.1 := by decide +kernel
theorem ty_E_ok : ∀ k, k < 6 → parseFieldDescriptor (T_E k).2.2.1 = some (ty_E k) := by decide +kernel
theorem df_E : ∀ j, j < 6 → defaultValue (ty_E j) = vp_V [.null, .null, .null, .null, .null, .int 0] j := by decide +kernel
def T_V : u_T := fun k => match k with
  | 0 => ("LevelStore$Levels", "shelf", "LLevelStore$Shelf;", false)
  | 1 => ("LevelStore$Levels", "spare", "LLevelStore$Shelf;", false)
  | 2 => ("LevelStore$Levels", "sorter", "LLevelStore$Sorter;", true)
  | 3 => ("LevelStore$Levels", "merged", "LLevelStore$Entries;", true)
  | 4 => ("LevelStore$Levels", "joining", "[Z", true)
  | 5 => ("LevelStore$Levels", "pointers", "[I", true)
  | 6 => ("LevelStore$Levels", "stuck", "Z", false)
  | 7 => ("LevelStore$Levels", "made", "I", false)
  | _ => ("LevelStore$Levels", "dropped", "I", false)
def ty_V : Nat → FieldType := fun k => match k with
  | 0 => .object "LevelStore$Shelf"
  | 1 => .object "LevelStore$Shelf"
  | 2 => .object "LevelStore$Sorter"
  | 3 => .object "LevelStore$Entries"
  | 4 => .array .boolean
  | 5 => .array .int
  | 6 => .boolean
  | 7 => .int
  | _ => .int
theorem nm_V : ∀ a, a < 9 → ∀ b, b < 9 → a ≠ b → (T_V a).2.1 ≠ (T_V b).2.1 := by decide +kernel
theorem ty_V_ok : ∀ k, k < 9 → parseFieldDescriptor (T_V k).2.2.1 = some (ty_V k) := by decide +kernel
theorem df_V : ∀ j, j < 9 → defaultValue (ty_V j) = vp_V [.null, .null, .null, .null, .null, .null, .int 0, .int 0, .int 0] j := by decide +kernel
def T_M : u_T := fun k => match k with
  | 0 => ("LevelStore$Memory", "rows", "LLevelStore$Entries;", true)
  | 1 => ("LevelStore$Memory", "recordEnds", "[I", true)
  | 2 => ("LevelStore$Memory", "records", "I", false)
  | _ => ("LevelStore$Memory", "synced", "I", false)
def ty_M : Nat → FieldType := fun k => match k with
  | 0 => .object "LevelStore$Entries"
  | 1 => .array .int
  | 2 => .int
  | _ => .int
theorem nm_M : ∀ a, a < 4 → ∀ b, b < 4 → a ≠ b → (T_M a).2.1 ≠ (T_M b).2.1 := by decide +kernel
theorem ty_M_ok : ∀ k, k < 4 → parseFieldDescriptor (T_M k).2.2.1 = some (ty_M k) := by decide +kernel
theorem df_M : ∀ j, j < 4 → defaultValue (ty_M j) = vp_V [.null, .null, .int 0, .int 0] j := by decide +kernel
def T_S : u_T := fun k => match k with
  | 0 => ("LevelStore$Shelf", "rows", "LLevelStore$Entries;", true)
  | 1 => ("LevelStore$Shelf", "numbers", "[I", true)
  | 2 => ("LevelStore$Shelf", "levelOf", "[I", true)
  | 3 => ("LevelStore$Shelf", "bounds", "[I", true)
  | _ => ("LevelStore$Shelf", "tables", "I", false)
def ty_S : Nat → FieldType := fun k => match k with
  | 0 => .object "LevelStore$Entries"
  | 1 => .array .int
  | 2 => .array .int
  | 3 => .array .int
  | _ => .int
theorem nm_S : ∀ a, a < 5 → ∀ b, b < 5 → a ≠ b → (T_S a).2.1 ≠ (T_S b).2.1 := by decide +kernel
theorem ty_S_ok : ∀ k, k < 5 → parseFieldDescriptor (T_S k).2.2.1 = some (ty_S k) := by decide +kernel
theorem df_S : ∀ j, j < 5 → defaultValue (ty_S j) = vp_V [.null, .null, .null, .null, .int 0] j := by decide +kernel
def T_O : u_T := fun k => match k with
  | 0 => ("LevelStore$Sorter", "loose", "LLevelStore$Entries;", true)
  | 1 => ("LevelStore$Sorter", "places", "[I", true)
  | _ => ("LevelStore$Sorter", "order", "[I", true)
def ty_O : Nat → FieldType := fun k => match k with
  | 0 => .object "LevelStore$Entries"
  | 1 => .array .int
  | _ => .array .int
theorem nm_O : ∀ a, a < 3 → ∀ b, b < 3 → a ≠ b → (T_O a).2.1 ≠ (T_O b).2.1 := by decide +kernel
theorem ty_O_ok : ∀ k, k < 3 → parseFieldDescriptor (T_O k).2.2.1 = some (ty_O k) := by decide +kernel
theorem df_O : ∀ j, j < 3 → defaultValue (ty_O j) = vp_V [.null, .null, .null] j := by decide +kernel
def T_L : u_T := fun k => match k with
  | 0 => ("LevelStore", "memory", "LLevelStore$Memory;", true)
  | 1 => ("LevelStore", "levels", "LLevelStore$Levels;", true)
  | 2 => ("LevelStore", "pending", "LLevelStore$Entries;", true)
  | 3 => ("LevelStore", "snapshots", "[I", true)
  | 4 => ("LevelStore", "batchOpen", "Z", false)
  | 5 => ("LevelStore", "latest", "I", false)
  | 6 => ("LevelStore", "reads", "I", false)
  | 7 => ("LevelStore", "misses", "I", false)
  | _ => ("LevelStore", "gets", "I", false)
def ty_L : Nat → FieldType := fun k => match k with
  | 0 => .object "LevelStore$Memory"
  | 1 => .object "LevelStore$Levels"
  | 2 => .object "LevelStore$Entries"
  | 3 => .array .int
  | 4 => .boolean
  | 5 => .int
  | 6 => .int
  | 7 => .int
  | _ => .int
theorem nm_L : ∀ a, a < 9 → ∀ b, b < 9 → a ≠ b → (T_L a).2.1 ≠ (T_L b).2.1 := by decide +kernel
theorem ty_L_ok : ∀ k, k < 9 → parseFieldDescriptor (T_L k).2.2.1 = some (ty_L k) := by decide +kernel
theorem df_L : ∀ j, j < 9 → defaultValue (ty_L j) = vp_V [.null, .null, .null, .null, .int 0, .int 0, .int 0, .int 0, .int 0] j := by decide +kernel
def T_R : u_T := fun k => match k with
  | 0 => ("LevelStoreModel", "thrown", "I", false)
  | 1 => ("LevelStoreModel", "key", "[I", true)
  | 2 => ("LevelStoreModel", "number", "[I", true)
  | 3 => ("LevelStoreModel", "value", "[I", true)
  | 4 => ("LevelStoreModel", "gone", "[Z", true)
  | 5 => ("LevelStoreModel", "entries", "I", false)
  | 6 => ("LevelStoreModel", "tNumber", "[I", true)
  | 7 => ("LevelStoreModel", "tLevel", "[I", true)
  | 8 => ("LevelStoreModel", "tSize", "[I", true)
  | 9 => ("LevelStoreModel", "tSpoiled", "[J", true)
  | 10 => ("LevelStoreModel", "tables", "I", false)
  | 11 => ("LevelStoreModel", "mKey", "[I", true)
  | 12 => ("LevelStoreModel", "mNumber", "[I", true)
  | 13 => ("LevelStoreModel", "mValue", "[I", true)
  | 14 => ("LevelStoreModel", "mGone", "[Z", true)
  | 15 => ("LevelStoreModel", "memory", "I", false)
  | 16 => ("LevelStoreModel", "recordSize", "[I", true)
  | 17 => ("LevelStoreModel", "records", "I", false)
  | 18 => ("LevelStoreModel", "synced", "I", false)
  | 19 => ("LevelStoreModel", "bKey", "[I", true)
  | 20 => ("LevelStoreModel", "bValue", "[I", true)
  | 21 => ("LevelStoreModel", "bGone", "[Z", true)
  | 22 => ("LevelStoreModel", "batch", "I", false)
  | 23 => ("LevelStoreModel", "snapshots", "[I", true)
  | 24 => ("LevelStoreModel", "pointer", "[I", true)
  | 25 => ("LevelStoreModel", "latest", "I", false)
  | 26 => ("LevelStoreModel", "stuck", "Z", false)
  | 27 => ("LevelStoreModel", "reads", "I", false)
  | 28 => ("LevelStoreModel", "misses", "I", false)
  | 29 => ("LevelStoreModel", "gets", "I", false)
  | 30 => ("LevelStoreModel", "made", "I", false)
  | 31 => ("LevelStoreModel", "dropped", "I", false)
  | 32 => ("LevelStoreModel", "wKey", "[I", true)
  | 33 => ("LevelStoreModel", "wNumber", "[I", true)
  | 34 => ("LevelStoreModel", "wValue", "[I", true)
  | 35 => ("LevelStoreModel", "wGone", "[Z", true)
  | 36 => ("LevelStoreModel", "work", "I", false)
  | 37 => ("LevelStoreModel", "goes", "[Z", true)
  | _ => ("LevelStoreModel", "found", "I", false)
def ty_R : Nat → FieldType := fun k => match k with
  | 0 => .int
  | 1 => .array .int
  | 2 => .array .int
  | 3 => .array .int
  | 4 => .array .boolean
  | 5 => .int
  | 6 => .array .int
  | 7 => .array .int
  | 8 => .array .int
  | 9 => .array .long
  | 10 => .int
  | 11 => .array .int
  | 12 => .array .int
  | 13 => .array .int
  | 14 => .array .boolean
  | 15 => .int
  | 16 => .array .int
  | 17 => .int
  | 18 => .int
  | 19 => .array .int
  | 20 => .array .int
  | 21 => .array .boolean
  | 22 => .int
  | 23 => .array .int
  | 24 => .array .int
  | 25 => .int
  | 26 => .boolean
  | 27 => .int
  | 28 => .int
  | 29 => .int
  | 30 => .int
  | 31 => .int
  | 32 => .array .int
  | 33 => .array .int
  | 34 => .array .int
  | 35 => .array .boolean
  | 36 => .int
  | 37 => .array .boolean
  | _ => .int
theorem nm_R : ∀ a, a < 39 → ∀ b, b < 39 → a ≠ b → (T_R a).2.1 ≠ (T_R b).2.1 := by decide +kernel
theorem ty_R_ok : ∀ k, k < 39 → parseFieldDescriptor (T_R k).2.2.1 = some (ty_R k) := by decide +kernel
theorem df_R : ∀ j, j < 39 → defaultValue (ty_R j) = vp_V [.int 0, .null, .null, .null, .null, .int 0, .null, .null, .null, .null, .int 0, .null, .null, .null, .null, .int 0, .null, .int 0, .int 0, .null, .null, .null, .int 0, .null, .null, .int 0, .int 0, .int 0, .int 0, .int 0, .int 0, .int 0, .null, .null, .null, .null, .int 0, .null, .int 0] j := by decide +kernel
def gz_cl : List vw_C := [("LevelStore$Entries", T_E, 6), ("LevelStore$Levels", T_V, 9), ("LevelStore$Memory", T_M, 4), ("LevelStore$Shelf", T_S, 5), ("LevelStore$Sorter", T_O, 3), ("LevelStore", T_L, 9), ("LevelStoreModel", T_R, 39)]
def gz_tA (cT : Nat → ClassId) : List (ClassId × FieldType) := [(cT 0, .int), (cT 1, .boolean), (cT 2, .long), (cT 3, .double)]
def gz_xn : Nat → String := fun x => match x with
  | 0 => "java/lang/IllegalArgumentException"
  | 1 => "java/lang/IllegalStateException"
  | 2 => "java/lang/UnsupportedOperationException"
  | 3 => "java/util/NoSuchElementException"
  | 4 => "java/lang/IndexOutOfBoundsException"
  | _ => "java/lang/ArithmeticException"
def gz_ch : List String := ["java/lang/RuntimeException", "java/lang/Exception"]
theorem gz_chf : ∀ n ∈ gz_ch, Bundle.fit n = true := by decide +kernel
/-- the words that stay: a method takes its own code and these -/
def ga_G : List Cond := lw_tbl.filter goodWord
def y_E_init : MethodName := ⟨"LevelStore$Entries", "<init>", "(I)V"⟩
abbrev c_E_init : ByteArray := prog_2_method_1_code
def ws_E_init : List Cond := Cond.code y_E_init c_E_init 2 none :: ga_G
def y_M_init : MethodName := ⟨"LevelStore$Memory", "<init>", "()V"⟩
abbrev c_M_init : ByteArray := prog_4_method_1_code
def ws_M_init : List Cond := Cond.code y_M_init c_M_init 1 none :: ga_G
def y_S_init : MethodName := ⟨"LevelStore$Shelf", "<init>", "()V"⟩
abbrev c_S_init : ByteArray := prog_5_method_1_code
def ws_S_init : List Cond := Cond.code y_S_init c_S_init 1 none :: ga_G
def y_O_init : MethodName := ⟨"LevelStore$Sorter", "<init>", "()V"⟩
abbrev c_O_init : ByteArray := prog_6_method_1_code
def ws_O_init : List Cond := Cond.code y_O_init c_O_init 1 none :: ga_G
def y_V_init : MethodName := ⟨"LevelStore$Levels", "<init>", "()V"⟩
abbrev c_V_init : ByteArray := prog_3_method_1_code
def ws_V_init : List Cond := Cond.code y_V_init c_V_init 1 none :: ga_G
def y_J_fill : MethodName := ⟨"java/util/Arrays", "fill", "([II)V"⟩
abbrev c_J_fill : ByteArray := prog_18_method_103_code
def ws_J_fill : List Cond := Cond.code y_J_fill c_J_fill 4 none :: ga_G
def y_L_init : MethodName := ⟨"LevelStore", "<init>", "()V"⟩
abbrev c_L_init : ByteArray := prog_1_method_1_code
def ws_L_init : List Cond := Cond.code y_L_init c_L_init 1 none :: ga_G
def y_L_sync : MethodName := ⟨"LevelStore", "sync", "()I"⟩
abbrev c_L_sync : ByteArray := prog_1_method_6_code
def ws_L_sync : List Cond := Cond.code y_L_sync c_L_sync 1 (some .int) :: ga_G
def y_S_clear : MethodName := ⟨"LevelStore$Shelf", "clear", "()V"⟩
abbrev c_S_clear : ByteArray := prog_5_method_2_code
def ws_S_clear : List Cond := Cond.code y_S_clear c_S_clear 1 none :: ga_G
def y_E_addFrom : MethodName := ⟨"LevelStore$Entries", "addFrom", "(LLevelStore$Entries;I)V"⟩
abbrev c_E_addFrom : ByteArray := prog_2_method_3_code
def ws_E_addFrom : List Cond := Cond.code y_E_addFrom c_E_addFrom 3 none :: ga_G
def y_S_hasLooseRows : MethodName := ⟨"LevelStore$Shelf", "hasLooseRows", "()Z"⟩
abbrev c_S_hasLooseRows : ByteArray := prog_5_method_3_code
def ws_S_hasLooseRows : List Cond := Cond.code y_S_hasLooseRows c_S_hasLooseRows 1 (some .boolean) :: ga_G
def y_S_endTable : MethodName := ⟨"LevelStore$Shelf", "endTable", "(II)V"⟩
abbrev c_S_endTable : ByteArray := prog_5_method_4_code
def ws_S_endTable : List Cond := Cond.code y_S_endTable c_S_endTable 3 none :: ga_G
def y_V_changeShelf : MethodName := ⟨"LevelStore$Levels", "changeShelf", "()V"⟩
abbrev c_V_changeShelf : ByteArray := prog_3_method_14_code
def ws_V_changeShelf : List Cond := Cond.code y_V_changeShelf c_V_changeShelf 2 none :: ga_G
def y_V_loseSpoiled : MethodName := ⟨"LevelStore$Levels", "loseSpoiled", "()I"⟩
abbrev c_V_loseSpoiled : ByteArray := prog_3_method_4_code
def ws_V_loseSpoiled : List Cond := Cond.code y_V_loseSpoiled c_V_loseSpoiled 3 (some .int) :: ga_G
def y_L_oldest : MethodName := ⟨"LevelStore", "oldest", "()I"⟩
abbrev c_L_oldest : ByteArray := prog_1_method_20_code
def ws_L_oldest : List Cond := Cond.code y_L_oldest c_L_oldest 3 (some .int) :: ga_G
def y_S_tablesOn : MethodName := ⟨"LevelStore$Shelf", "tablesOn", "(I)I"⟩
abbrev c_S_tablesOn : ByteArray := prog_5_method_19_code
def ws_S_tablesOn : List Cond := Cond.code y_S_tablesOn c_S_tablesOn 4 (some .int) :: ga_G
def y_V_fullLevel : MethodName := ⟨"LevelStore$Levels", "fullLevel", "()I"⟩
abbrev c_V_fullLevel : ByteArray := prog_3_method_6_code
def ws_V_fullLevel : List Cond := Cond.code y_V_fullLevel c_V_fullLevel 2 (some .int) :: ga_G
def y_S_leastKey : MethodName := ⟨"LevelStore$Shelf", "leastKey", "(I)I"⟩
abbrev c_S_leastKey : ByteArray := prog_5_method_7_code
def ws_S_leastKey : List Cond := Cond.code y_S_leastKey c_S_leastKey 2 (some .int) :: ga_G
def y_S_firstAbove : MethodName := ⟨"LevelStore$Shelf", "firstAbove", "(II)I"⟩
abbrev c_S_firstAbove : ByteArray := prog_5_method_20_code
def ws_S_firstAbove : List Cond := Cond.code y_S_firstAbove c_S_firstAbove 5 (some .int) :: ga_G
def y_S_greatestKey : MethodName := ⟨"LevelStore$Shelf", "greatestKey", "(I)I"⟩
abbrev c_S_greatestKey : ByteArray := prog_5_method_8_code
def ws_S_greatestKey : List Cond := Cond.code y_S_greatestKey c_S_greatestKey 2 (some .int) :: ga_G
def y_S_meets : MethodName := ⟨"LevelStore$Shelf", "meets", "(III)Z"⟩
abbrev c_S_meets : ByteArray := prog_5_method_10_code
def ws_S_meets : List Cond := Cond.code y_S_meets c_S_meets 4 (some .boolean) :: ga_G
def y_S_spoiledBlocksOf : MethodName := ⟨"LevelStore$Shelf", "spoiledBlocksOf", "(I)I"⟩
abbrev c_S_spoiledBlocksOf : ByteArray := prog_5_method_13_code
def ws_S_spoiledBlocksOf : List Cond := Cond.code y_S_spoiledBlocksOf c_S_spoiledBlocksOf 4 (some .int) :: ga_G
def y_O_addSorted : MethodName := ⟨"LevelStore$Sorter", "addSorted", "(LLevelStore$Entries;)V"⟩
abbrev c_O_addSorted : ByteArray := prog_6_method_2_code
def ws_O_addSorted : List Cond := Cond.code y_O_addSorted c_O_addSorted 4 none :: ga_G
def y_V_sortJoining : MethodName := ⟨"LevelStore$Levels", "sortJoining", "()V"⟩
abbrev c_V_sortJoining : ByteArray := prog_3_method_8_code
def ws_V_sortJoining : List Cond := Cond.code y_V_sortJoining c_V_sortJoining 3 none :: ga_G
def y_S_placeBehind : MethodName := ⟨"LevelStore$Shelf", "placeBehind", "(II)I"⟩
abbrev c_S_placeBehind : ByteArray := prog_5_method_21_code
def ws_S_placeBehind : List Cond := Cond.code y_S_placeBehind c_S_placeBehind 4 (some .int) :: ga_G
def y_S_addTable : MethodName := ⟨"LevelStore$Shelf", "addTable", "(LLevelStore$Shelf;I)V"⟩
abbrev c_S_addTable : ByteArray := prog_5_method_5_code
def ws_S_addTable : List Cond := Cond.code y_S_addTable c_S_addTable 4 none :: ga_G
def y_V_addStaying : MethodName := ⟨"LevelStore$Levels", "addStaying", "(II)V"⟩
abbrev c_V_addStaying : ByteArray := prog_3_method_9_code
def ws_V_addStaying : List Cond := Cond.code y_V_addStaying c_V_addStaying 4 none :: ga_G
def y_V_isOutdated : MethodName := ⟨"LevelStore$Levels", "isOutdated", "(II)Z"⟩
abbrev c_V_isOutdated : ByteArray := prog_3_method_11_code
def ws_V_isOutdated : List Cond := Cond.code y_V_isOutdated c_V_isOutdated 3 (some .boolean) :: ga_G
def y_S_spans : MethodName := ⟨"LevelStore$Shelf", "spans", "(II)Z"⟩
abbrev c_S_spans : ByteArray := prog_5_method_9_code
def ws_S_spans : List Cond := Cond.code y_S_spans c_S_spans 3 (some .boolean) :: ga_G
def y_V_isNeedless : MethodName := ⟨"LevelStore$Levels", "isNeedless", "(III)Z"⟩
abbrev c_V_isNeedless : ByteArray := prog_3_method_12_code
def ws_V_isNeedless : List Cond := Cond.code y_V_isNeedless c_V_isNeedless 5 (some .boolean) :: ga_G
def y_V_endNewTable : MethodName := ⟨"LevelStore$Levels", "endNewTable", "(I)V"⟩
abbrev c_V_endNewTable : ByteArray := prog_3_method_13_code
def ws_V_endNewTable : List Cond := Cond.code y_V_endNewTable c_V_endNewTable 2 none :: ga_G
def y_V_addMerged : MethodName := ⟨"LevelStore$Levels", "addMerged", "(II)V"⟩
abbrev c_V_addMerged : ByteArray := prog_3_method_10_code
def ws_V_addMerged : List Cond := Cond.code y_V_addMerged c_V_addMerged 7 none :: ga_G
def y_V_merge : MethodName := ⟨"LevelStore$Levels", "merge", "(IIII)V"⟩
abbrev c_V_merge : ByteArray := prog_3_method_7_code
def ws_V_merge : List Cond := Cond.code y_V_merge c_V_merge 9 none :: ga_G
def y_V_tidy : MethodName := ⟨"LevelStore$Levels", "tidy", "(I)V"⟩
abbrev c_V_tidy : ByteArray := prog_3_method_5_code
def ws_V_tidy : List Cond := Cond.code y_V_tidy c_V_tidy 6 none :: ga_G
def y_L_giveUp : MethodName := ⟨"LevelStore", "giveUp", "()I"⟩
abbrev c_L_giveUp : ByteArray := prog_1_method_14_code
def ws_L_giveUp : List Cond := Cond.code y_L_giveUp c_L_giveUp 2 (some .int) :: ga_G
def y_L_requireWithin : MethodName := ⟨"LevelStore", "requireWithin", "(III)V"⟩
abbrev c_L_requireWithin : ByteArray := prog_1_method_18_code
def ws_L_requireWithin : List Cond := Cond.code y_L_requireWithin c_L_requireWithin 3 none :: ga_G
def y_E_add : MethodName := ⟨"LevelStore$Entries", "add", "(IIIZ)V"⟩
abbrev c_E_add : ByteArray := prog_2_method_2_code
def ws_E_add : List Cond := Cond.code y_E_add c_E_add 5 none :: ga_G
def y_L_addToPending : MethodName := ⟨"LevelStore", "addToPending", "(IIZ)V"⟩
abbrev c_L_addToPending : ByteArray := prog_1_method_21_code
def ws_L_addToPending : List Cond := Cond.code y_L_addToPending c_L_addToPending 4 none :: ga_G
def y_V_isBlocked : MethodName := ⟨"LevelStore$Levels", "isBlocked", "()Z"⟩
abbrev c_V_isBlocked : ByteArray := prog_3_method_2_code
def ws_V_isBlocked : List Cond := Cond.code y_V_isBlocked c_V_isBlocked 1 (some .boolean) :: ga_G
def y_M_addRecord : MethodName := ⟨"LevelStore$Memory", "addRecord", "(LLevelStore$Entries;I)V"⟩
abbrev c_M_addRecord : ByteArray := prog_4_method_2_code
def ws_M_addRecord : List Cond := Cond.code y_M_addRecord c_M_addRecord 4 none :: ga_G
def y_V_addToLevel0 : MethodName := ⟨"LevelStore$Levels", "addToLevel0", "(LLevelStore$Entries;)V"⟩
abbrev c_V_addToLevel0 : ByteArray := prog_3_method_3_code
def ws_V_addToLevel0 : List Cond := Cond.code y_V_addToLevel0 c_V_addToLevel0 3 none :: ga_G
def y_M_clear : MethodName := ⟨"LevelStore$Memory", "clear", "()V"⟩
abbrev c_M_clear : ByteArray := prog_4_method_3_code
def ws_M_clear : List Cond := Cond.code y_M_clear c_M_clear 1 none :: ga_G
def y_L_moveMemoryToLevel0 : MethodName := ⟨"LevelStore", "moveMemoryToLevel0", "()V"⟩
abbrev c_L_moveMemoryToLevel0 : ByteArray := prog_1_method_23_code
def ws_L_moveMemoryToLevel0 : List Cond := Cond.code y_L_moveMemoryToLevel0 c_L_moveMemoryToLevel0 1 none :: ga_G
def y_L_write : MethodName := ⟨"LevelStore", "write", "()I"⟩
abbrev c_L_write : ByteArray := prog_1_method_22_code
def ws_L_write : List Cond := Cond.code y_L_write c_L_write 2 (some .int) :: ga_G
def y_L_put : MethodName := ⟨"LevelStore", "put", "(II)I"⟩
abbrev c_L_put : ByteArray := prog_1_method_2_code
def ws_L_put : List Cond := Cond.code y_L_put c_L_put 3 (some .int) :: ga_G
def y_W_put : MethodName := ⟨"LevelStoreLaw", "put", "(LLevelStore;II[J)I"⟩
abbrev c_W_put : ByteArray := method_3_code
def ws_W_put : List Cond := Cond.codeWith y_W_put c_W_put 5 (some .int) [(0, 10, 13, 13), (0, 10, 17, 15), (0, 10, 21, 17)] :: ga_G
def y_L_remove : MethodName := ⟨"LevelStore", "remove", "(I)I"⟩
abbrev c_L_remove : ByteArray := prog_1_method_3_code
def ws_L_remove : List Cond := Cond.code y_L_remove c_L_remove 2 (some .int) :: ga_G
def y_W_remove : MethodName := ⟨"LevelStoreLaw", "remove", "(LLevelStore;I[J)I"⟩
abbrev c_W_remove : ByteArray := method_4_code
def ws_W_remove : List Cond := Cond.codeWith y_W_remove c_W_remove 4 (some .int) [(0, 9, 12, 13), (0, 9, 15, 15), (0, 9, 18, 17)] :: ga_G
def y_L_open : MethodName := ⟨"LevelStore", "open", "()I"⟩
abbrev c_L_open : ByteArray := prog_1_method_4_code
def ws_L_open : List Cond := Cond.code y_L_open c_L_open 1 (some .int) :: ga_G
def y_W_open : MethodName := ⟨"LevelStoreLaw", "open", "(LLevelStore;[J)I"⟩
abbrev c_W_open : ByteArray := method_5_code
def ws_W_open : List Cond := Cond.codeWith y_W_open c_W_open 3 (some .int) [(0, 8, 11, 15)] :: ga_G
def y_L_close : MethodName := ⟨"LevelStore", "close", "(Z)I"⟩
abbrev c_L_close : ByteArray := prog_1_method_5_code
def ws_L_close : List Cond := Cond.code y_L_close c_L_close 2 (some .int) :: ga_G
def y_W_close : MethodName := ⟨"LevelStoreLaw", "close", "(LLevelStore;Z[J)I"⟩
abbrev c_W_close : ByteArray := method_6_code
def ws_W_close : List Cond := Cond.codeWith y_W_close c_W_close 4 (some .int) [(0, 9, 12, 15), (0, 9, 15, 17)] :: ga_G
def y_M_loseAllBut : MethodName := ⟨"LevelStore$Memory", "loseAllBut", "(I)V"⟩
abbrev c_M_loseAllBut : ByteArray := prog_4_method_4_code
def ws_M_loseAllBut : List Cond := Cond.code y_M_loseAllBut c_M_loseAllBut 2 none :: ga_G
def y_E_greatestNumber : MethodName := ⟨"LevelStore$Entries", "greatestNumber", "()I"⟩
abbrev c_E_greatestNumber : ByteArray := prog_2_method_4_code
def ws_E_greatestNumber : List Cond := Cond.code y_E_greatestNumber c_E_greatestNumber 3 (some .int) :: ga_G
def y_L_crash : MethodName := ⟨"LevelStore", "crash", "(I)I"⟩
abbrev c_L_crash : ByteArray := prog_1_method_7_code
def ws_L_crash : List Cond := Cond.code y_L_crash c_L_crash 2 (some .int) :: ga_G
def y_W_crash : MethodName := ⟨"LevelStoreLaw", "crash", "(LLevelStore;I[J)I"⟩
abbrev c_W_crash : ByteArray := method_7_code
def ws_W_crash : List Cond := Cond.codeWith y_W_crash c_W_crash 4 (some .int) [(0, 9, 12, 13)] :: ga_G
def y_L_flush : MethodName := ⟨"LevelStore", "flush", "()I"⟩
abbrev c_L_flush : ByteArray := prog_1_method_8_code
def ws_L_flush : List Cond := Cond.code y_L_flush c_L_flush 1 (some .int) :: ga_G
def y_W_flush : MethodName := ⟨"LevelStoreLaw", "flush", "(LLevelStore;[J)I"⟩
abbrev c_W_flush : ByteArray := method_8_code
def ws_W_flush : List Cond := Cond.codeWith y_W_flush c_W_flush 3 (some .int) [(0, 8, 11, 15), (0, 8, 14, 17)] :: ga_G
def y_L_numberSeenBy : MethodName := ⟨"LevelStore", "numberSeenBy", "(I)I"⟩
abbrev c_L_numberSeenBy : ByteArray := prog_1_method_19_code
def ws_L_numberSeenBy : List Cond := Cond.code y_L_numberSeenBy c_L_numberSeenBy 2 (some .int) :: ga_G
def y_M_rowOf : MethodName := ⟨"LevelStore$Memory", "rowOf", "(II)I"⟩
abbrev c_M_rowOf : ByteArray := prog_4_method_5_code
def ws_M_rowOf : List Cond := Cond.code y_M_rowOf c_M_rowOf 4 (some .int) :: ga_G
def y_L_valueIn : MethodName := ⟨"LevelStore", "valueIn", "(LLevelStore$Entries;I)I"⟩
abbrev c_L_valueIn : ByteArray := prog_1_method_24_code
def ws_L_valueIn : List Cond := Cond.code y_L_valueIn c_L_valueIn 2 (some .int) :: ga_G
def y_S_firstMark : MethodName := ⟨"LevelStore$Shelf", "firstMark", "(I)I"⟩
abbrev c_S_firstMark : ByteArray := prog_5_method_17_code
def ws_S_firstMark : List Cond := Cond.code y_S_firstMark c_S_firstMark 1 (some .int) :: ga_G
def y_S_secondMark : MethodName := ⟨"LevelStore$Shelf", "secondMark", "(I)I"⟩
abbrev c_S_secondMark : ByteArray := prog_5_method_18_code
def ws_S_secondMark : List Cond := Cond.code y_S_secondMark c_S_secondMark 1 (some .int) :: ga_G
def y_S_passes : MethodName := ⟨"LevelStore$Shelf", "passes", "(II)Z"⟩
abbrev c_S_passes : ByteArray := prog_5_method_16_code
def ws_S_passes : List Cond := Cond.code y_S_passes c_S_passes 10 (some .boolean) :: ga_G
def y_S_firstBlockFor : MethodName := ⟨"LevelStore$Shelf", "firstBlockFor", "(II)I"⟩
abbrev c_S_firstBlockFor : ByteArray := prog_5_method_15_code
def ws_S_firstBlockFor : List Cond := Cond.code y_S_firstBlockFor c_S_firstBlockFor 4 (some .int) :: ga_G
def y_E_rowOf : MethodName := ⟨"LevelStore$Entries", "rowOf", "(IIII)I"⟩
abbrev c_E_rowOf : ByteArray := prog_2_method_5_code
def ws_E_rowOf : List Cond := Cond.code y_E_rowOf c_E_rowOf 6 (some .int) :: ga_G
def y_L_lookInTable : MethodName := ⟨"LevelStore", "lookInTable", "(III)I"⟩
abbrev c_L_lookInTable : ByteArray := prog_1_method_26_code
def ws_L_lookInTable : List Cond := Cond.code y_L_lookInTable c_L_lookInTable 9 (some .int) :: ga_G
def y_L_lookInTables : MethodName := ⟨"LevelStore", "lookInTables", "(II)I"⟩
abbrev c_L_lookInTables : ByteArray := prog_1_method_25_code
def ws_L_lookInTables : List Cond := Cond.code y_L_lookInTables c_L_lookInTables 5 (some .int) :: ga_G
def y_L_get : MethodName := ⟨"LevelStore", "get", "(II)I"⟩
abbrev c_L_get : ByteArray := prog_1_method_9_code
def ws_L_get : List Cond := Cond.code y_L_get c_L_get 5 (some .int) :: ga_G
def y_W_get : MethodName := ⟨"LevelStoreLaw", "get", "(LLevelStore;II[J)I"⟩
abbrev c_W_get : ByteArray := method_9_code
def ws_W_get : List Cond := Cond.codeWith y_W_get c_W_get 5 (some .int) [(0, 10, 13, 13), (0, 10, 17, 15), (0, 10, 21, 17), (0, 10, 25, 40)] :: ga_G
def y_L_hasValue : MethodName := ⟨"LevelStore", "hasValue", "(II)Z"⟩
abbrev c_L_hasValue : ByteArray := prog_1_method_27_code
def ws_L_hasValue : List Cond := Cond.code y_L_hasValue c_L_hasValue 6 (some .boolean) :: ga_G
def y_L_next : MethodName := ⟨"LevelStore", "next", "(II)I"⟩
abbrev c_L_next : ByteArray := prog_1_method_10_code
def ws_L_next : List Cond := Cond.code y_L_next c_L_next 5 (some .int) :: ga_G
def y_W_next : MethodName := ⟨"LevelStoreLaw", "next", "(LLevelStore;II[J)I"⟩
abbrev c_W_next : ByteArray := method_10_code
def ws_W_next : List Cond := Cond.codeWith y_W_next c_W_next 5 (some .int) [(0, 10, 13, 13), (0, 10, 17, 17), (0, 10, 21, 40)] :: ga_G
def y_L_snapshot : MethodName := ⟨"LevelStore", "snapshot", "()I"⟩
abbrev c_L_snapshot : ByteArray := prog_1_method_11_code
def ws_L_snapshot : List Cond := Cond.code y_L_snapshot c_L_snapshot 2 (some .int) :: ga_G
def y_W_snapshot : MethodName := ⟨"LevelStoreLaw", "snapshot", "(LLevelStore;[J)I"⟩
abbrev c_W_snapshot : ByteArray := method_11_code
def ws_W_snapshot : List Cond := Cond.codeWith y_W_snapshot c_W_snapshot 3 (some .int) [(0, 8, 11, 15)] :: ga_G
def y_L_release : MethodName := ⟨"LevelStore", "release", "(I)I"⟩
abbrev c_L_release : ByteArray := prog_1_method_12_code
def ws_L_release : List Cond := Cond.code y_L_release c_L_release 3 (some .int) :: ga_G
def y_W_release : MethodName := ⟨"LevelStoreLaw", "release", "(LLevelStore;I[J)I"⟩
abbrev c_W_release : ByteArray := method_12_code
def ws_W_release : List Cond := Cond.codeWith y_W_release c_W_release 4 (some .int) [(0, 9, 12, 13), (0, 9, 15, 17)] :: ga_G
def y_S_sizeOf : MethodName := ⟨"LevelStore$Shelf", "sizeOf", "(I)I"⟩
abbrev c_S_sizeOf : ByteArray := prog_5_method_6_code
def ws_S_sizeOf : List Cond := Cond.code y_S_sizeOf c_S_sizeOf 2 (some .int) :: ga_G
def y_S_blocksOf : MethodName := ⟨"LevelStore$Shelf", "blocksOf", "(I)I"⟩
abbrev c_S_blocksOf : ByteArray := prog_5_method_12_code
def ws_S_blocksOf : List Cond := Cond.code y_S_blocksOf c_S_blocksOf 2 (some .int) :: ga_G
def y_S_spoilBlock : MethodName := ⟨"LevelStore$Shelf", "spoilBlock", "(II)I"⟩
abbrev c_S_spoilBlock : ByteArray := prog_5_method_14_code
def ws_S_spoilBlock : List Cond := Cond.code y_S_spoilBlock c_S_spoilBlock 6 (some .int) :: ga_G
def y_L_spoil : MethodName := ⟨"LevelStore", "spoil", "(II)I"⟩
abbrev c_L_spoil : ByteArray := prog_1_method_13_code
def ws_L_spoil : List Cond := Cond.code y_L_spoil c_L_spoil 3 (some .int) :: ga_G
def y_W_spoil : MethodName := ⟨"LevelStoreLaw", "spoil", "(LLevelStore;II[J)I"⟩
abbrev c_W_spoil : ByteArray := method_13_code
def ws_W_spoil : List Cond := Cond.codeWith y_W_spoil c_W_spoil 5 (some .int) [(0, 10, 13, 13), (0, 10, 17, 54)] :: ga_G
def y_L_effort : MethodName := ⟨"LevelStore", "effort", "()D"⟩
abbrev c_L_effort : ByteArray := prog_1_method_15_code
def ws_L_effort : List Cond := Cond.code y_L_effort c_L_effort 1 (some .double) :: ga_G
def y_W_effort : MethodName := ⟨"LevelStoreLaw", "effort", "(LLevelStore;[D)I"⟩
abbrev c_W_effort : ByteArray := method_14_code
def ws_W_effort : List Cond := Cond.codeWith y_W_effort c_W_effort 3 (some .int) [(0, 7, 10, 60)] :: ga_G
def y_S_entryNumber : MethodName := ⟨"LevelStore$Shelf", "entryNumber", "(II)I"⟩
abbrev c_S_entryNumber : ByteArray := prog_5_method_11_code
def ws_S_entryNumber : List Cond := Cond.code y_S_entryNumber c_S_entryNumber 3 (some .int) :: ga_G
def y_L_table : MethodName := ⟨"LevelStore", "table", "(II)I"⟩
abbrev c_L_table : ByteArray := prog_1_method_16_code
def ws_L_table : List Cond := Cond.code y_L_table c_L_table 4 (some .int) :: ga_G
def y_W_table : MethodName := ⟨"LevelStoreLaw", "table", "(LLevelStore;II[J)I"⟩
abbrev c_W_table : ByteArray := method_15_code
def ws_W_table : List Cond := Cond.codeWith y_W_table c_W_table 5 (some .int) [(0, 10, 13, 13), (0, 10, 17, 54)] :: ga_G
def y_L_count : MethodName := ⟨"LevelStore", "count", "(I)I"⟩
abbrev c_L_count : ByteArray := prog_1_method_17_code
def ws_L_count : List Cond := Cond.code y_L_count c_L_count 2 (some .int) :: ga_G
def y_W_count : MethodName := ⟨"LevelStoreLaw", "count", "(LLevelStore;I[J)I"⟩
abbrev c_W_count : ByteArray := method_16_code
def ws_W_count : List Cond := Cond.codeWith y_W_count c_W_count 4 (some .int) [(0, 9, 12, 13)] :: ga_G
def y_R_init : MethodName := ⟨"LevelStoreModel", "<init>", "()V"⟩
abbrev c_R_init : ByteArray := prog_8_method_1_code
def ws_R_init : List Cond := Cond.code y_R_init c_R_init 1 none :: ga_G
def y_R_thrown : MethodName := ⟨"LevelStoreModel", "thrown", "()I"⟩
abbrev c_R_thrown : ByteArray := prog_8_method_2_code
def ws_R_thrown : List Cond := Cond.code y_R_thrown c_R_thrown 1 (some .int) :: ga_G
def y_R_in : MethodName := ⟨"LevelStoreModel", "in", "(III)Z"⟩
abbrev c_R_in : ByteArray := prog_8_method_4_code
def ws_R_in : List Cond := Cond.code y_R_in c_R_in 3 (some .boolean) :: ga_G
def y_R_raise : MethodName := ⟨"LevelStoreModel", "raise", "(I)I"⟩
abbrev c_R_raise : ByteArray := prog_8_method_3_code
def ws_R_raise : List Cond := Cond.code y_R_raise c_R_raise 2 (some .int) :: ga_G
def y_R_onLevel : MethodName := ⟨"LevelStoreModel", "onLevel", "(I)I"⟩
abbrev c_R_onLevel : ByteArray := prog_8_method_8_code
def ws_R_onLevel : List Cond := Cond.code y_R_onLevel c_R_onLevel 4 (some .int) :: ga_G
def y_R_full : MethodName := ⟨"LevelStoreModel", "full", "(I)Z"⟩
abbrev c_R_full : ByteArray := prog_8_method_24_code
def ws_R_full : List Cond := Cond.code y_R_full c_R_full 2 (some .boolean) :: ga_G
def y_R_remember : MethodName := ⟨"LevelStoreModel", "remember", "(IIZ)V"⟩
abbrev c_R_remember : ByteArray := prog_8_method_23_code
def ws_R_remember : List Cond := Cond.code y_R_remember c_R_remember 4 none :: ga_G
def y_R_copyWork : MethodName := ⟨"LevelStoreModel", "copyWork", "(II)V"⟩
abbrev c_R_copyWork : ByteArray := prog_8_method_14_code
def ws_R_copyWork : List Cond := Cond.code y_R_copyWork c_R_copyWork 3 none :: ga_G
def y_R_enter : MethodName := ⟨"LevelStoreModel", "enter", "(IIIZ)V"⟩
abbrev c_R_enter : ByteArray := prog_8_method_13_code
def ws_R_enter : List Cond := Cond.code y_R_enter c_R_enter 6 none :: ga_G
def y_R_start : MethodName := ⟨"LevelStoreModel", "start", "(I)I"⟩
abbrev c_R_start : ByteArray := prog_8_method_5_code
def ws_R_start : List Cond := Cond.code y_R_start c_R_start 4 (some .int) :: ga_G
def y_R_moveEntry : MethodName := ⟨"LevelStoreModel", "moveEntry", "(II)V"⟩
abbrev c_R_moveEntry : ByteArray := prog_8_method_9_code
def ws_R_moveEntry : List Cond := Cond.code y_R_moveEntry c_R_moveEntry 3 none :: ga_G
def y_R_moveTable : MethodName := ⟨"LevelStoreModel", "moveTable", "(II)V"⟩
abbrev c_R_moveTable : ByteArray := prog_8_method_10_code
def ws_R_moveTable : List Cond := Cond.code y_R_moveTable c_R_moveTable 3 none :: ga_G
def y_R_insert : MethodName := ⟨"LevelStoreModel", "insert", "(IIII)V"⟩
abbrev c_R_insert : ByteArray := prog_8_method_11_code
def ws_R_insert : List Cond := Cond.code y_R_insert c_R_insert 7 none :: ga_G
def y_R_low : MethodName := ⟨"LevelStoreModel", "low", "(I)I"⟩
abbrev c_R_low : ByteArray := prog_8_method_6_code
def ws_R_low : List Cond := Cond.code y_R_low c_R_low 2 (some .int) :: ga_G
def y_R_high : MethodName := ⟨"LevelStoreModel", "high", "(I)I"⟩
abbrev c_R_high : ByteArray := prog_8_method_7_code
def ws_R_high : List Cond := Cond.code y_R_high c_R_high 2 (some .int) :: ga_G
def y_R_oldest : MethodName := ⟨"LevelStoreModel", "oldest", "()I"⟩
abbrev c_R_oldest : ByteArray := prog_8_method_15_code
def ws_R_oldest : List Cond := Cond.code y_R_oldest c_R_oldest 3 (some .int) :: ga_G
def y_R_deeper : MethodName := ⟨"LevelStoreModel", "deeper", "(II)Z"⟩
abbrev c_R_deeper : ByteArray := prog_8_method_16_code
def ws_R_deeper : List Cond := Cond.code y_R_deeper c_R_deeper 4 (some .boolean) :: ga_G
def y_R_dropAll : MethodName := ⟨"LevelStoreModel", "dropAll", "(I)V"⟩
abbrev c_R_dropAll : ByteArray := prog_8_method_17_code
def ws_R_dropAll : List Cond := Cond.code y_R_dropAll c_R_dropAll 8 none :: ga_G
def y_R_takeOut : MethodName := ⟨"LevelStoreModel", "takeOut", "(I)V"⟩
abbrev c_R_takeOut : ByteArray := prog_8_method_12_code
def ws_R_takeOut : List Cond := Cond.code y_R_takeOut c_R_takeOut 5 none :: ga_G
def y_R_place : MethodName := ⟨"LevelStoreModel", "place", "(I)V"⟩
abbrev c_R_place : ByteArray := prog_8_method_19_code
def ws_R_place : List Cond := Cond.code y_R_place c_R_place 6 none :: ga_G
def y_R_merge : MethodName := ⟨"LevelStoreModel", "merge", "(I)Z"⟩
abbrev c_R_merge : ByteArray := prog_8_method_18_code
def ws_R_merge : List Cond := Cond.code y_R_merge c_R_merge 7 (some .boolean) :: ga_G
def y_R_pick : MethodName := ⟨"LevelStoreModel", "pick", "(I)I"⟩
abbrev c_R_pick : ByteArray := prog_8_method_20_code
def ws_R_pick : List Cond := Cond.code y_R_pick c_R_pick 5 (some .int) :: ga_G
def y_R_tidy : MethodName := ⟨"LevelStoreModel", "tidy", "()V"⟩
abbrev c_R_tidy : ByteArray := prog_8_method_21_code
def ws_R_tidy : List Cond := Cond.code y_R_tidy c_R_tidy 4 none :: ga_G
def y_R_flushAll : MethodName := ⟨"LevelStoreModel", "flushAll", "()V"⟩
abbrev c_R_flushAll : ByteArray := prog_8_method_22_code
def ws_R_flushAll : List Cond := Cond.code y_R_flushAll c_R_flushAll 2 none :: ga_G
def y_R_logged : MethodName := ⟨"LevelStoreModel", "logged", "(I)V"⟩
abbrev c_R_logged : ByteArray := prog_8_method_25_code
def ws_R_logged : List Cond := Cond.code y_R_logged c_R_logged 2 none :: ga_G
def y_R_write : MethodName := ⟨"LevelStoreModel", "write", "(IIZ)I"⟩
abbrev c_R_write : ByteArray := prog_8_method_26_code
def ws_R_write : List Cond := Cond.code y_R_write c_R_write 5 (some .int) :: ga_G
def y_R_put : MethodName := ⟨"LevelStoreModel", "put", "(II)I"⟩
abbrev c_R_put : ByteArray := prog_8_method_27_code
def ws_R_put : List Cond := Cond.code y_R_put c_R_put 3 (some .int) :: ga_G
def y_R_remove : MethodName := ⟨"LevelStoreModel", "remove", "(I)I"⟩
abbrev c_R_remove : ByteArray := prog_8_method_28_code
def ws_R_remove : List Cond := Cond.code y_R_remove c_R_remove 2 (some .int) :: ga_G
def y_R_open : MethodName := ⟨"LevelStoreModel", "open", "()I"⟩
abbrev c_R_open : ByteArray := prog_8_method_29_code
def ws_R_open : List Cond := Cond.code y_R_open c_R_open 1 (some .int) :: ga_G
def y_R_close : MethodName := ⟨"LevelStoreModel", "close", "(Z)I"⟩
abbrev c_R_close : ByteArray := prog_8_method_30_code
def ws_R_close : List Cond := Cond.code y_R_close c_R_close 3 (some .int) :: ga_G
def y_R_sync : MethodName := ⟨"LevelStoreModel", "sync", "()I"⟩
abbrev c_R_sync : ByteArray := prog_8_method_31_code
def ws_R_sync : List Cond := Cond.code y_R_sync c_R_sync 1 (some .int) :: ga_G
def y_R_crash : MethodName := ⟨"LevelStoreModel", "crash", "(I)I"⟩
abbrev c_R_crash : ByteArray := prog_8_method_32_code
def ws_R_crash : List Cond := Cond.code y_R_crash c_R_crash 3 (some .int) :: ga_G
def y_R_flush : MethodName := ⟨"LevelStoreModel", "flush", "()I"⟩
abbrev c_R_flush : ByteArray := prog_8_method_33_code
def ws_R_flush : List Cond := Cond.code y_R_flush c_R_flush 1 (some .int) :: ga_G
def y_R_upTo : MethodName := ⟨"LevelStoreModel", "upTo", "(I)I"⟩
abbrev c_R_upTo : ByteArray := prog_8_method_42_code
def ws_R_upTo : List Cond := Cond.code y_R_upTo c_R_upTo 2 (some .int) :: ga_G
def y_R_lookInMemory : MethodName := ⟨"LevelStoreModel", "lookInMemory", "(II)V"⟩
abbrev c_R_lookInMemory : ByteArray := prog_8_method_37_code
def ws_R_lookInMemory : List Cond := Cond.code y_R_lookInMemory c_R_lookInMemory 4 none :: ga_G
def y_R_first : MethodName := ⟨"LevelStoreModel", "first", "(I)I"⟩
abbrev c_R_first : ByteArray := prog_8_method_34_code
def ws_R_first : List Cond := Cond.code y_R_first c_R_first 1 (some .int) :: ga_G
def y_R_second : MethodName := ⟨"LevelStoreModel", "second", "(I)I"⟩
abbrev c_R_second : ByteArray := prog_8_method_35_code
def ws_R_second : List Cond := Cond.code y_R_second c_R_second 1 (some .int) :: ga_G
def y_R_passes : MethodName := ⟨"LevelStoreModel", "passes", "(II)Z"⟩
abbrev c_R_passes : ByteArray := prog_8_method_36_code
def ws_R_passes : List Cond := Cond.code y_R_passes c_R_passes 9 (some .boolean) :: ga_G
def y_R_readBlocks : MethodName := ⟨"LevelStoreModel", "readBlocks", "(III)I"⟩
abbrev c_R_readBlocks : ByteArray := prog_8_method_38_code
def ws_R_readBlocks : List Cond := Cond.code y_R_readBlocks c_R_readBlocks 9 (some .int) :: ga_G
def y_R_look : MethodName := ⟨"LevelStoreModel", "look", "(II)V"⟩
abbrev c_R_look : ByteArray := prog_8_method_39_code
def ws_R_look : List Cond := Cond.code y_R_look c_R_look 4 none :: ga_G
def y_R_foundGone : MethodName := ⟨"LevelStoreModel", "foundGone", "()Z"⟩
abbrev c_R_foundGone : ByteArray := prog_8_method_41_code
def ws_R_foundGone : List Cond := Cond.code y_R_foundGone c_R_foundGone 1 (some .boolean) :: ga_G
def y_R_get : MethodName := ⟨"LevelStoreModel", "get", "(II)I"⟩
abbrev c_R_get : ByteArray := prog_8_method_43_code
def ws_R_get : List Cond := Cond.code y_R_get c_R_get 3 (some .int) :: ga_G
def y_R_lookThrough : MethodName := ⟨"LevelStoreModel", "lookThrough", "(II)V"⟩
abbrev c_R_lookThrough : ByteArray := prog_8_method_40_code
def ws_R_lookThrough : List Cond := Cond.code y_R_lookThrough c_R_lookThrough 4 none :: ga_G
def y_R_next : MethodName := ⟨"LevelStoreModel", "next", "(II)I"⟩
abbrev c_R_next : ByteArray := prog_8_method_44_code
def ws_R_next : List Cond := Cond.code y_R_next c_R_next 4 (some .int) :: ga_G
def y_R_snapshot : MethodName := ⟨"LevelStoreModel", "snapshot", "()I"⟩
abbrev c_R_snapshot : ByteArray := prog_8_method_45_code
def ws_R_snapshot : List Cond := Cond.code y_R_snapshot c_R_snapshot 2 (some .int) :: ga_G
def y_R_release : MethodName := ⟨"LevelStoreModel", "release", "(I)I"⟩
abbrev c_R_release : ByteArray := prog_8_method_46_code
def ws_R_release : List Cond := Cond.code y_R_release c_R_release 3 (some .int) :: ga_G
def y_R_blockSize : MethodName := ⟨"LevelStoreModel", "blockSize", "(II)I"⟩
abbrev c_R_blockSize : ByteArray := prog_8_method_47_code
def ws_R_blockSize : List Cond := Cond.code y_R_blockSize c_R_blockSize 3 (some .int) :: ga_G
def y_R_spoil : MethodName := ⟨"LevelStoreModel", "spoil", "(II)I"⟩
abbrev c_R_spoil : ByteArray := prog_8_method_48_code
def ws_R_spoil : List Cond := Cond.code y_R_spoil c_R_spoil 3 (some .int) :: ga_G
def y_R_lose : MethodName := ⟨"LevelStoreModel", "lose", "(I)I"⟩
abbrev c_R_lose : ByteArray := prog_8_method_49_code
def ws_R_lose : List Cond := Cond.code y_R_lose c_R_lose 6 (some .int) :: ga_G
def y_R_giveUp : MethodName := ⟨"LevelStoreModel", "giveUp", "()I"⟩
abbrev c_R_giveUp : ByteArray := prog_8_method_50_code
def ws_R_giveUp : List Cond := Cond.code y_R_giveUp c_R_giveUp 3 (some .int) :: ga_G
def y_R_effort : MethodName := ⟨"LevelStoreModel", "effort", "()D"⟩
abbrev c_R_effort : ByteArray := prog_8_method_51_code
def ws_R_effort : List Cond := Cond.code y_R_effort c_R_effort 1 (some .double) :: ga_G
def y_R_ones : MethodName := ⟨"LevelStoreModel", "ones", "(J)I"⟩
abbrev c_R_ones : ByteArray := prog_8_method_52_code
def ws_R_ones : List Cond := Cond.code y_R_ones c_R_ones 4 (some .int) :: ga_G
def y_R_table : MethodName := ⟨"LevelStoreModel", "table", "(II)I"⟩
abbrev c_R_table : ByteArray := prog_8_method_53_code
def ws_R_table : List Cond := Cond.code y_R_table c_R_table 3 (some .int) :: ga_G
def y_R_count : MethodName := ⟨"LevelStoreModel", "count", "(I)I"⟩
abbrev c_R_count : ByteArray := prog_8_method_54_code
def ws_R_count : List Cond := Cond.code y_R_count c_R_count 2 (some .int) :: ga_G
theorem gz_mG {w : Cond} {i : Nat} (h : lw_tbl[i]? = some w) (hg : goodWord w = true) : w ∈ ga_G := List.mem_filter.mpr ⟨List.mem_of_getElem? h, hg⟩
theorem gz_good {c0 w : Cond} (h : w ∈ ga_G) : w ∈ c0 :: ga_G ∧ ((w.onTables && w.keeps) = true ∨ ∃ ty, w = .arrayClass ty) := ⟨List.mem_cons_of_mem _ h, good_of_word (List.mem_filter.mp h).2⟩
theorem gz_goodL {w : Cond} (h : w ∈ ga_G) : w ∈ lw_tbl ∧ ((w.onTables && w.keeps) = true ∨ ∃ ty, w = .arrayClass ty) := ⟨(List.mem_filter.mp h).1, good_of_word (List.mem_filter.mp h).2⟩
theorem gz_gI {c0 ck : Cond} (h5 : ck ∈ ga_G) : GoodIn (c0 :: ga_G) (ck :: ga_G) := fun w hw => by
  rcases List.mem_cons.mp hw with rfl | hw
  · exact gz_good h5
  · exact gz_good hw
theorem gz_gV {c0 ck : Cond} {own C : String} {idx : Nat} {y : MethodName} (h1 : Cond.methodLink own idx y ∈ ga_G) (h2 : Cond.instanceMethod y ∈ ga_G) (h3 : Cond.selects C y y ∈ ga_G) (h4 : Cond.initialized C ∈ ga_G) (h5 : ck ∈ ga_G) : GoodIn (c0 :: ga_G) (wsV own idx C y (ck :: ga_G)) := fun w hw => by
  simp only [wsV, List.cons_append, List.nil_append, List.mem_cons] at hw
  rcases hw with rfl | rfl | rfl | rfl | rfl | hw
  · exact gz_good h1
  · exact gz_good h2
  · exact gz_good h3
  · exact gz_good h4
  · exact gz_good h5
  · exact gz_good hw
theorem gz_gS {c0 ck : Cond} {own : String} {idx : Nat} {y : MethodName} (h1 : Cond.methodLink own idx y ∈ ga_G) (h2 : Cond.static y ∈ ga_G) (h4 : Cond.initialized y.cls ∈ ga_G) (h5 : ck ∈ ga_G) : GoodIn (c0 :: ga_G) (va_wsS own idx y (ck :: ga_G)) := fun w hw => by
  simp only [va_wsS, List.cons_append, List.nil_append, List.mem_cons] at hw
  rcases hw with rfl | rfl | rfl | rfl | hw
  · exact gz_good h1
  · exact gz_good h2
  · exact gz_good h4
  · exact gz_good h5
  · exact gz_good hw
theorem gz_gIL {ck : Cond} (h5 : ck ∈ ga_G) : GoodIn lw_tbl (ck :: ga_G) := fun w hw => by
  rcases List.mem_cons.mp hw with rfl | hw
  · exact gz_goodL h5
  · exact gz_goodL hw
theorem gz_gVL {ck : Cond} {own C : String} {idx : Nat} {y : MethodName} (h1 : Cond.methodLink own idx y ∈ ga_G) (h2 : Cond.instanceMethod y ∈ ga_G) (h3 : Cond.selects C y y ∈ ga_G) (h4 : Cond.initialized C ∈ ga_G) (h5 : ck ∈ ga_G) : GoodIn lw_tbl (wsV own idx C y (ck :: ga_G)) := fun w hw => by
  simp only [wsV, List.cons_append, List.nil_append, List.mem_cons] at hw
  rcases hw with rfl | rfl | rfl | rfl | rfl | hw
  · exact gz_goodL h1
  · exact gz_goodL h2
  · exact gz_goodL h3
  · exact gz_goodL h4
  · exact gz_goodL h5
  · exact gz_goodL hw
theorem gz_gSL {ck : Cond} {own : String} {idx : Nat} {y : MethodName} (h1 : Cond.methodLink own idx y ∈ ga_G) (h2 : Cond.static y ∈ ga_G) (h4 : Cond.initialized y.cls ∈ ga_G) (h5 : ck ∈ ga_G) : GoodIn lw_tbl (va_wsS own idx y (ck :: ga_G)) := fun w hw => by
  simp only [va_wsS, List.cons_append, List.nil_append, List.mem_cons] at hw
  rcases hw with rfl | rfl | rfl | rfl | hw
  · exact gz_goodL h1
  · exact gz_goodL h2
  · exact gz_goodL h4
  · exact gz_goodL h5
  · exact gz_goodL hw
theorem gz_nc {z : Cond} (hz : z ∈ flatC (Jvm.Cond.and given_1 narrow_1)) : ∀ (S : State) (b : Nat), ga_0 S b → z.before #[Value.ref b] S = true := fun S b h => flat_of_before _ h.2 z hz
end
section
/-! WORDS: where each stands in the tables -/
theorem gl_0 : Cond.selects "LevelStore$Levels" (⟨"LevelStore$Levels", "changeShelf", "()V"⟩ : MethodName) (⟨"LevelStore$Levels", "changeShelf", "()V"⟩ : MethodName) ∈ lw_tbl := List.mem_of_getElem? (i := 0) (by decide +kernel)
theorem gw_0 : Cond.selects "LevelStore$Levels" (⟨"LevelStore$Levels", "changeShelf", "()V"⟩ : MethodName) (⟨"LevelStore$Levels", "changeShelf", "()V"⟩ : MethodName) ∈ ga_G := List.mem_filter.mpr ⟨gl_0, rfl⟩
theorem gl_1 : Cond.selects "LevelStore" (⟨"LevelStore", "oldest", "()I"⟩ : MethodName) (⟨"LevelStore", "oldest", "()I"⟩ : MethodName) ∈ lw_tbl := List.mem_of_getElem? (i := 1) (by decide +kernel)
theorem gw_1 : Cond.selects "LevelStore" (⟨"LevelStore", "oldest", "()I"⟩ : MethodName) (⟨"LevelStore", "oldest", "()I"⟩ : MethodName) ∈ ga_G := List.mem_filter.mpr ⟨gl_1, rfl⟩
theorem gl_2 : Cond.selects "LevelStore$Levels" (⟨"LevelStore$Levels", "fullLevel", "()I"⟩ : MethodName) (⟨"LevelStore$Levels", "fullLevel", "()I"⟩ : MethodName) ∈ lw_tbl := List.mem_of_getElem? (i := 2) (by decide +kernel)
theorem gw_2 : Cond.selects "LevelStore$Levels" (⟨"LevelStore$Levels", "fullLevel", "()I"⟩ : MethodName) (⟨"LevelStore$Levels", "fullLevel", "()I"⟩ : MethodName) ∈ ga_G := List.mem_filter.mpr ⟨gl_2, rfl⟩
theorem gl_3 : Cond.selects "LevelStore$Levels" (⟨"LevelStore$Levels", "merge", "(IIII)V"⟩ : MethodName) (⟨"LevelStore$Levels", "merge", "(IIII)V"⟩ : MethodName) ∈ lw_tbl := List.mem_of_getElem? (i := 3) (by decide +kernel)
theorem gw_3 : Cond.selects "LevelStore$Levels" (⟨"LevelStore$Levels", "merge", "(IIII)V"⟩ : MethodName) (⟨"LevelStore$Levels", "merge", "(IIII)V"⟩ : MethodName) ∈ ga_G := List.mem_filter.mpr ⟨gl_3, rfl⟩
theorem gl_4 : Cond.selects "LevelStore$Levels" (⟨"LevelStore$Levels", "sortJoining", "()V"⟩ : MethodName) (⟨"LevelStore$Levels", "sortJoining", "()V"⟩ : MethodName) ∈ lw_tbl := List.mem_of_getElem? (i := 4) (by decide +kernel)
theorem gw_4 : Cond.selects "LevelStore$Levels" (⟨"LevelStore$Levels", "sortJoining", "()V"⟩ : MethodName) (⟨"LevelStore$Levels", "sortJoining", "()V"⟩ : MethodName) ∈ ga_G := List.mem_filter.mpr ⟨gl_4, rfl⟩
theorem gl_5 : Cond.selects "LevelStore$Levels" (⟨"LevelStore$Levels", "addStaying", "(II)V"⟩ : MethodName) (⟨"LevelStore$Levels", "addStaying", "(II)V"⟩ : MethodName) ∈ lw_tbl := List.mem_of_getElem? (i := 5) (by decide +kernel)
theorem gw_5 : Cond.selects "LevelStore$Levels" (⟨"LevelStore$Levels", "addStaying", "(II)V"⟩ : MethodName) (⟨"LevelStore$Levels", "addStaying", "(II)V"⟩ : MethodName) ∈ ga_G := List.mem_filter.mpr ⟨gl_5, rfl⟩
theorem gl_6 : Cond.selects "LevelStore$Levels" (⟨"LevelStore$Levels", "addMerged", "(II)V"⟩ : MethodName) (⟨"LevelStore$Levels", "addMerged", "(II)V"⟩ : MethodName) ∈ lw_tbl := List.mem_of_getElem? (i := 6) (by decide +kernel)
theorem gw_6 : Cond.selects "LevelStore$Levels" (⟨"LevelStore$Levels", "addMerged", "(II)V"⟩ : MethodName) (⟨"LevelStore$Levels", "addMerged", "(II)V"⟩ : MethodName) ∈ ga_G := List.mem_filter.mpr ⟨gl_6, rfl⟩
theorem gl_7 : Cond.selects "LevelStore$Levels" (⟨"LevelStore$Levels", "isOutdated", "(II)Z"⟩ : MethodName) (⟨"LevelStore$Levels", "isOutdated", "(II)Z"⟩ : MethodName) ∈ lw_tbl := List.mem_of_getElem? (i := 7) (by decide +kernel)
theorem gw_7 : Cond.selects "LevelStore$Levels" (⟨"LevelStore$Levels", "isOutdated", "(II)Z"⟩ : MethodName) (⟨"LevelStore$Levels", "isOutdated", "(II)Z"⟩ : MethodName) ∈ ga_G := List.mem_filter.mpr ⟨gl_7, rfl⟩
theorem gl_8 : Cond.selects "LevelStore$Levels" (⟨"LevelStore$Levels", "isNeedless", "(III)Z"⟩ : MethodName) (⟨"LevelStore$Levels", "isNeedless", "(III)Z"⟩ : MethodName) ∈ lw_tbl := List.mem_of_getElem? (i := 8) (by decide +kernel)
theorem gw_8 : Cond.selects "LevelStore$Levels" (⟨"LevelStore$Levels", "isNeedless", "(III)Z"⟩ : MethodName) (⟨"LevelStore$Levels", "isNeedless", "(III)Z"⟩ : MethodName) ∈ ga_G := List.mem_filter.mpr ⟨gl_8, rfl⟩
theorem gl_9 : Cond.selects "LevelStore$Levels" (⟨"LevelStore$Levels", "endNewTable", "(I)V"⟩ : MethodName) (⟨"LevelStore$Levels", "endNewTable", "(I)V"⟩ : MethodName) ∈ lw_tbl := List.mem_of_getElem? (i := 9) (by decide +kernel)
theorem gw_9 : Cond.selects "LevelStore$Levels" (⟨"LevelStore$Levels", "endNewTable", "(I)V"⟩ : MethodName) (⟨"LevelStore$Levels", "endNewTable", "(I)V"⟩ : MethodName) ∈ ga_G := List.mem_filter.mpr ⟨gl_9, rfl⟩
theorem gl_10 : Cond.selects "LevelStore" (⟨"LevelStore", "addToPending", "(IIZ)V"⟩ : MethodName) (⟨"LevelStore", "addToPending", "(IIZ)V"⟩ : MethodName) ∈ lw_tbl := List.mem_of_getElem? (i := 10) (by decide +kernel)
theorem gw_10 : Cond.selects "LevelStore" (⟨"LevelStore", "addToPending", "(IIZ)V"⟩ : MethodName) (⟨"LevelStore", "addToPending", "(IIZ)V"⟩ : MethodName) ∈ ga_G := List.mem_filter.mpr ⟨gl_10, rfl⟩
theorem gl_12 : Cond.selects "LevelStore" (⟨"LevelStore", "write", "()I"⟩ : MethodName) (⟨"LevelStore", "write", "()I"⟩ : MethodName) ∈ lw_tbl := List.mem_of_getElem? (i := 12) (by decide +kernel)
theorem gw_12 : Cond.selects "LevelStore" (⟨"LevelStore", "write", "()I"⟩ : MethodName) (⟨"LevelStore", "write", "()I"⟩ : MethodName) ∈ ga_G := List.mem_filter.mpr ⟨gl_12, rfl⟩
theorem gl_13 : Cond.selects "LevelStore" (⟨"LevelStore", "moveMemoryToLevel0", "()V"⟩ : MethodName) (⟨"LevelStore", "moveMemoryToLevel0", "()V"⟩ : MethodName) ∈ lw_tbl := List.mem_of_getElem? (i := 13) (by decide +kernel)
theorem gw_13 : Cond.selects "LevelStore" (⟨"LevelStore", "moveMemoryToLevel0", "()V"⟩ : MethodName) (⟨"LevelStore", "moveMemoryToLevel0", "()V"⟩ : MethodName) ∈ ga_G := List.mem_filter.mpr ⟨gl_13, rfl⟩
theorem gl_14 : Cond.selects "LevelStore" (⟨"LevelStore", "numberSeenBy", "(I)I"⟩ : MethodName) (⟨"LevelStore", "numberSeenBy", "(I)I"⟩ : MethodName) ∈ lw_tbl := List.mem_of_getElem? (i := 14) (by decide +kernel)
theorem gw_14 : Cond.selects "LevelStore" (⟨"LevelStore", "numberSeenBy", "(I)I"⟩ : MethodName) (⟨"LevelStore", "numberSeenBy", "(I)I"⟩ : MethodName) ∈ ga_G := List.mem_filter.mpr ⟨gl_14, rfl⟩
theorem gl_15 : Cond.selects "LevelStore" (⟨"LevelStore", "lookInTables", "(II)I"⟩ : MethodName) (⟨"LevelStore", "lookInTables", "(II)I"⟩ : MethodName) ∈ lw_tbl := List.mem_of_getElem? (i := 15) (by decide +kernel)
theorem gw_15 : Cond.selects "LevelStore" (⟨"LevelStore", "lookInTables", "(II)I"⟩ : MethodName) (⟨"LevelStore", "lookInTables", "(II)I"⟩ : MethodName) ∈ ga_G := List.mem_filter.mpr ⟨gl_15, rfl⟩
theorem gl_16 : Cond.selects "LevelStore" (⟨"LevelStore", "lookInTable", "(III)I"⟩ : MethodName) (⟨"LevelStore", "lookInTable", "(III)I"⟩ : MethodName) ∈ lw_tbl := List.mem_of_getElem? (i := 16) (by decide +kernel)
theorem gw_16 : Cond.selects "LevelStore" (⟨"LevelStore", "lookInTable", "(III)I"⟩ : MethodName) (⟨"LevelStore", "lookInTable", "(III)I"⟩ : MethodName) ∈ ga_G := List.mem_filter.mpr ⟨gl_16, rfl⟩
theorem gl_17 : Cond.selects "LevelStore" (⟨"LevelStore", "hasValue", "(II)Z"⟩ : MethodName) (⟨"LevelStore", "hasValue", "(II)Z"⟩ : MethodName) ∈ lw_tbl := List.mem_of_getElem? (i := 17) (by decide +kernel)
theorem gw_17 : Cond.selects "LevelStore" (⟨"LevelStore", "hasValue", "(II)Z"⟩ : MethodName) (⟨"LevelStore", "hasValue", "(II)Z"⟩ : MethodName) ∈ ga_G := List.mem_filter.mpr ⟨gl_17, rfl⟩
theorem gl_18 : Cond.selects "LevelStoreModel" (⟨"LevelStoreModel", "write", "(IIZ)I"⟩ : MethodName) (⟨"LevelStoreModel", "write", "(IIZ)I"⟩ : MethodName) ∈ lw_tbl := List.mem_of_getElem? (i := 18) (by decide +kernel)
theorem gw_18 : Cond.selects "LevelStoreModel" (⟨"LevelStoreModel", "write", "(IIZ)I"⟩ : MethodName) (⟨"LevelStoreModel", "write", "(IIZ)I"⟩ : MethodName) ∈ ga_G := List.mem_filter.mpr ⟨gl_18, rfl⟩
theorem gl_19 : Cond.selects "LevelStoreModel" (⟨"LevelStoreModel", "raise", "(I)I"⟩ : MethodName) (⟨"LevelStoreModel", "raise", "(I)I"⟩ : MethodName) ∈ lw_tbl := List.mem_of_getElem? (i := 19) (by decide +kernel)
theorem gw_19 : Cond.selects "LevelStoreModel" (⟨"LevelStoreModel", "raise", "(I)I"⟩ : MethodName) (⟨"LevelStoreModel", "raise", "(I)I"⟩ : MethodName) ∈ ga_G := List.mem_filter.mpr ⟨gl_19, rfl⟩
theorem gl_20 : Cond.selects "LevelStoreModel" (⟨"LevelStoreModel", "full", "(I)Z"⟩ : MethodName) (⟨"LevelStoreModel", "full", "(I)Z"⟩ : MethodName) ∈ lw_tbl := List.mem_of_getElem? (i := 20) (by decide +kernel)
theorem gw_20 : Cond.selects "LevelStoreModel" (⟨"LevelStoreModel", "full", "(I)Z"⟩ : MethodName) (⟨"LevelStoreModel", "full", "(I)Z"⟩ : MethodName) ∈ ga_G := List.mem_filter.mpr ⟨gl_20, rfl⟩
theorem gl_21 : Cond.selects "LevelStoreModel" (⟨"LevelStoreModel", "onLevel", "(I)I"⟩ : MethodName) (⟨"LevelStoreModel", "onLevel", "(I)I"⟩ : MethodName) ∈ lw_tbl := List.mem_of_getElem? (i := 21) (by decide +kernel)
theorem gw_21 : Cond.selects "LevelStoreModel" (⟨"LevelStoreModel", "onLevel", "(I)I"⟩ : MethodName) (⟨"LevelStoreModel", "onLevel", "(I)I"⟩ : MethodName) ∈ ga_G := List.mem_filter.mpr ⟨gl_21, rfl⟩
theorem gl_22 : Cond.selects "LevelStoreModel" (⟨"LevelStoreModel", "remember", "(IIZ)V"⟩ : MethodName) (⟨"LevelStoreModel", "remember", "(IIZ)V"⟩ : MethodName) ∈ lw_tbl := List.mem_of_getElem? (i := 22) (by decide +kernel)
theorem gw_22 : Cond.selects "LevelStoreModel" (⟨"LevelStoreModel", "remember", "(IIZ)V"⟩ : MethodName) (⟨"LevelStoreModel", "remember", "(IIZ)V"⟩ : MethodName) ∈ ga_G := List.mem_filter.mpr ⟨gl_22, rfl⟩
theorem gl_23 : Cond.selects "LevelStoreModel" (⟨"LevelStoreModel", "logged", "(I)V"⟩ : MethodName) (⟨"LevelStoreModel", "logged", "(I)V"⟩ : MethodName) ∈ lw_tbl := List.mem_of_getElem? (i := 23) (by decide +kernel)
theorem gw_23 : Cond.selects "LevelStoreModel" (⟨"LevelStoreModel", "logged", "(I)V"⟩ : MethodName) (⟨"LevelStoreModel", "logged", "(I)V"⟩ : MethodName) ∈ ga_G := List.mem_filter.mpr ⟨gl_23, rfl⟩
theorem gl_24 : Cond.selects "LevelStoreModel" (⟨"LevelStoreModel", "flushAll", "()V"⟩ : MethodName) (⟨"LevelStoreModel", "flushAll", "()V"⟩ : MethodName) ∈ lw_tbl := List.mem_of_getElem? (i := 24) (by decide +kernel)
theorem gw_24 : Cond.selects "LevelStoreModel" (⟨"LevelStoreModel", "flushAll", "()V"⟩ : MethodName) (⟨"LevelStoreModel", "flushAll", "()V"⟩ : MethodName) ∈ ga_G := List.mem_filter.mpr ⟨gl_24, rfl⟩
theorem gl_25 : Cond.selects "LevelStoreModel" (⟨"LevelStoreModel", "enter", "(IIIZ)V"⟩ : MethodName) (⟨"LevelStoreModel", "enter", "(IIIZ)V"⟩ : MethodName) ∈ lw_tbl := List.mem_of_getElem? (i := 25) (by decide +kernel)
theorem gw_25 : Cond.selects "LevelStoreModel" (⟨"LevelStoreModel", "enter", "(IIIZ)V"⟩ : MethodName) (⟨"LevelStoreModel", "enter", "(IIIZ)V"⟩ : MethodName) ∈ ga_G := List.mem_filter.mpr ⟨gl_25, rfl⟩
theorem gl_26 : Cond.selects "LevelStoreModel" (⟨"LevelStoreModel", "copyWork", "(II)V"⟩ : MethodName) (⟨"LevelStoreModel", "copyWork", "(II)V"⟩ : MethodName) ∈ lw_tbl := List.mem_of_getElem? (i := 26) (by decide +kernel)
theorem gw_26 : Cond.selects "LevelStoreModel" (⟨"LevelStoreModel", "copyWork", "(II)V"⟩ : MethodName) (⟨"LevelStoreModel", "copyWork", "(II)V"⟩ : MethodName) ∈ ga_G := List.mem_filter.mpr ⟨gl_26, rfl⟩
theorem gl_27 : Cond.selects "LevelStoreModel" (⟨"LevelStoreModel", "insert", "(IIII)V"⟩ : MethodName) (⟨"LevelStoreModel", "insert", "(IIII)V"⟩ : MethodName) ∈ lw_tbl := List.mem_of_getElem? (i := 27) (by decide +kernel)
theorem gw_27 : Cond.selects "LevelStoreModel" (⟨"LevelStoreModel", "insert", "(IIII)V"⟩ : MethodName) (⟨"LevelStoreModel", "insert", "(IIII)V"⟩ : MethodName) ∈ ga_G := List.mem_filter.mpr ⟨gl_27, rfl⟩
theorem gl_28 : Cond.selects "LevelStoreModel" (⟨"LevelStoreModel", "start", "(I)I"⟩ : MethodName) (⟨"LevelStoreModel", "start", "(I)I"⟩ : MethodName) ∈ lw_tbl := List.mem_of_getElem? (i := 28) (by decide +kernel)
theorem gw_28 : Cond.selects "LevelStoreModel" (⟨"LevelStoreModel", "start", "(I)I"⟩ : MethodName) (⟨"LevelStoreModel", "start", "(I)I"⟩ : MethodName) ∈ ga_G := List.mem_filter.mpr ⟨gl_28, rfl⟩
theorem gl_29 : Cond.selects "LevelStoreModel" (⟨"LevelStoreModel", "moveEntry", "(II)V"⟩ : MethodName) (⟨"LevelStoreModel", "moveEntry", "(II)V"⟩ : MethodName) ∈ lw_tbl := List.mem_of_getElem? (i := 29) (by decide +kernel)
theorem gw_29 : Cond.selects "LevelStoreModel" (⟨"LevelStoreModel", "moveEntry", "(II)V"⟩ : MethodName) (⟨"LevelStoreModel", "moveEntry", "(II)V"⟩ : MethodName) ∈ ga_G := List.mem_filter.mpr ⟨gl_29, rfl⟩
theorem gl_30 : Cond.selects "LevelStoreModel" (⟨"LevelStoreModel", "moveTable", "(II)V"⟩ : MethodName) (⟨"LevelStoreModel", "moveTable", "(II)V"⟩ : MethodName) ∈ lw_tbl := List.mem_of_getElem? (i := 30) (by decide +kernel)
theorem gw_30 : Cond.selects "LevelStoreModel" (⟨"LevelStoreModel", "moveTable", "(II)V"⟩ : MethodName) (⟨"LevelStoreModel", "moveTable", "(II)V"⟩ : MethodName) ∈ ga_G := List.mem_filter.mpr ⟨gl_30, rfl⟩
theorem gl_31 : Cond.selects "LevelStoreModel" (⟨"LevelStoreModel", "tidy", "()V"⟩ : MethodName) (⟨"LevelStoreModel", "tidy", "()V"⟩ : MethodName) ∈ lw_tbl := List.mem_of_getElem? (i := 31) (by decide +kernel)
theorem gw_31 : Cond.selects "LevelStoreModel" (⟨"LevelStoreModel", "tidy", "()V"⟩ : MethodName) (⟨"LevelStoreModel", "tidy", "()V"⟩ : MethodName) ∈ ga_G := List.mem_filter.mpr ⟨gl_31, rfl⟩
theorem gl_32 : Cond.selects "LevelStoreModel" (⟨"LevelStoreModel", "merge", "(I)Z"⟩ : MethodName) (⟨"LevelStoreModel", "merge", "(I)Z"⟩ : MethodName) ∈ lw_tbl := List.mem_of_getElem? (i := 32) (by decide +kernel)
theorem gw_32 : Cond.selects "LevelStoreModel" (⟨"LevelStoreModel", "merge", "(I)Z"⟩ : MethodName) (⟨"LevelStoreModel", "merge", "(I)Z"⟩ : MethodName) ∈ ga_G := List.mem_filter.mpr ⟨gl_32, rfl⟩
theorem gl_33 : Cond.selects "LevelStoreModel" (⟨"LevelStoreModel", "low", "(I)I"⟩ : MethodName) (⟨"LevelStoreModel", "low", "(I)I"⟩ : MethodName) ∈ lw_tbl := List.mem_of_getElem? (i := 33) (by decide +kernel)
theorem gw_33 : Cond.selects "LevelStoreModel" (⟨"LevelStoreModel", "low", "(I)I"⟩ : MethodName) (⟨"LevelStoreModel", "low", "(I)I"⟩ : MethodName) ∈ ga_G := List.mem_filter.mpr ⟨gl_33, rfl⟩
theorem gl_34 : Cond.selects "LevelStoreModel" (⟨"LevelStoreModel", "high", "(I)I"⟩ : MethodName) (⟨"LevelStoreModel", "high", "(I)I"⟩ : MethodName) ∈ lw_tbl := List.mem_of_getElem? (i := 34) (by decide +kernel)
theorem gw_34 : Cond.selects "LevelStoreModel" (⟨"LevelStoreModel", "high", "(I)I"⟩ : MethodName) (⟨"LevelStoreModel", "high", "(I)I"⟩ : MethodName) ∈ ga_G := List.mem_filter.mpr ⟨gl_34, rfl⟩
theorem gl_35 : Cond.selects "LevelStoreModel" (⟨"LevelStoreModel", "dropAll", "(I)V"⟩ : MethodName) (⟨"LevelStoreModel", "dropAll", "(I)V"⟩ : MethodName) ∈ lw_tbl := List.mem_of_getElem? (i := 35) (by decide +kernel)
theorem gw_35 : Cond.selects "LevelStoreModel" (⟨"LevelStoreModel", "dropAll", "(I)V"⟩ : MethodName) (⟨"LevelStoreModel", "dropAll", "(I)V"⟩ : MethodName) ∈ ga_G := List.mem_filter.mpr ⟨gl_35, rfl⟩
theorem gl_36 : Cond.selects "LevelStoreModel" (⟨"LevelStoreModel", "oldest", "()I"⟩ : MethodName) (⟨"LevelStoreModel", "oldest", "()I"⟩ : MethodName) ∈ lw_tbl := List.mem_of_getElem? (i := 36) (by decide +kernel)
theorem gw_36 : Cond.selects "LevelStoreModel" (⟨"LevelStoreModel", "oldest", "()I"⟩ : MethodName) (⟨"LevelStoreModel", "oldest", "()I"⟩ : MethodName) ∈ ga_G := List.mem_filter.mpr ⟨gl_36, rfl⟩
theorem gl_37 : Cond.selects "LevelStoreModel" (⟨"LevelStoreModel", "deeper", "(II)Z"⟩ : MethodName) (⟨"LevelStoreModel", "deeper", "(II)Z"⟩ : MethodName) ∈ lw_tbl := List.mem_of_getElem? (i := 37) (by decide +kernel)
theorem gw_37 : Cond.selects "LevelStoreModel" (⟨"LevelStoreModel", "deeper", "(II)Z"⟩ : MethodName) (⟨"LevelStoreModel", "deeper", "(II)Z"⟩ : MethodName) ∈ ga_G := List.mem_filter.mpr ⟨gl_37, rfl⟩
theorem gl_38 : Cond.selects "LevelStoreModel" (⟨"LevelStoreModel", "takeOut", "(I)V"⟩ : MethodName) (⟨"LevelStoreModel", "takeOut", "(I)V"⟩ : MethodName) ∈ lw_tbl := List.mem_of_getElem? (i := 38) (by decide +kernel)
theorem gw_38 : Cond.selects "LevelStoreModel" (⟨"LevelStoreModel", "takeOut", "(I)V"⟩ : MethodName) (⟨"LevelStoreModel", "takeOut", "(I)V"⟩ : MethodName) ∈ ga_G := List.mem_filter.mpr ⟨gl_38, rfl⟩
theorem gl_39 : Cond.selects "LevelStoreModel" (⟨"LevelStoreModel", "place", "(I)V"⟩ : MethodName) (⟨"LevelStoreModel", "place", "(I)V"⟩ : MethodName) ∈ lw_tbl := List.mem_of_getElem? (i := 39) (by decide +kernel)
theorem gw_39 : Cond.selects "LevelStoreModel" (⟨"LevelStoreModel", "place", "(I)V"⟩ : MethodName) (⟨"LevelStoreModel", "place", "(I)V"⟩ : MethodName) ∈ ga_G := List.mem_filter.mpr ⟨gl_39, rfl⟩
theorem gl_40 : Cond.selects "LevelStoreModel" (⟨"LevelStoreModel", "pick", "(I)I"⟩ : MethodName) (⟨"LevelStoreModel", "pick", "(I)I"⟩ : MethodName) ∈ lw_tbl := List.mem_of_getElem? (i := 40) (by decide +kernel)
theorem gw_40 : Cond.selects "LevelStoreModel" (⟨"LevelStoreModel", "pick", "(I)I"⟩ : MethodName) (⟨"LevelStoreModel", "pick", "(I)I"⟩ : MethodName) ∈ ga_G := List.mem_filter.mpr ⟨gl_40, rfl⟩
theorem gl_41 : Cond.selects "LevelStoreModel" (⟨"LevelStoreModel", "upTo", "(I)I"⟩ : MethodName) (⟨"LevelStoreModel", "upTo", "(I)I"⟩ : MethodName) ∈ lw_tbl := List.mem_of_getElem? (i := 41) (by decide +kernel)
theorem gw_41 : Cond.selects "LevelStoreModel" (⟨"LevelStoreModel", "upTo", "(I)I"⟩ : MethodName) (⟨"LevelStoreModel", "upTo", "(I)I"⟩ : MethodName) ∈ ga_G := List.mem_filter.mpr ⟨gl_41, rfl⟩
theorem gl_42 : Cond.selects "LevelStoreModel" (⟨"LevelStoreModel", "look", "(II)V"⟩ : MethodName) (⟨"LevelStoreModel", "look", "(II)V"⟩ : MethodName) ∈ lw_tbl := List.mem_of_getElem? (i := 42) (by decide +kernel)
theorem gw_42 : Cond.selects "LevelStoreModel" (⟨"LevelStoreModel", "look", "(II)V"⟩ : MethodName) (⟨"LevelStoreModel", "look", "(II)V"⟩ : MethodName) ∈ ga_G := List.mem_filter.mpr ⟨gl_42, rfl⟩
theorem gl_43 : Cond.selects "LevelStoreModel" (⟨"LevelStoreModel", "lookInMemory", "(II)V"⟩ : MethodName) (⟨"LevelStoreModel", "lookInMemory", "(II)V"⟩ : MethodName) ∈ lw_tbl := List.mem_of_getElem? (i := 43) (by decide +kernel)
theorem gw_43 : Cond.selects "LevelStoreModel" (⟨"LevelStoreModel", "lookInMemory", "(II)V"⟩ : MethodName) (⟨"LevelStoreModel", "lookInMemory", "(II)V"⟩ : MethodName) ∈ ga_G := List.mem_filter.mpr ⟨gl_43, rfl⟩
theorem gl_44 : Cond.selects "LevelStoreModel" (⟨"LevelStoreModel", "passes", "(II)Z"⟩ : MethodName) (⟨"LevelStoreModel", "passes", "(II)Z"⟩ : MethodName) ∈ lw_tbl := List.mem_of_getElem? (i := 44) (by decide +kernel)
theorem gw_44 : Cond.selects "LevelStoreModel" (⟨"LevelStoreModel", "passes", "(II)Z"⟩ : MethodName) (⟨"LevelStoreModel", "passes", "(II)Z"⟩ : MethodName) ∈ ga_G := List.mem_filter.mpr ⟨gl_44, rfl⟩
theorem gl_45 : Cond.selects "LevelStoreModel" (⟨"LevelStoreModel", "readBlocks", "(III)I"⟩ : MethodName) (⟨"LevelStoreModel", "readBlocks", "(III)I"⟩ : MethodName) ∈ lw_tbl := List.mem_of_getElem? (i := 45) (by decide +kernel)
theorem gw_45 : Cond.selects "LevelStoreModel" (⟨"LevelStoreModel", "readBlocks", "(III)I"⟩ : MethodName) (⟨"LevelStoreModel", "readBlocks", "(III)I"⟩ : MethodName) ∈ ga_G := List.mem_filter.mpr ⟨gl_45, rfl⟩
theorem gl_46 : Cond.selects "LevelStoreModel" (⟨"LevelStoreModel", "foundGone", "()Z"⟩ : MethodName) (⟨"LevelStoreModel", "foundGone", "()Z"⟩ : MethodName) ∈ lw_tbl := List.mem_of_getElem? (i := 46) (by decide +kernel)
theorem gw_46 : Cond.selects "LevelStoreModel" (⟨"LevelStoreModel", "foundGone", "()Z"⟩ : MethodName) (⟨"LevelStoreModel", "foundGone", "()Z"⟩ : MethodName) ∈ ga_G := List.mem_filter.mpr ⟨gl_46, rfl⟩
theorem gl_47 : Cond.selects "LevelStoreModel" (⟨"LevelStoreModel", "lookThrough", "(II)V"⟩ : MethodName) (⟨"LevelStoreModel", "lookThrough", "(II)V"⟩ : MethodName) ∈ lw_tbl := List.mem_of_getElem? (i := 47) (by decide +kernel)
theorem gw_47 : Cond.selects "LevelStoreModel" (⟨"LevelStoreModel", "lookThrough", "(II)V"⟩ : MethodName) (⟨"LevelStoreModel", "lookThrough", "(II)V"⟩ : MethodName) ∈ ga_G := List.mem_filter.mpr ⟨gl_47, rfl⟩
theorem gl_48 : Cond.selects "LevelStoreModel" (⟨"LevelStoreModel", "blockSize", "(II)I"⟩ : MethodName) (⟨"LevelStoreModel", "blockSize", "(II)I"⟩ : MethodName) ∈ lw_tbl := List.mem_of_getElem? (i := 48) (by decide +kernel)
theorem gw_48 : Cond.selects "LevelStoreModel" (⟨"LevelStoreModel", "blockSize", "(II)I"⟩ : MethodName) (⟨"LevelStoreModel", "blockSize", "(II)I"⟩ : MethodName) ∈ ga_G := List.mem_filter.mpr ⟨gl_48, rfl⟩
theorem gl_49 : Cond.selects "LevelStoreModel" (⟨"LevelStoreModel", "lose", "(I)I"⟩ : MethodName) (⟨"LevelStoreModel", "lose", "(I)I"⟩ : MethodName) ∈ lw_tbl := List.mem_of_getElem? (i := 49) (by decide +kernel)
theorem gw_49 : Cond.selects "LevelStoreModel" (⟨"LevelStoreModel", "lose", "(I)I"⟩ : MethodName) (⟨"LevelStoreModel", "lose", "(I)I"⟩ : MethodName) ∈ ga_G := List.mem_filter.mpr ⟨gl_49, rfl⟩
theorem gl_51 : Cond.initialized "LevelStore" ∈ lw_tbl := List.mem_of_getElem? (i := 51) (by decide +kernel)
theorem gw_51 : Cond.initialized "LevelStore" ∈ ga_G := List.mem_filter.mpr ⟨gl_51, rfl⟩
theorem gl_52 : Cond.initialized "LevelStore$Memory" ∈ lw_tbl := List.mem_of_getElem? (i := 52) (by decide +kernel)
theorem gw_52 : Cond.initialized "LevelStore$Memory" ∈ ga_G := List.mem_filter.mpr ⟨gl_52, rfl⟩
theorem gl_53 : Cond.initialized "LevelStore$Entries" ∈ lw_tbl := List.mem_of_getElem? (i := 53) (by decide +kernel)
theorem gw_53 : Cond.initialized "LevelStore$Entries" ∈ ga_G := List.mem_filter.mpr ⟨gl_53, rfl⟩
theorem gl_54 : Cond.initialized "LevelStore$Levels" ∈ lw_tbl := List.mem_of_getElem? (i := 54) (by decide +kernel)
theorem gw_54 : Cond.initialized "LevelStore$Levels" ∈ ga_G := List.mem_filter.mpr ⟨gl_54, rfl⟩
theorem gl_55 : Cond.initialized "LevelStore$Shelf" ∈ lw_tbl := List.mem_of_getElem? (i := 55) (by decide +kernel)
theorem gw_55 : Cond.initialized "LevelStore$Shelf" ∈ ga_G := List.mem_filter.mpr ⟨gl_55, rfl⟩
theorem gl_56 : Cond.initialized "LevelStore$Sorter" ∈ lw_tbl := List.mem_of_getElem? (i := 56) (by decide +kernel)
theorem gw_56 : Cond.initialized "LevelStore$Sorter" ∈ ga_G := List.mem_filter.mpr ⟨gl_56, rfl⟩
theorem gl_57 : Cond.initialized "java/util/Arrays" ∈ lw_tbl := List.mem_of_getElem? (i := 57) (by decide +kernel)
theorem gw_57 : Cond.initialized "java/util/Arrays" ∈ ga_G := List.mem_filter.mpr ⟨gl_57, rfl⟩
theorem gl_58 : Cond.initialized "LevelStoreModel" ∈ lw_tbl := List.mem_of_getElem? (i := 58) (by decide +kernel)
theorem gw_58 : Cond.initialized "LevelStoreModel" ∈ ga_G := List.mem_filter.mpr ⟨gl_58, rfl⟩
theorem gl_62 : Cond.initialized "java/lang/IllegalArgumentException" ∈ lw_tbl := List.mem_of_getElem? (i := 62) (by decide +kernel)
theorem gw_62 : Cond.initialized "java/lang/IllegalArgumentException" ∈ ga_G := List.mem_filter.mpr ⟨gl_62, rfl⟩
theorem gl_63 : Cond.initialized "java/lang/UnsupportedOperationException" ∈ lw_tbl := List.mem_of_getElem? (i := 63) (by decide +kernel)
theorem gw_63 : Cond.initialized "java/lang/UnsupportedOperationException" ∈ ga_G := List.mem_filter.mpr ⟨gl_63, rfl⟩
theorem gl_64 : Cond.initialized "java/lang/IllegalStateException" ∈ lw_tbl := List.mem_of_getElem? (i := 64) (by decide +kernel)
theorem gw_64 : Cond.initialized "java/lang/IllegalStateException" ∈ ga_G := List.mem_filter.mpr ⟨gl_64, rfl⟩
theorem gl_65 : Cond.initialized "java/lang/Math" ∈ lw_tbl := List.mem_of_getElem? (i := 65) (by decide +kernel)
theorem gw_65 : Cond.initialized "java/lang/Math" ∈ ga_G := List.mem_filter.mpr ⟨gl_65, rfl⟩
theorem gl_66 : Cond.initialized "java/util/NoSuchElementException" ∈ lw_tbl := List.mem_of_getElem? (i := 66) (by decide +kernel)
theorem gw_66 : Cond.initialized "java/util/NoSuchElementException" ∈ ga_G := List.mem_filter.mpr ⟨gl_66, rfl⟩
theorem gl_67 : Cond.initialized "java/lang/IndexOutOfBoundsException" ∈ lw_tbl := List.mem_of_getElem? (i := 67) (by decide +kernel)
theorem gw_67 : Cond.initialized "java/lang/IndexOutOfBoundsException" ∈ ga_G := List.mem_filter.mpr ⟨gl_67, rfl⟩
theorem gl_68 : Cond.initialized "java/lang/ArithmeticException" ∈ lw_tbl := List.mem_of_getElem? (i := 68) (by decide +kernel)
theorem gw_68 : Cond.initialized "java/lang/ArithmeticException" ∈ ga_G := List.mem_filter.mpr ⟨gl_68, rfl⟩
theorem gl_74 : Cond.methodLink "LevelStore" 1 (⟨"java/lang/Object", "<init>", "()V"⟩ : MethodName) ∈ lw_tbl := List.mem_of_getElem? (i := 74) (by decide +kernel)
theorem gw_74 : Cond.methodLink "LevelStore" 1 (⟨"java/lang/Object", "<init>", "()V"⟩ : MethodName) ∈ ga_G := List.mem_filter.mpr ⟨gl_74, rfl⟩
theorem gl_75 : Cond.instanceMethod (⟨"java/lang/Object", "<init>", "()V"⟩ : MethodName) ∈ lw_tbl := List.mem_of_getElem? (i := 75) (by decide +kernel)
theorem gw_75 : Cond.instanceMethod (⟨"java/lang/Object", "<init>", "()V"⟩ : MethodName) ∈ ga_G := List.mem_filter.mpr ⟨gl_75, rfl⟩
theorem gl_76 : Cond.code Lib.objectInit ⟨#[0xb1]⟩ 1 none ∈ lw_tbl := List.mem_of_getElem? (i := 76) (by decide +kernel)
theorem gw_76 : Cond.code Lib.objectInit ⟨#[0xb1]⟩ 1 none ∈ ga_G := List.mem_filter.mpr ⟨gl_76, rfl⟩
theorem gl_77 : Cond.classLink "LevelStore" 7 "LevelStore$Memory" ∈ lw_tbl := List.mem_of_getElem? (i := 77) (by decide +kernel)
theorem gw_77 : Cond.classLink "LevelStore" 7 "LevelStore$Memory" ∈ ga_G := List.mem_filter.mpr ⟨gl_77, rfl⟩
theorem gl_78 : Cond.instantiable "LevelStore$Memory" 4 ∈ lw_tbl := List.mem_of_getElem? (i := 78) (by decide +kernel)
theorem gw_78 : Cond.instantiable "LevelStore$Memory" 4 ∈ ga_G := List.mem_filter.mpr ⟨gl_78, rfl⟩
theorem gl_79 : Cond.methodLinkNest "LevelStore" 9 (⟨"LevelStore$Memory", "<init>", "()V"⟩ : MethodName) "LevelStore" ∈ lw_tbl := List.mem_of_getElem? (i := 79) (by decide +kernel)
theorem gl_80 : Cond.instanceMethod (⟨"LevelStore$Memory", "<init>", "()V"⟩ : MethodName) ∈ lw_tbl := List.mem_of_getElem? (i := 80) (by decide +kernel)
theorem gw_80 : Cond.instanceMethod (⟨"LevelStore$Memory", "<init>", "()V"⟩ : MethodName) ∈ ga_G := List.mem_filter.mpr ⟨gl_80, rfl⟩
theorem gl_81 : Cond.code y_M_init c_M_init 1 none ∈ lw_tbl := List.mem_of_getElem? (i := 81) (by decide +kernel)
theorem gw_81 : Cond.code y_M_init c_M_init 1 none ∈ ga_G := List.mem_filter.mpr ⟨gl_81, rfl⟩
theorem gl_82 : Cond.methodLink "LevelStore$Memory" 3 (⟨"java/lang/Object", "<init>", "()V"⟩ : MethodName) ∈ lw_tbl := List.mem_of_getElem? (i := 82) (by decide +kernel)
theorem gw_82 : Cond.methodLink "LevelStore$Memory" 3 (⟨"java/lang/Object", "<init>", "()V"⟩ : MethodName) ∈ ga_G := List.mem_filter.mpr ⟨gl_82, rfl⟩
theorem gl_83 : Cond.classLink "LevelStore$Memory" 9 "LevelStore$Entries" ∈ lw_tbl := List.mem_of_getElem? (i := 83) (by decide +kernel)
theorem gw_83 : Cond.classLink "LevelStore$Memory" 9 "LevelStore$Entries" ∈ ga_G := List.mem_filter.mpr ⟨gl_83, rfl⟩
theorem gl_84 : Cond.instantiable "LevelStore$Entries" 6 ∈ lw_tbl := List.mem_of_getElem? (i := 84) (by decide +kernel)
theorem gw_84 : Cond.instantiable "LevelStore$Entries" 6 ∈ ga_G := List.mem_filter.mpr ⟨gl_84, rfl⟩
theorem gl_85 : Cond.methodLink "LevelStore$Memory" 11 (⟨"LevelStore$Entries", "<init>", "(I)V"⟩ : MethodName) ∈ lw_tbl := List.mem_of_getElem? (i := 85) (by decide +kernel)
theorem gw_85 : Cond.methodLink "LevelStore$Memory" 11 (⟨"LevelStore$Entries", "<init>", "(I)V"⟩ : MethodName) ∈ ga_G := List.mem_filter.mpr ⟨gl_85, rfl⟩
theorem gl_86 : Cond.instanceMethod (⟨"LevelStore$Entries", "<init>", "(I)V"⟩ : MethodName) ∈ lw_tbl := List.mem_of_getElem? (i := 86) (by decide +kernel)
theorem gw_86 : Cond.instanceMethod (⟨"LevelStore$Entries", "<init>", "(I)V"⟩ : MethodName) ∈ ga_G := List.mem_filter.mpr ⟨gl_86, rfl⟩
theorem gl_87 : Cond.code y_E_init c_E_init 2 none ∈ lw_tbl := List.mem_of_getElem? (i := 87) (by decide +kernel)
theorem gw_87 : Cond.code y_E_init c_E_init 2 none ∈ ga_G := List.mem_filter.mpr ⟨gl_87, rfl⟩
theorem gl_88 : Cond.methodLink "LevelStore$Entries" 3 (⟨"java/lang/Object", "<init>", "()V"⟩ : MethodName) ∈ lw_tbl := List.mem_of_getElem? (i := 88) (by decide +kernel)
theorem gw_88 : Cond.methodLink "LevelStore$Entries" 3 (⟨"java/lang/Object", "<init>", "()V"⟩ : MethodName) ∈ ga_G := List.mem_filter.mpr ⟨gl_88, rfl⟩
theorem gl_89 : Cond.fieldLink "LevelStore$Entries" 9 "LevelStore$Entries" "keys" "[I" ∈ lw_tbl := List.mem_of_getElem? (i := 89) (by decide +kernel)
theorem gw_89 : Cond.fieldLink "LevelStore$Entries" 9 "LevelStore$Entries" "keys" "[I" ∈ ga_G := List.mem_filter.mpr ⟨gl_89, rfl⟩
theorem gl_90 : Cond.fieldLink "LevelStore$Memory" 28 "LevelStore$Entries" "keys" "[I" ∈ lw_tbl := List.mem_of_getElem? (i := 90) (by decide +kernel)
theorem gw_90 : Cond.fieldLink "LevelStore$Memory" 28 "LevelStore$Entries" "keys" "[I" ∈ ga_G := List.mem_filter.mpr ⟨gl_90, rfl⟩
theorem gl_91 : Cond.fieldLink "LevelStore$Sorter" 37 "LevelStore$Entries" "keys" "[I" ∈ lw_tbl := List.mem_of_getElem? (i := 91) (by decide +kernel)
theorem gw_91 : Cond.fieldLink "LevelStore$Sorter" 37 "LevelStore$Entries" "keys" "[I" ∈ ga_G := List.mem_filter.mpr ⟨gl_91, rfl⟩
theorem gl_92 : Cond.fieldLink "LevelStore$Shelf" 45 "LevelStore$Entries" "keys" "[I" ∈ lw_tbl := List.mem_of_getElem? (i := 92) (by decide +kernel)
theorem gw_92 : Cond.fieldLink "LevelStore$Shelf" 45 "LevelStore$Entries" "keys" "[I" ∈ ga_G := List.mem_filter.mpr ⟨gl_92, rfl⟩
theorem gl_93 : Cond.fieldLink "LevelStore$Levels" 152 "LevelStore$Entries" "keys" "[I" ∈ lw_tbl := List.mem_of_getElem? (i := 93) (by decide +kernel)
theorem gw_93 : Cond.fieldLink "LevelStore$Levels" 152 "LevelStore$Entries" "keys" "[I" ∈ ga_G := List.mem_filter.mpr ⟨gl_93, rfl⟩
theorem gl_94 : Cond.fieldLink "LevelStore" 246 "LevelStore$Entries" "keys" "[I" ∈ lw_tbl := List.mem_of_getElem? (i := 94) (by decide +kernel)
theorem gw_94 : Cond.fieldLink "LevelStore" 246 "LevelStore$Entries" "keys" "[I" ∈ ga_G := List.mem_filter.mpr ⟨gl_94, rfl⟩
theorem gl_95 : Cond.fieldLink "LevelStore$Entries" 15 "LevelStore$Entries" "numbers" "[I" ∈ lw_tbl := List.mem_of_getElem? (i := 95) (by decide +kernel)
theorem gw_95 : Cond.fieldLink "LevelStore$Entries" 15 "LevelStore$Entries" "numbers" "[I" ∈ ga_G := List.mem_filter.mpr ⟨gl_95, rfl⟩
theorem gl_96 : Cond.fieldLink "LevelStore$Memory" 54 "LevelStore$Entries" "numbers" "[I" ∈ lw_tbl := List.mem_of_getElem? (i := 96) (by decide +kernel)
theorem gw_96 : Cond.fieldLink "LevelStore$Memory" 54 "LevelStore$Entries" "numbers" "[I" ∈ ga_G := List.mem_filter.mpr ⟨gl_96, rfl⟩
theorem gl_97 : Cond.fieldLink "LevelStore$Shelf" 58 "LevelStore$Entries" "numbers" "[I" ∈ lw_tbl := List.mem_of_getElem? (i := 97) (by decide +kernel)
theorem gw_97 : Cond.fieldLink "LevelStore$Shelf" 58 "LevelStore$Entries" "numbers" "[I" ∈ ga_G := List.mem_filter.mpr ⟨gl_97, rfl⟩
theorem gl_98 : Cond.fieldLink "LevelStore$Levels" 165 "LevelStore$Entries" "numbers" "[I" ∈ lw_tbl := List.mem_of_getElem? (i := 98) (by decide +kernel)
theorem gw_98 : Cond.fieldLink "LevelStore$Levels" 165 "LevelStore$Entries" "numbers" "[I" ∈ ga_G := List.mem_filter.mpr ⟨gl_98, rfl⟩
theorem gl_99 : Cond.fieldLink "LevelStore$Entries" 18 "LevelStore$Entries" "values" "[I" ∈ lw_tbl := List.mem_of_getElem? (i := 99) (by decide +kernel)
theorem gw_99 : Cond.fieldLink "LevelStore$Entries" 18 "LevelStore$Entries" "values" "[I" ∈ ga_G := List.mem_filter.mpr ⟨gl_99, rfl⟩
theorem gl_100 : Cond.fieldLink "LevelStore$Memory" 31 "LevelStore$Entries" "values" "[I" ∈ lw_tbl := List.mem_of_getElem? (i := 100) (by decide +kernel)
theorem gw_100 : Cond.fieldLink "LevelStore$Memory" 31 "LevelStore$Entries" "values" "[I" ∈ ga_G := List.mem_filter.mpr ⟨gl_100, rfl⟩
theorem gl_101 : Cond.fieldLink "LevelStore" 221 "LevelStore$Entries" "values" "[I" ∈ lw_tbl := List.mem_of_getElem? (i := 101) (by decide +kernel)
theorem gw_101 : Cond.fieldLink "LevelStore" 221 "LevelStore$Entries" "values" "[I" ∈ ga_G := List.mem_filter.mpr ⟨gl_101, rfl⟩
theorem gl_102 : Cond.fieldLink "LevelStore$Entries" 21 "LevelStore$Entries" "gone" "[Z" ∈ lw_tbl := List.mem_of_getElem? (i := 102) (by decide +kernel)
theorem gw_102 : Cond.fieldLink "LevelStore$Entries" 21 "LevelStore$Entries" "gone" "[Z" ∈ ga_G := List.mem_filter.mpr ⟨gl_102, rfl⟩
theorem gl_103 : Cond.fieldLink "LevelStore$Memory" 34 "LevelStore$Entries" "gone" "[Z" ∈ lw_tbl := List.mem_of_getElem? (i := 103) (by decide +kernel)
theorem gw_103 : Cond.fieldLink "LevelStore$Memory" 34 "LevelStore$Entries" "gone" "[Z" ∈ ga_G := List.mem_filter.mpr ⟨gl_103, rfl⟩
theorem gl_104 : Cond.fieldLink "LevelStore$Levels" 166 "LevelStore$Entries" "gone" "[Z" ∈ lw_tbl := List.mem_of_getElem? (i := 104) (by decide +kernel)
theorem gw_104 : Cond.fieldLink "LevelStore$Levels" 166 "LevelStore$Entries" "gone" "[Z" ∈ ga_G := List.mem_filter.mpr ⟨gl_104, rfl⟩
theorem gl_105 : Cond.fieldLink "LevelStore" 217 "LevelStore$Entries" "gone" "[Z" ∈ lw_tbl := List.mem_of_getElem? (i := 105) (by decide +kernel)
theorem gw_105 : Cond.fieldLink "LevelStore" 217 "LevelStore$Entries" "gone" "[Z" ∈ ga_G := List.mem_filter.mpr ⟨gl_105, rfl⟩
theorem gl_106 : Cond.fieldLink "LevelStore$Entries" 25 "LevelStore$Entries" "spoiled" "[Z" ∈ lw_tbl := List.mem_of_getElem? (i := 106) (by decide +kernel)
theorem gw_106 : Cond.fieldLink "LevelStore$Entries" 25 "LevelStore$Entries" "spoiled" "[Z" ∈ ga_G := List.mem_filter.mpr ⟨gl_106, rfl⟩
theorem gl_107 : Cond.fieldLink "LevelStore$Levels" 90 "LevelStore$Entries" "spoiled" "[Z" ∈ lw_tbl := List.mem_of_getElem? (i := 107) (by decide +kernel)
theorem gw_107 : Cond.fieldLink "LevelStore$Levels" 90 "LevelStore$Entries" "spoiled" "[Z" ∈ ga_G := List.mem_filter.mpr ⟨gl_107, rfl⟩
theorem gl_108 : Cond.fieldLink "LevelStore$Shelf" 59 "LevelStore$Entries" "spoiled" "[Z" ∈ lw_tbl := List.mem_of_getElem? (i := 108) (by decide +kernel)
theorem gw_108 : Cond.fieldLink "LevelStore$Shelf" 59 "LevelStore$Entries" "spoiled" "[Z" ∈ ga_G := List.mem_filter.mpr ⟨gl_108, rfl⟩
theorem gl_109 : Cond.fieldLink "LevelStore" 240 "LevelStore$Entries" "spoiled" "[Z" ∈ lw_tbl := List.mem_of_getElem? (i := 109) (by decide +kernel)
theorem gw_109 : Cond.fieldLink "LevelStore" 240 "LevelStore$Entries" "spoiled" "[Z" ∈ ga_G := List.mem_filter.mpr ⟨gl_109, rfl⟩
theorem gl_110 : Cond.fieldLink "LevelStore$Memory" 24 "LevelStore$Entries" "size" "I" ∈ lw_tbl := List.mem_of_getElem? (i := 110) (by decide +kernel)
theorem gw_110 : Cond.fieldLink "LevelStore$Memory" 24 "LevelStore$Entries" "size" "I" ∈ ga_G := List.mem_filter.mpr ⟨gl_110, rfl⟩
theorem gl_111 : Cond.fieldLink "LevelStore$Entries" 28 "LevelStore$Entries" "size" "I" ∈ lw_tbl := List.mem_of_getElem? (i := 111) (by decide +kernel)
theorem gw_111 : Cond.fieldLink "LevelStore$Entries" 28 "LevelStore$Entries" "size" "I" ∈ ga_G := List.mem_filter.mpr ⟨gl_111, rfl⟩
theorem gl_112 : Cond.fieldLink "LevelStore$Shelf" 30 "LevelStore$Entries" "size" "I" ∈ lw_tbl := List.mem_of_getElem? (i := 112) (by decide +kernel)
theorem gw_112 : Cond.fieldLink "LevelStore$Shelf" 30 "LevelStore$Entries" "size" "I" ∈ ga_G := List.mem_filter.mpr ⟨gl_112, rfl⟩
theorem gl_113 : Cond.fieldLink "LevelStore$Sorter" 33 "LevelStore$Entries" "size" "I" ∈ lw_tbl := List.mem_of_getElem? (i := 113) (by decide +kernel)
theorem gw_113 : Cond.fieldLink "LevelStore$Sorter" 33 "LevelStore$Entries" "size" "I" ∈ ga_G := List.mem_filter.mpr ⟨gl_113, rfl⟩
theorem gl_114 : Cond.fieldLink "LevelStore" 50 "LevelStore$Entries" "size" "I" ∈ lw_tbl := List.mem_of_getElem? (i := 114) (by decide +kernel)
theorem gw_114 : Cond.fieldLink "LevelStore" 50 "LevelStore$Entries" "size" "I" ∈ ga_G := List.mem_filter.mpr ⟨gl_114, rfl⟩
theorem gl_115 : Cond.fieldLink "LevelStore$Levels" 56 "LevelStore$Entries" "size" "I" ∈ lw_tbl := List.mem_of_getElem? (i := 115) (by decide +kernel)
theorem gw_115 : Cond.fieldLink "LevelStore$Levels" 56 "LevelStore$Entries" "size" "I" ∈ ga_G := List.mem_filter.mpr ⟨gl_115, rfl⟩
theorem gl_116 : Cond.laysFinal "LevelStore$Entries" "LevelStore$Entries" "keys" "[I" ∈ lw_tbl := List.mem_of_getElem? (i := 116) (by decide +kernel)
theorem gw_116 : Cond.laysFinal "LevelStore$Entries" "LevelStore$Entries" "keys" "[I" ∈ ga_G := List.mem_filter.mpr ⟨gl_116, rfl⟩
theorem gl_118 : Cond.laysFinal "LevelStore$Entries" "LevelStore$Entries" "numbers" "[I" ∈ lw_tbl := List.mem_of_getElem? (i := 118) (by decide +kernel)
theorem gw_118 : Cond.laysFinal "LevelStore$Entries" "LevelStore$Entries" "numbers" "[I" ∈ ga_G := List.mem_filter.mpr ⟨gl_118, rfl⟩
theorem gl_120 : Cond.laysFinal "LevelStore$Entries" "LevelStore$Entries" "values" "[I" ∈ lw_tbl := List.mem_of_getElem? (i := 120) (by decide +kernel)
theorem gw_120 : Cond.laysFinal "LevelStore$Entries" "LevelStore$Entries" "values" "[I" ∈ ga_G := List.mem_filter.mpr ⟨gl_120, rfl⟩
theorem gl_122 : Cond.laysFinal "LevelStore$Entries" "LevelStore$Entries" "gone" "[Z" ∈ lw_tbl := List.mem_of_getElem? (i := 122) (by decide +kernel)
theorem gw_122 : Cond.laysFinal "LevelStore$Entries" "LevelStore$Entries" "gone" "[Z" ∈ ga_G := List.mem_filter.mpr ⟨gl_122, rfl⟩
theorem gl_124 : Cond.laysFinal "LevelStore$Entries" "LevelStore$Entries" "spoiled" "[Z" ∈ lw_tbl := List.mem_of_getElem? (i := 124) (by decide +kernel)
theorem gw_124 : Cond.laysFinal "LevelStore$Entries" "LevelStore$Entries" "spoiled" "[Z" ∈ ga_G := List.mem_filter.mpr ⟨gl_124, rfl⟩
theorem gl_126 : Cond.lays "LevelStore$Entries" "LevelStore$Entries" "size" "I" ∈ lw_tbl := List.mem_of_getElem? (i := 126) (by decide +kernel)
theorem gw_126 : Cond.lays "LevelStore$Entries" "LevelStore$Entries" "size" "I" ∈ ga_G := List.mem_filter.mpr ⟨gl_126, rfl⟩
theorem gl_129 : Cond.arrayClass .int ∈ lw_tbl := List.mem_of_getElem? (i := 129) (by decide +kernel)
theorem gw_129 : Cond.arrayClass .int ∈ ga_G := List.mem_filter.mpr ⟨gl_129, rfl⟩
theorem gl_130 : Cond.arrayClass .boolean ∈ lw_tbl := List.mem_of_getElem? (i := 130) (by decide +kernel)
theorem gw_130 : Cond.arrayClass .boolean ∈ ga_G := List.mem_filter.mpr ⟨gl_130, rfl⟩
theorem gl_131 : Cond.fieldLink "LevelStore$Memory" 14 "LevelStore$Memory" "rows" "LLevelStore$Entries;" ∈ lw_tbl := List.mem_of_getElem? (i := 131) (by decide +kernel)
theorem gw_131 : Cond.fieldLink "LevelStore$Memory" 14 "LevelStore$Memory" "rows" "LLevelStore$Entries;" ∈ ga_G := List.mem_filter.mpr ⟨gl_131, rfl⟩
theorem gl_132 : Cond.fieldLink "LevelStore" 80 "LevelStore$Memory" "rows" "LLevelStore$Entries;" ∈ lw_tbl := List.mem_of_getElem? (i := 132) (by decide +kernel)
theorem gw_132 : Cond.fieldLink "LevelStore" 80 "LevelStore$Memory" "rows" "LLevelStore$Entries;" ∈ ga_G := List.mem_filter.mpr ⟨gl_132, rfl⟩
theorem gl_133 : Cond.fieldLink "LevelStore$Memory" 20 "LevelStore$Memory" "recordEnds" "[I" ∈ lw_tbl := List.mem_of_getElem? (i := 133) (by decide +kernel)
theorem gw_133 : Cond.fieldLink "LevelStore$Memory" 20 "LevelStore$Memory" "recordEnds" "[I" ∈ ga_G := List.mem_filter.mpr ⟨gl_133, rfl⟩
theorem gl_134 : Cond.fieldLink "LevelStore$Memory" 42 "LevelStore$Memory" "records" "I" ∈ lw_tbl := List.mem_of_getElem? (i := 134) (by decide +kernel)
theorem gw_134 : Cond.fieldLink "LevelStore$Memory" 42 "LevelStore$Memory" "records" "I" ∈ ga_G := List.mem_filter.mpr ⟨gl_134, rfl⟩
theorem gl_135 : Cond.fieldLink "LevelStore" 67 "LevelStore$Memory" "records" "I" ∈ lw_tbl := List.mem_of_getElem? (i := 135) (by decide +kernel)
theorem gw_135 : Cond.fieldLink "LevelStore" 67 "LevelStore$Memory" "records" "I" ∈ ga_G := List.mem_filter.mpr ⟨gl_135, rfl⟩
theorem gl_136 : Cond.fieldLink "LevelStore$Memory" 45 "LevelStore$Memory" "synced" "I" ∈ lw_tbl := List.mem_of_getElem? (i := 136) (by decide +kernel)
theorem gw_136 : Cond.fieldLink "LevelStore$Memory" 45 "LevelStore$Memory" "synced" "I" ∈ ga_G := List.mem_filter.mpr ⟨gl_136, rfl⟩
theorem gl_137 : Cond.fieldLink "LevelStore" 70 "LevelStore$Memory" "synced" "I" ∈ lw_tbl := List.mem_of_getElem? (i := 137) (by decide +kernel)
theorem gw_137 : Cond.fieldLink "LevelStore" 70 "LevelStore$Memory" "synced" "I" ∈ ga_G := List.mem_filter.mpr ⟨gl_137, rfl⟩
theorem gl_138 : Cond.laysFinal "LevelStore$Memory" "LevelStore$Memory" "rows" "LLevelStore$Entries;" ∈ lw_tbl := List.mem_of_getElem? (i := 138) (by decide +kernel)
theorem gw_138 : Cond.laysFinal "LevelStore$Memory" "LevelStore$Memory" "rows" "LLevelStore$Entries;" ∈ ga_G := List.mem_filter.mpr ⟨gl_138, rfl⟩
theorem gl_140 : Cond.laysFinal "LevelStore$Memory" "LevelStore$Memory" "recordEnds" "[I" ∈ lw_tbl := List.mem_of_getElem? (i := 140) (by decide +kernel)
theorem gw_140 : Cond.laysFinal "LevelStore$Memory" "LevelStore$Memory" "recordEnds" "[I" ∈ ga_G := List.mem_filter.mpr ⟨gl_140, rfl⟩
theorem gl_142 : Cond.lays "LevelStore$Memory" "LevelStore$Memory" "records" "I" ∈ lw_tbl := List.mem_of_getElem? (i := 142) (by decide +kernel)
theorem gw_142 : Cond.lays "LevelStore$Memory" "LevelStore$Memory" "records" "I" ∈ ga_G := List.mem_filter.mpr ⟨gl_142, rfl⟩
theorem gl_144 : Cond.lays "LevelStore$Memory" "LevelStore$Memory" "synced" "I" ∈ lw_tbl := List.mem_of_getElem? (i := 144) (by decide +kernel)
theorem gw_144 : Cond.lays "LevelStore$Memory" "LevelStore$Memory" "synced" "I" ∈ ga_G := List.mem_filter.mpr ⟨gl_144, rfl⟩
theorem gl_147 : Cond.classLink "LevelStore" 16 "LevelStore$Levels" ∈ lw_tbl := List.mem_of_getElem? (i := 147) (by decide +kernel)
theorem gw_147 : Cond.classLink "LevelStore" 16 "LevelStore$Levels" ∈ ga_G := List.mem_filter.mpr ⟨gl_147, rfl⟩
theorem gl_148 : Cond.instantiable "LevelStore$Levels" 9 ∈ lw_tbl := List.mem_of_getElem? (i := 148) (by decide +kernel)
theorem gw_148 : Cond.instantiable "LevelStore$Levels" 9 ∈ ga_G := List.mem_filter.mpr ⟨gl_148, rfl⟩
theorem gl_149 : Cond.methodLinkNest "LevelStore" 18 (⟨"LevelStore$Levels", "<init>", "()V"⟩ : MethodName) "LevelStore" ∈ lw_tbl := List.mem_of_getElem? (i := 149) (by decide +kernel)
theorem gl_150 : Cond.instanceMethod (⟨"LevelStore$Levels", "<init>", "()V"⟩ : MethodName) ∈ lw_tbl := List.mem_of_getElem? (i := 150) (by decide +kernel)
theorem gw_150 : Cond.instanceMethod (⟨"LevelStore$Levels", "<init>", "()V"⟩ : MethodName) ∈ ga_G := List.mem_filter.mpr ⟨gl_150, rfl⟩
theorem gl_151 : Cond.code y_V_init c_V_init 1 none ∈ lw_tbl := List.mem_of_getElem? (i := 151) (by decide +kernel)
theorem gw_151 : Cond.code y_V_init c_V_init 1 none ∈ ga_G := List.mem_filter.mpr ⟨gl_151, rfl⟩
theorem gl_152 : Cond.methodLink "LevelStore$Levels" 3 (⟨"java/lang/Object", "<init>", "()V"⟩ : MethodName) ∈ lw_tbl := List.mem_of_getElem? (i := 152) (by decide +kernel)
theorem gw_152 : Cond.methodLink "LevelStore$Levels" 3 (⟨"java/lang/Object", "<init>", "()V"⟩ : MethodName) ∈ ga_G := List.mem_filter.mpr ⟨gl_152, rfl⟩
theorem gl_153 : Cond.classLink "LevelStore$Levels" 9 "LevelStore$Shelf" ∈ lw_tbl := List.mem_of_getElem? (i := 153) (by decide +kernel)
theorem gw_153 : Cond.classLink "LevelStore$Levels" 9 "LevelStore$Shelf" ∈ ga_G := List.mem_filter.mpr ⟨gl_153, rfl⟩
theorem gl_154 : Cond.instantiable "LevelStore$Shelf" 5 ∈ lw_tbl := List.mem_of_getElem? (i := 154) (by decide +kernel)
theorem gw_154 : Cond.instantiable "LevelStore$Shelf" 5 ∈ ga_G := List.mem_filter.mpr ⟨gl_154, rfl⟩
theorem gl_155 : Cond.methodLinkNest "LevelStore$Levels" 11 (⟨"LevelStore$Shelf", "<init>", "()V"⟩ : MethodName) "LevelStore" ∈ lw_tbl := List.mem_of_getElem? (i := 155) (by decide +kernel)
theorem gl_156 : Cond.instanceMethod (⟨"LevelStore$Shelf", "<init>", "()V"⟩ : MethodName) ∈ lw_tbl := List.mem_of_getElem? (i := 156) (by decide +kernel)
theorem gw_156 : Cond.instanceMethod (⟨"LevelStore$Shelf", "<init>", "()V"⟩ : MethodName) ∈ ga_G := List.mem_filter.mpr ⟨gl_156, rfl⟩
theorem gl_157 : Cond.code y_S_init c_S_init 1 none ∈ lw_tbl := List.mem_of_getElem? (i := 157) (by decide +kernel)
theorem gw_157 : Cond.code y_S_init c_S_init 1 none ∈ ga_G := List.mem_filter.mpr ⟨gl_157, rfl⟩
theorem gl_158 : Cond.methodLink "LevelStore$Shelf" 3 (⟨"java/lang/Object", "<init>", "()V"⟩ : MethodName) ∈ lw_tbl := List.mem_of_getElem? (i := 158) (by decide +kernel)
theorem gw_158 : Cond.methodLink "LevelStore$Shelf" 3 (⟨"java/lang/Object", "<init>", "()V"⟩ : MethodName) ∈ ga_G := List.mem_filter.mpr ⟨gl_158, rfl⟩
theorem gl_159 : Cond.classLink "LevelStore$Shelf" 9 "LevelStore$Entries" ∈ lw_tbl := List.mem_of_getElem? (i := 159) (by decide +kernel)
theorem gw_159 : Cond.classLink "LevelStore$Shelf" 9 "LevelStore$Entries" ∈ ga_G := List.mem_filter.mpr ⟨gl_159, rfl⟩
theorem gl_160 : Cond.methodLink "LevelStore$Shelf" 11 (⟨"LevelStore$Entries", "<init>", "(I)V"⟩ : MethodName) ∈ lw_tbl := List.mem_of_getElem? (i := 160) (by decide +kernel)
theorem gw_160 : Cond.methodLink "LevelStore$Shelf" 11 (⟨"LevelStore$Entries", "<init>", "(I)V"⟩ : MethodName) ∈ ga_G := List.mem_filter.mpr ⟨gl_160, rfl⟩
theorem gl_161 : Cond.fieldLink "LevelStore$Shelf" 14 "LevelStore$Shelf" "rows" "LLevelStore$Entries;" ∈ lw_tbl := List.mem_of_getElem? (i := 161) (by decide +kernel)
theorem gw_161 : Cond.fieldLink "LevelStore$Shelf" 14 "LevelStore$Shelf" "rows" "LLevelStore$Entries;" ∈ ga_G := List.mem_filter.mpr ⟨gl_161, rfl⟩
theorem gl_162 : Cond.fieldLink "LevelStore$Levels" 67 "LevelStore$Shelf" "rows" "LLevelStore$Entries;" ∈ lw_tbl := List.mem_of_getElem? (i := 162) (by decide +kernel)
theorem gw_162 : Cond.fieldLink "LevelStore$Levels" 67 "LevelStore$Shelf" "rows" "LLevelStore$Entries;" ∈ ga_G := List.mem_filter.mpr ⟨gl_162, rfl⟩
theorem gl_163 : Cond.fieldLink "LevelStore" 90 "LevelStore$Shelf" "rows" "LLevelStore$Entries;" ∈ lw_tbl := List.mem_of_getElem? (i := 163) (by decide +kernel)
theorem gw_163 : Cond.fieldLink "LevelStore" 90 "LevelStore$Shelf" "rows" "LLevelStore$Entries;" ∈ ga_G := List.mem_filter.mpr ⟨gl_163, rfl⟩
theorem gl_164 : Cond.fieldLink "LevelStore$Shelf" 20 "LevelStore$Shelf" "numbers" "[I" ∈ lw_tbl := List.mem_of_getElem? (i := 164) (by decide +kernel)
theorem gw_164 : Cond.fieldLink "LevelStore$Shelf" 20 "LevelStore$Shelf" "numbers" "[I" ∈ ga_G := List.mem_filter.mpr ⟨gl_164, rfl⟩
theorem gl_165 : Cond.fieldLink "LevelStore$Levels" 97 "LevelStore$Shelf" "numbers" "[I" ∈ lw_tbl := List.mem_of_getElem? (i := 165) (by decide +kernel)
theorem gw_165 : Cond.fieldLink "LevelStore$Levels" 97 "LevelStore$Shelf" "numbers" "[I" ∈ ga_G := List.mem_filter.mpr ⟨gl_165, rfl⟩
theorem gl_166 : Cond.fieldLink "LevelStore" 157 "LevelStore$Shelf" "numbers" "[I" ∈ lw_tbl := List.mem_of_getElem? (i := 166) (by decide +kernel)
theorem gw_166 : Cond.fieldLink "LevelStore" 157 "LevelStore$Shelf" "numbers" "[I" ∈ ga_G := List.mem_filter.mpr ⟨gl_166, rfl⟩
theorem gl_167 : Cond.fieldLink "LevelStore$Shelf" 24 "LevelStore$Shelf" "levelOf" "[I" ∈ lw_tbl := List.mem_of_getElem? (i := 167) (by decide +kernel)
theorem gw_167 : Cond.fieldLink "LevelStore$Shelf" 24 "LevelStore$Shelf" "levelOf" "[I" ∈ ga_G := List.mem_filter.mpr ⟨gl_167, rfl⟩
theorem gl_168 : Cond.fieldLink "LevelStore$Levels" 100 "LevelStore$Shelf" "levelOf" "[I" ∈ lw_tbl := List.mem_of_getElem? (i := 168) (by decide +kernel)
theorem gw_168 : Cond.fieldLink "LevelStore$Levels" 100 "LevelStore$Shelf" "levelOf" "[I" ∈ ga_G := List.mem_filter.mpr ⟨gl_168, rfl⟩
theorem gl_169 : Cond.fieldLink "LevelStore" 160 "LevelStore$Shelf" "levelOf" "[I" ∈ lw_tbl := List.mem_of_getElem? (i := 169) (by decide +kernel)
theorem gw_169 : Cond.fieldLink "LevelStore" 160 "LevelStore$Shelf" "levelOf" "[I" ∈ ga_G := List.mem_filter.mpr ⟨gl_169, rfl⟩
theorem gl_170 : Cond.fieldLink "LevelStore$Shelf" 27 "LevelStore$Shelf" "bounds" "[I" ∈ lw_tbl := List.mem_of_getElem? (i := 170) (by decide +kernel)
theorem gw_170 : Cond.fieldLink "LevelStore$Shelf" 27 "LevelStore$Shelf" "bounds" "[I" ∈ ga_G := List.mem_filter.mpr ⟨gl_170, rfl⟩
theorem gl_171 : Cond.fieldLink "LevelStore$Levels" 87 "LevelStore$Shelf" "bounds" "[I" ∈ lw_tbl := List.mem_of_getElem? (i := 171) (by decide +kernel)
theorem gw_171 : Cond.fieldLink "LevelStore$Levels" 87 "LevelStore$Shelf" "bounds" "[I" ∈ ga_G := List.mem_filter.mpr ⟨gl_171, rfl⟩
theorem gl_172 : Cond.fieldLink "LevelStore" 234 "LevelStore$Shelf" "bounds" "[I" ∈ lw_tbl := List.mem_of_getElem? (i := 172) (by decide +kernel)
theorem gw_172 : Cond.fieldLink "LevelStore" 234 "LevelStore$Shelf" "bounds" "[I" ∈ ga_G := List.mem_filter.mpr ⟨gl_172, rfl⟩
end
section
theorem gl_173 : Cond.fieldLink "LevelStore$Shelf" 34 "LevelStore$Shelf" "tables" "I" ∈ lw_tbl := List.mem_of_getElem? (i := 173) (by decide +kernel)
theorem gw_173 : Cond.fieldLink "LevelStore$Shelf" 34 "LevelStore$Shelf" "tables" "I" ∈ ga_G := List.mem_filter.mpr ⟨gl_173, rfl⟩
theorem gl_174 : Cond.fieldLink "LevelStore$Levels" 77 "LevelStore$Shelf" "tables" "I" ∈ lw_tbl := List.mem_of_getElem? (i := 174) (by decide +kernel)
theorem gw_174 : Cond.fieldLink "LevelStore$Levels" 77 "LevelStore$Shelf" "tables" "I" ∈ ga_G := List.mem_filter.mpr ⟨gl_174, rfl⟩
theorem gl_175 : Cond.fieldLink "LevelStore" 112 "LevelStore$Shelf" "tables" "I" ∈ lw_tbl := List.mem_of_getElem? (i := 175) (by decide +kernel)
theorem gw_175 : Cond.fieldLink "LevelStore" 112 "LevelStore$Shelf" "tables" "I" ∈ ga_G := List.mem_filter.mpr ⟨gl_175, rfl⟩
theorem gl_176 : Cond.laysFinal "LevelStore$Shelf" "LevelStore$Shelf" "rows" "LLevelStore$Entries;" ∈ lw_tbl := List.mem_of_getElem? (i := 176) (by decide +kernel)
theorem gw_176 : Cond.laysFinal "LevelStore$Shelf" "LevelStore$Shelf" "rows" "LLevelStore$Entries;" ∈ ga_G := List.mem_filter.mpr ⟨gl_176, rfl⟩
theorem gl_178 : Cond.laysFinal "LevelStore$Shelf" "LevelStore$Shelf" "numbers" "[I" ∈ lw_tbl := List.mem_of_getElem? (i := 178) (by decide +kernel)
theorem gw_178 : Cond.laysFinal "LevelStore$Shelf" "LevelStore$Shelf" "numbers" "[I" ∈ ga_G := List.mem_filter.mpr ⟨gl_178, rfl⟩
theorem gl_180 : Cond.laysFinal "LevelStore$Shelf" "LevelStore$Shelf" "levelOf" "[I" ∈ lw_tbl := List.mem_of_getElem? (i := 180) (by decide +kernel)
theorem gw_180 : Cond.laysFinal "LevelStore$Shelf" "LevelStore$Shelf" "levelOf" "[I" ∈ ga_G := List.mem_filter.mpr ⟨gl_180, rfl⟩
theorem gl_182 : Cond.laysFinal "LevelStore$Shelf" "LevelStore$Shelf" "bounds" "[I" ∈ lw_tbl := List.mem_of_getElem? (i := 182) (by decide +kernel)
theorem gw_182 : Cond.laysFinal "LevelStore$Shelf" "LevelStore$Shelf" "bounds" "[I" ∈ ga_G := List.mem_filter.mpr ⟨gl_182, rfl⟩
theorem gl_184 : Cond.lays "LevelStore$Shelf" "LevelStore$Shelf" "tables" "I" ∈ lw_tbl := List.mem_of_getElem? (i := 184) (by decide +kernel)
theorem gw_184 : Cond.lays "LevelStore$Shelf" "LevelStore$Shelf" "tables" "I" ∈ ga_G := List.mem_filter.mpr ⟨gl_184, rfl⟩
theorem gl_187 : Cond.classLink "LevelStore$Levels" 21 "LevelStore$Sorter" ∈ lw_tbl := List.mem_of_getElem? (i := 187) (by decide +kernel)
theorem gw_187 : Cond.classLink "LevelStore$Levels" 21 "LevelStore$Sorter" ∈ ga_G := List.mem_filter.mpr ⟨gl_187, rfl⟩
theorem gl_188 : Cond.instantiable "LevelStore$Sorter" 3 ∈ lw_tbl := List.mem_of_getElem? (i := 188) (by decide +kernel)
theorem gw_188 : Cond.instantiable "LevelStore$Sorter" 3 ∈ ga_G := List.mem_filter.mpr ⟨gl_188, rfl⟩
theorem gl_189 : Cond.methodLinkNest "LevelStore$Levels" 23 (⟨"LevelStore$Sorter", "<init>", "()V"⟩ : MethodName) "LevelStore" ∈ lw_tbl := List.mem_of_getElem? (i := 189) (by decide +kernel)
theorem gl_190 : Cond.instanceMethod (⟨"LevelStore$Sorter", "<init>", "()V"⟩ : MethodName) ∈ lw_tbl := List.mem_of_getElem? (i := 190) (by decide +kernel)
theorem gw_190 : Cond.instanceMethod (⟨"LevelStore$Sorter", "<init>", "()V"⟩ : MethodName) ∈ ga_G := List.mem_filter.mpr ⟨gl_190, rfl⟩
theorem gl_191 : Cond.code y_O_init c_O_init 1 none ∈ lw_tbl := List.mem_of_getElem? (i := 191) (by decide +kernel)
theorem gw_191 : Cond.code y_O_init c_O_init 1 none ∈ ga_G := List.mem_filter.mpr ⟨gl_191, rfl⟩
theorem gl_192 : Cond.methodLink "LevelStore$Sorter" 3 (⟨"java/lang/Object", "<init>", "()V"⟩ : MethodName) ∈ lw_tbl := List.mem_of_getElem? (i := 192) (by decide +kernel)
theorem gw_192 : Cond.methodLink "LevelStore$Sorter" 3 (⟨"java/lang/Object", "<init>", "()V"⟩ : MethodName) ∈ ga_G := List.mem_filter.mpr ⟨gl_192, rfl⟩
theorem gl_193 : Cond.classLink "LevelStore$Sorter" 9 "LevelStore$Entries" ∈ lw_tbl := List.mem_of_getElem? (i := 193) (by decide +kernel)
theorem gw_193 : Cond.classLink "LevelStore$Sorter" 9 "LevelStore$Entries" ∈ ga_G := List.mem_filter.mpr ⟨gl_193, rfl⟩
theorem gl_194 : Cond.methodLink "LevelStore$Sorter" 11 (⟨"LevelStore$Entries", "<init>", "(I)V"⟩ : MethodName) ∈ lw_tbl := List.mem_of_getElem? (i := 194) (by decide +kernel)
theorem gw_194 : Cond.methodLink "LevelStore$Sorter" 11 (⟨"LevelStore$Entries", "<init>", "(I)V"⟩ : MethodName) ∈ ga_G := List.mem_filter.mpr ⟨gl_194, rfl⟩
theorem gl_195 : Cond.fieldLink "LevelStore$Sorter" 14 "LevelStore$Sorter" "loose" "LLevelStore$Entries;" ∈ lw_tbl := List.mem_of_getElem? (i := 195) (by decide +kernel)
theorem gw_195 : Cond.fieldLink "LevelStore$Sorter" 14 "LevelStore$Sorter" "loose" "LLevelStore$Entries;" ∈ ga_G := List.mem_filter.mpr ⟨gl_195, rfl⟩
theorem gl_196 : Cond.fieldLink "LevelStore$Levels" 53 "LevelStore$Sorter" "loose" "LLevelStore$Entries;" ∈ lw_tbl := List.mem_of_getElem? (i := 196) (by decide +kernel)
theorem gw_196 : Cond.fieldLink "LevelStore$Levels" 53 "LevelStore$Sorter" "loose" "LLevelStore$Entries;" ∈ ga_G := List.mem_filter.mpr ⟨gl_196, rfl⟩
theorem gl_197 : Cond.fieldLink "LevelStore$Sorter" 20 "LevelStore$Sorter" "places" "[I" ∈ lw_tbl := List.mem_of_getElem? (i := 197) (by decide +kernel)
theorem gw_197 : Cond.fieldLink "LevelStore$Sorter" 20 "LevelStore$Sorter" "places" "[I" ∈ ga_G := List.mem_filter.mpr ⟨gl_197, rfl⟩
theorem gl_198 : Cond.fieldLink "LevelStore$Sorter" 24 "LevelStore$Sorter" "order" "[I" ∈ lw_tbl := List.mem_of_getElem? (i := 198) (by decide +kernel)
theorem gw_198 : Cond.fieldLink "LevelStore$Sorter" 24 "LevelStore$Sorter" "order" "[I" ∈ ga_G := List.mem_filter.mpr ⟨gl_198, rfl⟩
theorem gl_199 : Cond.laysFinal "LevelStore$Sorter" "LevelStore$Sorter" "loose" "LLevelStore$Entries;" ∈ lw_tbl := List.mem_of_getElem? (i := 199) (by decide +kernel)
theorem gw_199 : Cond.laysFinal "LevelStore$Sorter" "LevelStore$Sorter" "loose" "LLevelStore$Entries;" ∈ ga_G := List.mem_filter.mpr ⟨gl_199, rfl⟩
theorem gl_201 : Cond.laysFinal "LevelStore$Sorter" "LevelStore$Sorter" "places" "[I" ∈ lw_tbl := List.mem_of_getElem? (i := 201) (by decide +kernel)
theorem gw_201 : Cond.laysFinal "LevelStore$Sorter" "LevelStore$Sorter" "places" "[I" ∈ ga_G := List.mem_filter.mpr ⟨gl_201, rfl⟩
theorem gl_203 : Cond.laysFinal "LevelStore$Sorter" "LevelStore$Sorter" "order" "[I" ∈ lw_tbl := List.mem_of_getElem? (i := 203) (by decide +kernel)
theorem gw_203 : Cond.laysFinal "LevelStore$Sorter" "LevelStore$Sorter" "order" "[I" ∈ ga_G := List.mem_filter.mpr ⟨gl_203, rfl⟩
theorem gl_206 : Cond.classLink "LevelStore$Levels" 28 "LevelStore$Entries" ∈ lw_tbl := List.mem_of_getElem? (i := 206) (by decide +kernel)
theorem gw_206 : Cond.classLink "LevelStore$Levels" 28 "LevelStore$Entries" ∈ ga_G := List.mem_filter.mpr ⟨gl_206, rfl⟩
theorem gl_207 : Cond.methodLink "LevelStore$Levels" 30 (⟨"LevelStore$Entries", "<init>", "(I)V"⟩ : MethodName) ∈ lw_tbl := List.mem_of_getElem? (i := 207) (by decide +kernel)
theorem gw_207 : Cond.methodLink "LevelStore$Levels" 30 (⟨"LevelStore$Entries", "<init>", "(I)V"⟩ : MethodName) ∈ ga_G := List.mem_filter.mpr ⟨gl_207, rfl⟩
theorem gl_208 : Cond.fieldLink "LevelStore$Levels" 12 "LevelStore$Levels" "shelf" "LLevelStore$Shelf;" ∈ lw_tbl := List.mem_of_getElem? (i := 208) (by decide +kernel)
theorem gw_208 : Cond.fieldLink "LevelStore$Levels" 12 "LevelStore$Levels" "shelf" "LLevelStore$Shelf;" ∈ ga_G := List.mem_filter.mpr ⟨gl_208, rfl⟩
theorem gl_209 : Cond.fieldLink "LevelStore" 86 "LevelStore$Levels" "shelf" "LLevelStore$Shelf;" ∈ lw_tbl := List.mem_of_getElem? (i := 209) (by decide +kernel)
theorem gw_209 : Cond.fieldLink "LevelStore" 86 "LevelStore$Levels" "shelf" "LLevelStore$Shelf;" ∈ ga_G := List.mem_filter.mpr ⟨gl_209, rfl⟩
theorem gl_210 : Cond.fieldLink "LevelStore$Levels" 18 "LevelStore$Levels" "spare" "LLevelStore$Shelf;" ∈ lw_tbl := List.mem_of_getElem? (i := 210) (by decide +kernel)
theorem gw_210 : Cond.fieldLink "LevelStore$Levels" 18 "LevelStore$Levels" "spare" "LLevelStore$Shelf;" ∈ ga_G := List.mem_filter.mpr ⟨gl_210, rfl⟩
theorem gl_211 : Cond.fieldLink "LevelStore$Levels" 24 "LevelStore$Levels" "sorter" "LLevelStore$Sorter;" ∈ lw_tbl := List.mem_of_getElem? (i := 211) (by decide +kernel)
theorem gw_211 : Cond.fieldLink "LevelStore$Levels" 24 "LevelStore$Levels" "sorter" "LLevelStore$Sorter;" ∈ ga_G := List.mem_filter.mpr ⟨gl_211, rfl⟩
theorem gl_212 : Cond.fieldLink "LevelStore$Levels" 33 "LevelStore$Levels" "merged" "LLevelStore$Entries;" ∈ lw_tbl := List.mem_of_getElem? (i := 212) (by decide +kernel)
theorem gw_212 : Cond.fieldLink "LevelStore$Levels" 33 "LevelStore$Levels" "merged" "LLevelStore$Entries;" ∈ ga_G := List.mem_filter.mpr ⟨gl_212, rfl⟩
theorem gl_213 : Cond.fieldLink "LevelStore$Levels" 37 "LevelStore$Levels" "joining" "[Z" ∈ lw_tbl := List.mem_of_getElem? (i := 213) (by decide +kernel)
theorem gw_213 : Cond.fieldLink "LevelStore$Levels" 37 "LevelStore$Levels" "joining" "[Z" ∈ ga_G := List.mem_filter.mpr ⟨gl_213, rfl⟩
theorem gl_214 : Cond.fieldLink "LevelStore$Levels" 41 "LevelStore$Levels" "pointers" "[I" ∈ lw_tbl := List.mem_of_getElem? (i := 214) (by decide +kernel)
theorem gw_214 : Cond.fieldLink "LevelStore$Levels" 41 "LevelStore$Levels" "pointers" "[I" ∈ ga_G := List.mem_filter.mpr ⟨gl_214, rfl⟩
theorem gl_215 : Cond.fieldLink "LevelStore" 190 "LevelStore$Levels" "pointers" "[I" ∈ lw_tbl := List.mem_of_getElem? (i := 215) (by decide +kernel)
theorem gw_215 : Cond.fieldLink "LevelStore" 190 "LevelStore$Levels" "pointers" "[I" ∈ ga_G := List.mem_filter.mpr ⟨gl_215, rfl⟩
theorem gl_216 : Cond.fieldLink "LevelStore$Levels" 45 "LevelStore$Levels" "stuck" "Z" ∈ lw_tbl := List.mem_of_getElem? (i := 216) (by decide +kernel)
theorem gw_216 : Cond.fieldLink "LevelStore$Levels" 45 "LevelStore$Levels" "stuck" "Z" ∈ ga_G := List.mem_filter.mpr ⟨gl_216, rfl⟩
theorem gl_217 : Cond.fieldLink "LevelStore" 178 "LevelStore$Levels" "stuck" "Z" ∈ lw_tbl := List.mem_of_getElem? (i := 217) (by decide +kernel)
theorem gw_217 : Cond.fieldLink "LevelStore" 178 "LevelStore$Levels" "stuck" "Z" ∈ ga_G := List.mem_filter.mpr ⟨gl_217, rfl⟩
theorem gl_218 : Cond.fieldLink "LevelStore$Levels" 172 "LevelStore$Levels" "made" "I" ∈ lw_tbl := List.mem_of_getElem? (i := 218) (by decide +kernel)
theorem gw_218 : Cond.fieldLink "LevelStore$Levels" 172 "LevelStore$Levels" "made" "I" ∈ ga_G := List.mem_filter.mpr ⟨gl_218, rfl⟩
theorem gl_219 : Cond.fieldLink "LevelStore" 184 "LevelStore$Levels" "made" "I" ∈ lw_tbl := List.mem_of_getElem? (i := 219) (by decide +kernel)
theorem gw_219 : Cond.fieldLink "LevelStore" 184 "LevelStore$Levels" "made" "I" ∈ ga_G := List.mem_filter.mpr ⟨gl_219, rfl⟩
theorem gl_220 : Cond.fieldLink "LevelStore$Levels" 162 "LevelStore$Levels" "dropped" "I" ∈ lw_tbl := List.mem_of_getElem? (i := 220) (by decide +kernel)
theorem gw_220 : Cond.fieldLink "LevelStore$Levels" 162 "LevelStore$Levels" "dropped" "I" ∈ ga_G := List.mem_filter.mpr ⟨gl_220, rfl⟩
theorem gl_221 : Cond.fieldLink "LevelStore" 187 "LevelStore$Levels" "dropped" "I" ∈ lw_tbl := List.mem_of_getElem? (i := 221) (by decide +kernel)
theorem gw_221 : Cond.fieldLink "LevelStore" 187 "LevelStore$Levels" "dropped" "I" ∈ ga_G := List.mem_filter.mpr ⟨gl_221, rfl⟩
theorem gl_222 : Cond.lays "LevelStore$Levels" "LevelStore$Levels" "shelf" "LLevelStore$Shelf;" ∈ lw_tbl := List.mem_of_getElem? (i := 222) (by decide +kernel)
theorem gw_222 : Cond.lays "LevelStore$Levels" "LevelStore$Levels" "shelf" "LLevelStore$Shelf;" ∈ ga_G := List.mem_filter.mpr ⟨gl_222, rfl⟩
theorem gl_224 : Cond.lays "LevelStore$Levels" "LevelStore$Levels" "spare" "LLevelStore$Shelf;" ∈ lw_tbl := List.mem_of_getElem? (i := 224) (by decide +kernel)
theorem gw_224 : Cond.lays "LevelStore$Levels" "LevelStore$Levels" "spare" "LLevelStore$Shelf;" ∈ ga_G := List.mem_filter.mpr ⟨gl_224, rfl⟩
theorem gl_226 : Cond.laysFinal "LevelStore$Levels" "LevelStore$Levels" "sorter" "LLevelStore$Sorter;" ∈ lw_tbl := List.mem_of_getElem? (i := 226) (by decide +kernel)
theorem gw_226 : Cond.laysFinal "LevelStore$Levels" "LevelStore$Levels" "sorter" "LLevelStore$Sorter;" ∈ ga_G := List.mem_filter.mpr ⟨gl_226, rfl⟩
theorem gl_228 : Cond.laysFinal "LevelStore$Levels" "LevelStore$Levels" "merged" "LLevelStore$Entries;" ∈ lw_tbl := List.mem_of_getElem? (i := 228) (by decide +kernel)
theorem gw_228 : Cond.laysFinal "LevelStore$Levels" "LevelStore$Levels" "merged" "LLevelStore$Entries;" ∈ ga_G := List.mem_filter.mpr ⟨gl_228, rfl⟩
theorem gl_230 : Cond.laysFinal "LevelStore$Levels" "LevelStore$Levels" "joining" "[Z" ∈ lw_tbl := List.mem_of_getElem? (i := 230) (by decide +kernel)
theorem gw_230 : Cond.laysFinal "LevelStore$Levels" "LevelStore$Levels" "joining" "[Z" ∈ ga_G := List.mem_filter.mpr ⟨gl_230, rfl⟩
theorem gl_232 : Cond.laysFinal "LevelStore$Levels" "LevelStore$Levels" "pointers" "[I" ∈ lw_tbl := List.mem_of_getElem? (i := 232) (by decide +kernel)
theorem gw_232 : Cond.laysFinal "LevelStore$Levels" "LevelStore$Levels" "pointers" "[I" ∈ ga_G := List.mem_filter.mpr ⟨gl_232, rfl⟩
theorem gl_234 : Cond.lays "LevelStore$Levels" "LevelStore$Levels" "stuck" "Z" ∈ lw_tbl := List.mem_of_getElem? (i := 234) (by decide +kernel)
theorem gw_234 : Cond.lays "LevelStore$Levels" "LevelStore$Levels" "stuck" "Z" ∈ ga_G := List.mem_filter.mpr ⟨gl_234, rfl⟩
theorem gl_236 : Cond.lays "LevelStore$Levels" "LevelStore$Levels" "made" "I" ∈ lw_tbl := List.mem_of_getElem? (i := 236) (by decide +kernel)
theorem gw_236 : Cond.lays "LevelStore$Levels" "LevelStore$Levels" "made" "I" ∈ ga_G := List.mem_filter.mpr ⟨gl_236, rfl⟩
theorem gl_238 : Cond.lays "LevelStore$Levels" "LevelStore$Levels" "dropped" "I" ∈ lw_tbl := List.mem_of_getElem? (i := 238) (by decide +kernel)
theorem gw_238 : Cond.lays "LevelStore$Levels" "LevelStore$Levels" "dropped" "I" ∈ ga_G := List.mem_filter.mpr ⟨gl_238, rfl⟩
theorem gl_241 : Cond.classLink "LevelStore" 23 "LevelStore$Entries" ∈ lw_tbl := List.mem_of_getElem? (i := 241) (by decide +kernel)
theorem gw_241 : Cond.classLink "LevelStore" 23 "LevelStore$Entries" ∈ ga_G := List.mem_filter.mpr ⟨gl_241, rfl⟩
theorem gl_242 : Cond.methodLink "LevelStore" 25 (⟨"LevelStore$Entries", "<init>", "(I)V"⟩ : MethodName) ∈ lw_tbl := List.mem_of_getElem? (i := 242) (by decide +kernel)
theorem gw_242 : Cond.methodLink "LevelStore" 25 (⟨"LevelStore$Entries", "<init>", "(I)V"⟩ : MethodName) ∈ ga_G := List.mem_filter.mpr ⟨gl_242, rfl⟩
theorem gl_243 : Cond.methodLink "LevelStore" 36 (⟨"java/util/Arrays", "fill", "([II)V"⟩ : MethodName) ∈ lw_tbl := List.mem_of_getElem? (i := 243) (by decide +kernel)
theorem gw_243 : Cond.methodLink "LevelStore" 36 (⟨"java/util/Arrays", "fill", "([II)V"⟩ : MethodName) ∈ ga_G := List.mem_filter.mpr ⟨gl_243, rfl⟩
theorem gl_244 : Cond.static (⟨"java/util/Arrays", "fill", "([II)V"⟩ : MethodName) ∈ lw_tbl := List.mem_of_getElem? (i := 244) (by decide +kernel)
theorem gw_244 : Cond.static (⟨"java/util/Arrays", "fill", "([II)V"⟩ : MethodName) ∈ ga_G := List.mem_filter.mpr ⟨gl_244, rfl⟩
theorem gl_245 : Cond.code y_J_fill c_J_fill 4 none ∈ lw_tbl := List.mem_of_getElem? (i := 245) (by decide +kernel)
theorem gw_245 : Cond.code y_J_fill c_J_fill 4 none ∈ ga_G := List.mem_filter.mpr ⟨gl_245, rfl⟩
theorem gl_246 : Cond.fieldLink "LevelStore" 10 "LevelStore" "memory" "LLevelStore$Memory;" ∈ lw_tbl := List.mem_of_getElem? (i := 246) (by decide +kernel)
theorem gw_246 : Cond.fieldLink "LevelStore" 10 "LevelStore" "memory" "LLevelStore$Memory;" ∈ ga_G := List.mem_filter.mpr ⟨gl_246, rfl⟩
theorem gl_247 : Cond.fieldLink "LevelStore" 19 "LevelStore" "levels" "LLevelStore$Levels;" ∈ lw_tbl := List.mem_of_getElem? (i := 247) (by decide +kernel)
theorem gw_247 : Cond.fieldLink "LevelStore" 19 "LevelStore" "levels" "LLevelStore$Levels;" ∈ ga_G := List.mem_filter.mpr ⟨gl_247, rfl⟩
theorem gl_248 : Cond.fieldLink "LevelStore" 28 "LevelStore" "pending" "LLevelStore$Entries;" ∈ lw_tbl := List.mem_of_getElem? (i := 248) (by decide +kernel)
theorem gw_248 : Cond.fieldLink "LevelStore" 28 "LevelStore" "pending" "LLevelStore$Entries;" ∈ ga_G := List.mem_filter.mpr ⟨gl_248, rfl⟩
theorem gl_249 : Cond.fieldLink "LevelStore" 32 "LevelStore" "snapshots" "[I" ∈ lw_tbl := List.mem_of_getElem? (i := 249) (by decide +kernel)
theorem gw_249 : Cond.fieldLink "LevelStore" 32 "LevelStore" "snapshots" "[I" ∈ ga_G := List.mem_filter.mpr ⟨gl_249, rfl⟩
theorem gl_250 : Cond.fieldLink "LevelStore" 46 "LevelStore" "batchOpen" "Z" ∈ lw_tbl := List.mem_of_getElem? (i := 250) (by decide +kernel)
theorem gw_250 : Cond.fieldLink "LevelStore" 46 "LevelStore" "batchOpen" "Z" ∈ ga_G := List.mem_filter.mpr ⟨gl_250, rfl⟩
theorem gl_251 : Cond.fieldLink "LevelStore" 61 "LevelStore" "latest" "I" ∈ lw_tbl := List.mem_of_getElem? (i := 251) (by decide +kernel)
theorem gw_251 : Cond.fieldLink "LevelStore" 61 "LevelStore" "latest" "I" ∈ ga_G := List.mem_filter.mpr ⟨gl_251, rfl⟩
theorem gl_252 : Cond.fieldLink "LevelStore" 154 "LevelStore" "reads" "I" ∈ lw_tbl := List.mem_of_getElem? (i := 252) (by decide +kernel)
theorem gw_252 : Cond.fieldLink "LevelStore" 154 "LevelStore" "reads" "I" ∈ ga_G := List.mem_filter.mpr ⟨gl_252, rfl⟩
theorem gl_253 : Cond.fieldLink "LevelStore" 181 "LevelStore" "misses" "I" ∈ lw_tbl := List.mem_of_getElem? (i := 253) (by decide +kernel)
theorem gw_253 : Cond.fieldLink "LevelStore" 181 "LevelStore" "misses" "I" ∈ ga_G := List.mem_filter.mpr ⟨gl_253, rfl⟩
theorem gl_254 : Cond.fieldLink "LevelStore" 119 "LevelStore" "gets" "I" ∈ lw_tbl := List.mem_of_getElem? (i := 254) (by decide +kernel)
theorem gw_254 : Cond.fieldLink "LevelStore" 119 "LevelStore" "gets" "I" ∈ ga_G := List.mem_filter.mpr ⟨gl_254, rfl⟩
theorem gl_255 : Cond.laysFinal "LevelStore" "LevelStore" "memory" "LLevelStore$Memory;" ∈ lw_tbl := List.mem_of_getElem? (i := 255) (by decide +kernel)
theorem gw_255 : Cond.laysFinal "LevelStore" "LevelStore" "memory" "LLevelStore$Memory;" ∈ ga_G := List.mem_filter.mpr ⟨gl_255, rfl⟩
theorem gl_257 : Cond.laysFinal "LevelStore" "LevelStore" "levels" "LLevelStore$Levels;" ∈ lw_tbl := List.mem_of_getElem? (i := 257) (by decide +kernel)
theorem gw_257 : Cond.laysFinal "LevelStore" "LevelStore" "levels" "LLevelStore$Levels;" ∈ ga_G := List.mem_filter.mpr ⟨gl_257, rfl⟩
theorem gl_259 : Cond.laysFinal "LevelStore" "LevelStore" "pending" "LLevelStore$Entries;" ∈ lw_tbl := List.mem_of_getElem? (i := 259) (by decide +kernel)
theorem gw_259 : Cond.laysFinal "LevelStore" "LevelStore" "pending" "LLevelStore$Entries;" ∈ ga_G := List.mem_filter.mpr ⟨gl_259, rfl⟩
theorem gl_261 : Cond.laysFinal "LevelStore" "LevelStore" "snapshots" "[I" ∈ lw_tbl := List.mem_of_getElem? (i := 261) (by decide +kernel)
theorem gw_261 : Cond.laysFinal "LevelStore" "LevelStore" "snapshots" "[I" ∈ ga_G := List.mem_filter.mpr ⟨gl_261, rfl⟩
theorem gl_263 : Cond.lays "LevelStore" "LevelStore" "batchOpen" "Z" ∈ lw_tbl := List.mem_of_getElem? (i := 263) (by decide +kernel)
theorem gw_263 : Cond.lays "LevelStore" "LevelStore" "batchOpen" "Z" ∈ ga_G := List.mem_filter.mpr ⟨gl_263, rfl⟩
theorem gl_265 : Cond.lays "LevelStore" "LevelStore" "latest" "I" ∈ lw_tbl := List.mem_of_getElem? (i := 265) (by decide +kernel)
theorem gw_265 : Cond.lays "LevelStore" "LevelStore" "latest" "I" ∈ ga_G := List.mem_filter.mpr ⟨gl_265, rfl⟩
theorem gl_267 : Cond.lays "LevelStore" "LevelStore" "reads" "I" ∈ lw_tbl := List.mem_of_getElem? (i := 267) (by decide +kernel)
theorem gw_267 : Cond.lays "LevelStore" "LevelStore" "reads" "I" ∈ ga_G := List.mem_filter.mpr ⟨gl_267, rfl⟩
theorem gl_269 : Cond.lays "LevelStore" "LevelStore" "misses" "I" ∈ lw_tbl := List.mem_of_getElem? (i := 269) (by decide +kernel)
theorem gw_269 : Cond.lays "LevelStore" "LevelStore" "misses" "I" ∈ ga_G := List.mem_filter.mpr ⟨gl_269, rfl⟩
theorem gl_271 : Cond.lays "LevelStore" "LevelStore" "gets" "I" ∈ lw_tbl := List.mem_of_getElem? (i := 271) (by decide +kernel)
theorem gw_271 : Cond.lays "LevelStore" "LevelStore" "gets" "I" ∈ ga_G := List.mem_filter.mpr ⟨gl_271, rfl⟩
theorem gl_282 : Cond.methodLink "LevelStore" 148 (⟨"LevelStore$Levels", "loseSpoiled", "()I"⟩ : MethodName) ∈ lw_tbl := List.mem_of_getElem? (i := 282) (by decide +kernel)
theorem gw_282 : Cond.methodLink "LevelStore" 148 (⟨"LevelStore$Levels", "loseSpoiled", "()I"⟩ : MethodName) ∈ ga_G := List.mem_filter.mpr ⟨gl_282, rfl⟩
theorem gl_283 : Cond.instanceMethod (⟨"LevelStore$Levels", "loseSpoiled", "()I"⟩ : MethodName) ∈ lw_tbl := List.mem_of_getElem? (i := 283) (by decide +kernel)
theorem gw_283 : Cond.instanceMethod (⟨"LevelStore$Levels", "loseSpoiled", "()I"⟩ : MethodName) ∈ ga_G := List.mem_filter.mpr ⟨gl_283, rfl⟩
theorem gl_284 : Cond.selects "LevelStore$Levels" (⟨"LevelStore$Levels", "loseSpoiled", "()I"⟩ : MethodName) (⟨"LevelStore$Levels", "loseSpoiled", "()I"⟩ : MethodName) ∈ lw_tbl := List.mem_of_getElem? (i := 284) (by decide +kernel)
theorem gw_284 : Cond.selects "LevelStore$Levels" (⟨"LevelStore$Levels", "loseSpoiled", "()I"⟩ : MethodName) (⟨"LevelStore$Levels", "loseSpoiled", "()I"⟩ : MethodName) ∈ ga_G := List.mem_filter.mpr ⟨gl_284, rfl⟩
theorem gl_285 : Cond.code y_V_loseSpoiled c_V_loseSpoiled 3 (some .int) ∈ lw_tbl := List.mem_of_getElem? (i := 285) (by decide +kernel)
theorem gw_285 : Cond.code y_V_loseSpoiled c_V_loseSpoiled 3 (some .int) ∈ ga_G := List.mem_filter.mpr ⟨gl_285, rfl⟩
theorem gl_286 : Cond.methodLink "LevelStore$Levels" 64 (⟨"LevelStore$Shelf", "clear", "()V"⟩ : MethodName) ∈ lw_tbl := List.mem_of_getElem? (i := 286) (by decide +kernel)
theorem gw_286 : Cond.methodLink "LevelStore$Levels" 64 (⟨"LevelStore$Shelf", "clear", "()V"⟩ : MethodName) ∈ ga_G := List.mem_filter.mpr ⟨gl_286, rfl⟩
theorem gl_287 : Cond.instanceMethod (⟨"LevelStore$Shelf", "clear", "()V"⟩ : MethodName) ∈ lw_tbl := List.mem_of_getElem? (i := 287) (by decide +kernel)
theorem gw_287 : Cond.instanceMethod (⟨"LevelStore$Shelf", "clear", "()V"⟩ : MethodName) ∈ ga_G := List.mem_filter.mpr ⟨gl_287, rfl⟩
theorem gl_288 : Cond.selects "LevelStore$Shelf" (⟨"LevelStore$Shelf", "clear", "()V"⟩ : MethodName) (⟨"LevelStore$Shelf", "clear", "()V"⟩ : MethodName) ∈ lw_tbl := List.mem_of_getElem? (i := 288) (by decide +kernel)
theorem gw_288 : Cond.selects "LevelStore$Shelf" (⟨"LevelStore$Shelf", "clear", "()V"⟩ : MethodName) (⟨"LevelStore$Shelf", "clear", "()V"⟩ : MethodName) ∈ ga_G := List.mem_filter.mpr ⟨gl_288, rfl⟩
theorem gl_289 : Cond.code y_S_clear c_S_clear 1 none ∈ lw_tbl := List.mem_of_getElem? (i := 289) (by decide +kernel)
theorem gw_289 : Cond.code y_S_clear c_S_clear 1 none ∈ ga_G := List.mem_filter.mpr ⟨gl_289, rfl⟩
theorem gl_290 : Cond.methodLink "LevelStore$Levels" 60 (⟨"LevelStore$Entries", "addFrom", "(LLevelStore$Entries;I)V"⟩ : MethodName) ∈ lw_tbl := List.mem_of_getElem? (i := 290) (by decide +kernel)
theorem gw_290 : Cond.methodLink "LevelStore$Levels" 60 (⟨"LevelStore$Entries", "addFrom", "(LLevelStore$Entries;I)V"⟩ : MethodName) ∈ ga_G := List.mem_filter.mpr ⟨gl_290, rfl⟩
theorem gl_291 : Cond.instanceMethod (⟨"LevelStore$Entries", "addFrom", "(LLevelStore$Entries;I)V"⟩ : MethodName) ∈ lw_tbl := List.mem_of_getElem? (i := 291) (by decide +kernel)
theorem gw_291 : Cond.instanceMethod (⟨"LevelStore$Entries", "addFrom", "(LLevelStore$Entries;I)V"⟩ : MethodName) ∈ ga_G := List.mem_filter.mpr ⟨gl_291, rfl⟩
theorem gl_292 : Cond.selects "LevelStore$Entries" (⟨"LevelStore$Entries", "addFrom", "(LLevelStore$Entries;I)V"⟩ : MethodName) (⟨"LevelStore$Entries", "addFrom", "(LLevelStore$Entries;I)V"⟩ : MethodName) ∈ lw_tbl := List.mem_of_getElem? (i := 292) (by decide +kernel)
theorem gw_292 : Cond.selects "LevelStore$Entries" (⟨"LevelStore$Entries", "addFrom", "(LLevelStore$Entries;I)V"⟩ : MethodName) (⟨"LevelStore$Entries", "addFrom", "(LLevelStore$Entries;I)V"⟩ : MethodName) ∈ ga_G := List.mem_filter.mpr ⟨gl_292, rfl⟩
theorem gl_293 : Cond.code y_E_addFrom c_E_addFrom 3 none ∈ lw_tbl := List.mem_of_getElem? (i := 293) (by decide +kernel)
theorem gw_293 : Cond.code y_E_addFrom c_E_addFrom 3 none ∈ ga_G := List.mem_filter.mpr ⟨gl_293, rfl⟩
theorem gl_294 : Cond.methodLink "LevelStore$Levels" 93 (⟨"LevelStore$Shelf", "hasLooseRows", "()Z"⟩ : MethodName) ∈ lw_tbl := List.mem_of_getElem? (i := 294) (by decide +kernel)
theorem gw_294 : Cond.methodLink "LevelStore$Levels" 93 (⟨"LevelStore$Shelf", "hasLooseRows", "()Z"⟩ : MethodName) ∈ ga_G := List.mem_filter.mpr ⟨gl_294, rfl⟩
theorem gl_295 : Cond.instanceMethod (⟨"LevelStore$Shelf", "hasLooseRows", "()Z"⟩ : MethodName) ∈ lw_tbl := List.mem_of_getElem? (i := 295) (by decide +kernel)
theorem gw_295 : Cond.instanceMethod (⟨"LevelStore$Shelf", "hasLooseRows", "()Z"⟩ : MethodName) ∈ ga_G := List.mem_filter.mpr ⟨gl_295, rfl⟩
theorem gl_296 : Cond.selects "LevelStore$Shelf" (⟨"LevelStore$Shelf", "hasLooseRows", "()Z"⟩ : MethodName) (⟨"LevelStore$Shelf", "hasLooseRows", "()Z"⟩ : MethodName) ∈ lw_tbl := List.mem_of_getElem? (i := 296) (by decide +kernel)
theorem gw_296 : Cond.selects "LevelStore$Shelf" (⟨"LevelStore$Shelf", "hasLooseRows", "()Z"⟩ : MethodName) (⟨"LevelStore$Shelf", "hasLooseRows", "()Z"⟩ : MethodName) ∈ ga_G := List.mem_filter.mpr ⟨gl_296, rfl⟩
theorem gl_297 : Cond.code y_S_hasLooseRows c_S_hasLooseRows 1 (some .boolean) ∈ lw_tbl := List.mem_of_getElem? (i := 297) (by decide +kernel)
theorem gw_297 : Cond.code y_S_hasLooseRows c_S_hasLooseRows 1 (some .boolean) ∈ ga_G := List.mem_filter.mpr ⟨gl_297, rfl⟩
theorem gl_298 : Cond.methodLink "LevelStore$Levels" 103 (⟨"LevelStore$Shelf", "endTable", "(II)V"⟩ : MethodName) ∈ lw_tbl := List.mem_of_getElem? (i := 298) (by decide +kernel)
theorem gw_298 : Cond.methodLink "LevelStore$Levels" 103 (⟨"LevelStore$Shelf", "endTable", "(II)V"⟩ : MethodName) ∈ ga_G := List.mem_filter.mpr ⟨gl_298, rfl⟩
theorem gl_299 : Cond.instanceMethod (⟨"LevelStore$Shelf", "endTable", "(II)V"⟩ : MethodName) ∈ lw_tbl := List.mem_of_getElem? (i := 299) (by decide +kernel)
theorem gw_299 : Cond.instanceMethod (⟨"LevelStore$Shelf", "endTable", "(II)V"⟩ : MethodName) ∈ ga_G := List.mem_filter.mpr ⟨gl_299, rfl⟩
theorem gl_300 : Cond.selects "LevelStore$Shelf" (⟨"LevelStore$Shelf", "endTable", "(II)V"⟩ : MethodName) (⟨"LevelStore$Shelf", "endTable", "(II)V"⟩ : MethodName) ∈ lw_tbl := List.mem_of_getElem? (i := 300) (by decide +kernel)
theorem gw_300 : Cond.selects "LevelStore$Shelf" (⟨"LevelStore$Shelf", "endTable", "(II)V"⟩ : MethodName) (⟨"LevelStore$Shelf", "endTable", "(II)V"⟩ : MethodName) ∈ ga_G := List.mem_filter.mpr ⟨gl_300, rfl⟩
theorem gl_301 : Cond.code y_S_endTable c_S_endTable 3 none ∈ lw_tbl := List.mem_of_getElem? (i := 301) (by decide +kernel)
theorem gw_301 : Cond.code y_S_endTable c_S_endTable 3 none ∈ ga_G := List.mem_filter.mpr ⟨gl_301, rfl⟩
theorem gl_302 : Cond.methodLink "LevelStore$Levels" 84 (⟨"LevelStore$Levels", "changeShelf", "()V"⟩ : MethodName) ∈ lw_tbl := List.mem_of_getElem? (i := 302) (by decide +kernel)
theorem gw_302 : Cond.methodLink "LevelStore$Levels" 84 (⟨"LevelStore$Levels", "changeShelf", "()V"⟩ : MethodName) ∈ ga_G := List.mem_filter.mpr ⟨gl_302, rfl⟩
theorem gl_304 : Cond.instanceMethod (⟨"LevelStore$Levels", "changeShelf", "()V"⟩ : MethodName) ∈ lw_tbl := List.mem_of_getElem? (i := 304) (by decide +kernel)
theorem gw_304 : Cond.instanceMethod (⟨"LevelStore$Levels", "changeShelf", "()V"⟩ : MethodName) ∈ ga_G := List.mem_filter.mpr ⟨gl_304, rfl⟩
theorem gl_305 : Cond.code y_V_changeShelf c_V_changeShelf 2 none ∈ lw_tbl := List.mem_of_getElem? (i := 305) (by decide +kernel)
theorem gw_305 : Cond.code y_V_changeShelf c_V_changeShelf 2 none ∈ ga_G := List.mem_filter.mpr ⟨gl_305, rfl⟩
theorem gl_306 : Cond.methodLink "LevelStore" 106 (⟨"LevelStore", "oldest", "()I"⟩ : MethodName) ∈ lw_tbl := List.mem_of_getElem? (i := 306) (by decide +kernel)
theorem gw_306 : Cond.methodLink "LevelStore" 106 (⟨"LevelStore", "oldest", "()I"⟩ : MethodName) ∈ ga_G := List.mem_filter.mpr ⟨gl_306, rfl⟩
theorem gl_308 : Cond.instanceMethod (⟨"LevelStore", "oldest", "()I"⟩ : MethodName) ∈ lw_tbl := List.mem_of_getElem? (i := 308) (by decide +kernel)
theorem gw_308 : Cond.instanceMethod (⟨"LevelStore", "oldest", "()I"⟩ : MethodName) ∈ ga_G := List.mem_filter.mpr ⟨gl_308, rfl⟩
theorem gl_309 : Cond.code y_L_oldest c_L_oldest 3 (some .int) ∈ lw_tbl := List.mem_of_getElem? (i := 309) (by decide +kernel)
theorem gw_309 : Cond.code y_L_oldest c_L_oldest 3 (some .int) ∈ ga_G := List.mem_filter.mpr ⟨gl_309, rfl⟩
theorem gl_310 : Cond.methodLink "LevelStore" 199 (⟨"java/lang/Math", "min", "(II)I"⟩ : MethodName) ∈ lw_tbl := List.mem_of_getElem? (i := 310) (by decide +kernel)
theorem gw_310 : Cond.methodLink "LevelStore" 199 (⟨"java/lang/Math", "min", "(II)I"⟩ : MethodName) ∈ ga_G := List.mem_filter.mpr ⟨gl_310, rfl⟩
theorem gl_311 : Cond.static (⟨"java/lang/Math", "min", "(II)I"⟩ : MethodName) ∈ lw_tbl := List.mem_of_getElem? (i := 311) (by decide +kernel)
theorem gw_311 : Cond.static (⟨"java/lang/Math", "min", "(II)I"⟩ : MethodName) ∈ ga_G := List.mem_filter.mpr ⟨gl_311, rfl⟩
theorem gl_312 : Cond.code Lib.Math.min.name Lib.Math.min.code 2 (some .int) ∈ lw_tbl := List.mem_of_getElem? (i := 312) (by decide +kernel)
theorem gw_312 : Cond.code Lib.Math.min.name Lib.Math.min.code 2 (some .int) ∈ ga_G := List.mem_filter.mpr ⟨gl_312, rfl⟩
theorem gl_313 : Cond.methodLink "LevelStore" 109 (⟨"LevelStore$Levels", "tidy", "(I)V"⟩ : MethodName) ∈ lw_tbl := List.mem_of_getElem? (i := 313) (by decide +kernel)
theorem gw_313 : Cond.methodLink "LevelStore" 109 (⟨"LevelStore$Levels", "tidy", "(I)V"⟩ : MethodName) ∈ ga_G := List.mem_filter.mpr ⟨gl_313, rfl⟩
theorem gl_314 : Cond.instanceMethod (⟨"LevelStore$Levels", "tidy", "(I)V"⟩ : MethodName) ∈ lw_tbl := List.mem_of_getElem? (i := 314) (by decide +kernel)
theorem gw_314 : Cond.instanceMethod (⟨"LevelStore$Levels", "tidy", "(I)V"⟩ : MethodName) ∈ ga_G := List.mem_filter.mpr ⟨gl_314, rfl⟩
theorem gl_315 : Cond.selects "LevelStore$Levels" (⟨"LevelStore$Levels", "tidy", "(I)V"⟩ : MethodName) (⟨"LevelStore$Levels", "tidy", "(I)V"⟩ : MethodName) ∈ lw_tbl := List.mem_of_getElem? (i := 315) (by decide +kernel)
theorem gw_315 : Cond.selects "LevelStore$Levels" (⟨"LevelStore$Levels", "tidy", "(I)V"⟩ : MethodName) (⟨"LevelStore$Levels", "tidy", "(I)V"⟩ : MethodName) ∈ ga_G := List.mem_filter.mpr ⟨gl_315, rfl⟩
theorem gl_316 : Cond.code y_V_tidy c_V_tidy 6 none ∈ lw_tbl := List.mem_of_getElem? (i := 316) (by decide +kernel)
theorem gw_316 : Cond.code y_V_tidy c_V_tidy 6 none ∈ ga_G := List.mem_filter.mpr ⟨gl_316, rfl⟩
theorem gl_317 : Cond.methodLink "LevelStore$Levels" 107 (⟨"LevelStore$Levels", "fullLevel", "()I"⟩ : MethodName) ∈ lw_tbl := List.mem_of_getElem? (i := 317) (by decide +kernel)
theorem gw_317 : Cond.methodLink "LevelStore$Levels" 107 (⟨"LevelStore$Levels", "fullLevel", "()I"⟩ : MethodName) ∈ ga_G := List.mem_filter.mpr ⟨gl_317, rfl⟩
theorem gl_319 : Cond.instanceMethod (⟨"LevelStore$Levels", "fullLevel", "()I"⟩ : MethodName) ∈ lw_tbl := List.mem_of_getElem? (i := 319) (by decide +kernel)
theorem gw_319 : Cond.instanceMethod (⟨"LevelStore$Levels", "fullLevel", "()I"⟩ : MethodName) ∈ ga_G := List.mem_filter.mpr ⟨gl_319, rfl⟩
theorem gl_320 : Cond.code y_V_fullLevel c_V_fullLevel 2 (some .int) ∈ lw_tbl := List.mem_of_getElem? (i := 320) (by decide +kernel)
theorem gw_320 : Cond.code y_V_fullLevel c_V_fullLevel 2 (some .int) ∈ ga_G := List.mem_filter.mpr ⟨gl_320, rfl⟩
theorem gl_321 : Cond.methodLink "LevelStore$Levels" 49 (⟨"LevelStore$Shelf", "tablesOn", "(I)I"⟩ : MethodName) ∈ lw_tbl := List.mem_of_getElem? (i := 321) (by decide +kernel)
theorem gw_321 : Cond.methodLink "LevelStore$Levels" 49 (⟨"LevelStore$Shelf", "tablesOn", "(I)I"⟩ : MethodName) ∈ ga_G := List.mem_filter.mpr ⟨gl_321, rfl⟩
theorem gl_322 : Cond.instanceMethod (⟨"LevelStore$Shelf", "tablesOn", "(I)I"⟩ : MethodName) ∈ lw_tbl := List.mem_of_getElem? (i := 322) (by decide +kernel)
theorem gw_322 : Cond.instanceMethod (⟨"LevelStore$Shelf", "tablesOn", "(I)I"⟩ : MethodName) ∈ ga_G := List.mem_filter.mpr ⟨gl_322, rfl⟩
theorem gl_323 : Cond.selects "LevelStore$Shelf" (⟨"LevelStore$Shelf", "tablesOn", "(I)I"⟩ : MethodName) (⟨"LevelStore$Shelf", "tablesOn", "(I)I"⟩ : MethodName) ∈ lw_tbl := List.mem_of_getElem? (i := 323) (by decide +kernel)
theorem gw_323 : Cond.selects "LevelStore$Shelf" (⟨"LevelStore$Shelf", "tablesOn", "(I)I"⟩ : MethodName) (⟨"LevelStore$Shelf", "tablesOn", "(I)I"⟩ : MethodName) ∈ ga_G := List.mem_filter.mpr ⟨gl_323, rfl⟩
theorem gl_324 : Cond.code y_S_tablesOn c_S_tablesOn 4 (some .int) ∈ lw_tbl := List.mem_of_getElem? (i := 324) (by decide +kernel)
theorem gw_324 : Cond.code y_S_tablesOn c_S_tablesOn 4 (some .int) ∈ ga_G := List.mem_filter.mpr ⟨gl_324, rfl⟩
theorem gl_325 : Cond.methodLink "LevelStore$Levels" 111 (⟨"LevelStore$Shelf", "firstAbove", "(II)I"⟩ : MethodName) ∈ lw_tbl := List.mem_of_getElem? (i := 325) (by decide +kernel)
theorem gw_325 : Cond.methodLink "LevelStore$Levels" 111 (⟨"LevelStore$Shelf", "firstAbove", "(II)I"⟩ : MethodName) ∈ ga_G := List.mem_filter.mpr ⟨gl_325, rfl⟩
theorem gl_326 : Cond.instanceMethod (⟨"LevelStore$Shelf", "firstAbove", "(II)I"⟩ : MethodName) ∈ lw_tbl := List.mem_of_getElem? (i := 326) (by decide +kernel)
theorem gw_326 : Cond.instanceMethod (⟨"LevelStore$Shelf", "firstAbove", "(II)I"⟩ : MethodName) ∈ ga_G := List.mem_filter.mpr ⟨gl_326, rfl⟩
theorem gl_327 : Cond.selects "LevelStore$Shelf" (⟨"LevelStore$Shelf", "firstAbove", "(II)I"⟩ : MethodName) (⟨"LevelStore$Shelf", "firstAbove", "(II)I"⟩ : MethodName) ∈ lw_tbl := List.mem_of_getElem? (i := 327) (by decide +kernel)
theorem gw_327 : Cond.selects "LevelStore$Shelf" (⟨"LevelStore$Shelf", "firstAbove", "(II)I"⟩ : MethodName) (⟨"LevelStore$Shelf", "firstAbove", "(II)I"⟩ : MethodName) ∈ ga_G := List.mem_filter.mpr ⟨gl_327, rfl⟩
theorem gl_328 : Cond.code y_S_firstAbove c_S_firstAbove 5 (some .int) ∈ lw_tbl := List.mem_of_getElem? (i := 328) (by decide +kernel)
theorem gw_328 : Cond.code y_S_firstAbove c_S_firstAbove 5 (some .int) ∈ ga_G := List.mem_filter.mpr ⟨gl_328, rfl⟩
theorem gl_329 : Cond.methodLink "LevelStore$Shelf" 48 (⟨"LevelStore$Shelf", "leastKey", "(I)I"⟩ : MethodName) ∈ lw_tbl := List.mem_of_getElem? (i := 329) (by decide +kernel)
theorem gw_329 : Cond.methodLink "LevelStore$Shelf" 48 (⟨"LevelStore$Shelf", "leastKey", "(I)I"⟩ : MethodName) ∈ ga_G := List.mem_filter.mpr ⟨gl_329, rfl⟩
theorem gl_330 : Cond.instanceMethod (⟨"LevelStore$Shelf", "leastKey", "(I)I"⟩ : MethodName) ∈ lw_tbl := List.mem_of_getElem? (i := 330) (by decide +kernel)
theorem gw_330 : Cond.instanceMethod (⟨"LevelStore$Shelf", "leastKey", "(I)I"⟩ : MethodName) ∈ ga_G := List.mem_filter.mpr ⟨gl_330, rfl⟩
theorem gl_331 : Cond.selects "LevelStore$Shelf" (⟨"LevelStore$Shelf", "leastKey", "(I)I"⟩ : MethodName) (⟨"LevelStore$Shelf", "leastKey", "(I)I"⟩ : MethodName) ∈ lw_tbl := List.mem_of_getElem? (i := 331) (by decide +kernel)
theorem gw_331 : Cond.selects "LevelStore$Shelf" (⟨"LevelStore$Shelf", "leastKey", "(I)I"⟩ : MethodName) (⟨"LevelStore$Shelf", "leastKey", "(I)I"⟩ : MethodName) ∈ ga_G := List.mem_filter.mpr ⟨gl_331, rfl⟩
theorem gl_332 : Cond.code y_S_leastKey c_S_leastKey 2 (some .int) ∈ lw_tbl := List.mem_of_getElem? (i := 332) (by decide +kernel)
theorem gw_332 : Cond.code y_S_leastKey c_S_leastKey 2 (some .int) ∈ ga_G := List.mem_filter.mpr ⟨gl_332, rfl⟩
theorem gl_333 : Cond.methodLink "LevelStore$Levels" 115 (⟨"LevelStore$Levels", "merge", "(IIII)V"⟩ : MethodName) ∈ lw_tbl := List.mem_of_getElem? (i := 333) (by decide +kernel)
theorem gw_333 : Cond.methodLink "LevelStore$Levels" 115 (⟨"LevelStore$Levels", "merge", "(IIII)V"⟩ : MethodName) ∈ ga_G := List.mem_filter.mpr ⟨gl_333, rfl⟩
theorem gl_335 : Cond.instanceMethod (⟨"LevelStore$Levels", "merge", "(IIII)V"⟩ : MethodName) ∈ lw_tbl := List.mem_of_getElem? (i := 335) (by decide +kernel)
theorem gw_335 : Cond.instanceMethod (⟨"LevelStore$Levels", "merge", "(IIII)V"⟩ : MethodName) ∈ ga_G := List.mem_filter.mpr ⟨gl_335, rfl⟩
theorem gl_336 : Cond.code y_V_merge c_V_merge 9 none ∈ lw_tbl := List.mem_of_getElem? (i := 336) (by decide +kernel)
theorem gw_336 : Cond.code y_V_merge c_V_merge 9 none ∈ ga_G := List.mem_filter.mpr ⟨gl_336, rfl⟩
theorem gl_337 : Cond.methodLink "LevelStore$Levels" 119 (⟨"LevelStore$Shelf", "leastKey", "(I)I"⟩ : MethodName) ∈ lw_tbl := List.mem_of_getElem? (i := 337) (by decide +kernel)
theorem gw_337 : Cond.methodLink "LevelStore$Levels" 119 (⟨"LevelStore$Shelf", "leastKey", "(I)I"⟩ : MethodName) ∈ ga_G := List.mem_filter.mpr ⟨gl_337, rfl⟩
theorem gl_338 : Cond.methodLink "LevelStore$Levels" 122 (⟨"java/lang/Math", "min", "(II)I"⟩ : MethodName) ∈ lw_tbl := List.mem_of_getElem? (i := 338) (by decide +kernel)
theorem gw_338 : Cond.methodLink "LevelStore$Levels" 122 (⟨"java/lang/Math", "min", "(II)I"⟩ : MethodName) ∈ ga_G := List.mem_filter.mpr ⟨gl_338, rfl⟩
theorem gl_339 : Cond.methodLink "LevelStore$Levels" 127 (⟨"LevelStore$Shelf", "greatestKey", "(I)I"⟩ : MethodName) ∈ lw_tbl := List.mem_of_getElem? (i := 339) (by decide +kernel)
theorem gw_339 : Cond.methodLink "LevelStore$Levels" 127 (⟨"LevelStore$Shelf", "greatestKey", "(I)I"⟩ : MethodName) ∈ ga_G := List.mem_filter.mpr ⟨gl_339, rfl⟩
theorem gl_340 : Cond.instanceMethod (⟨"LevelStore$Shelf", "greatestKey", "(I)I"⟩ : MethodName) ∈ lw_tbl := List.mem_of_getElem? (i := 340) (by decide +kernel)
theorem gw_340 : Cond.instanceMethod (⟨"LevelStore$Shelf", "greatestKey", "(I)I"⟩ : MethodName) ∈ ga_G := List.mem_filter.mpr ⟨gl_340, rfl⟩
theorem gl_341 : Cond.selects "LevelStore$Shelf" (⟨"LevelStore$Shelf", "greatestKey", "(I)I"⟩ : MethodName) (⟨"LevelStore$Shelf", "greatestKey", "(I)I"⟩ : MethodName) ∈ lw_tbl := List.mem_of_getElem? (i := 341) (by decide +kernel)
theorem gw_341 : Cond.selects "LevelStore$Shelf" (⟨"LevelStore$Shelf", "greatestKey", "(I)I"⟩ : MethodName) (⟨"LevelStore$Shelf", "greatestKey", "(I)I"⟩ : MethodName) ∈ ga_G := List.mem_filter.mpr ⟨gl_341, rfl⟩
theorem gl_342 : Cond.code y_S_greatestKey c_S_greatestKey 2 (some .int) ∈ lw_tbl := List.mem_of_getElem? (i := 342) (by decide +kernel)
theorem gw_342 : Cond.code y_S_greatestKey c_S_greatestKey 2 (some .int) ∈ ga_G := List.mem_filter.mpr ⟨gl_342, rfl⟩
theorem gl_343 : Cond.methodLink "LevelStore$Levels" 130 (⟨"java/lang/Math", "max", "(II)I"⟩ : MethodName) ∈ lw_tbl := List.mem_of_getElem? (i := 343) (by decide +kernel)
theorem gw_343 : Cond.methodLink "LevelStore$Levels" 130 (⟨"java/lang/Math", "max", "(II)I"⟩ : MethodName) ∈ ga_G := List.mem_filter.mpr ⟨gl_343, rfl⟩
theorem gl_344 : Cond.static (⟨"java/lang/Math", "max", "(II)I"⟩ : MethodName) ∈ lw_tbl := List.mem_of_getElem? (i := 344) (by decide +kernel)
theorem gw_344 : Cond.static (⟨"java/lang/Math", "max", "(II)I"⟩ : MethodName) ∈ ga_G := List.mem_filter.mpr ⟨gl_344, rfl⟩
theorem gl_345 : Cond.code Lib.Math.max.name Lib.Math.max.code 2 (some .int) ∈ lw_tbl := List.mem_of_getElem? (i := 345) (by decide +kernel)
theorem gw_345 : Cond.code Lib.Math.max.name Lib.Math.max.code 2 (some .int) ∈ ga_G := List.mem_filter.mpr ⟨gl_345, rfl⟩
theorem gl_346 : Cond.methodLink "LevelStore$Levels" 133 (⟨"LevelStore$Shelf", "meets", "(III)Z"⟩ : MethodName) ∈ lw_tbl := List.mem_of_getElem? (i := 346) (by decide +kernel)
theorem gw_346 : Cond.methodLink "LevelStore$Levels" 133 (⟨"LevelStore$Shelf", "meets", "(III)Z"⟩ : MethodName) ∈ ga_G := List.mem_filter.mpr ⟨gl_346, rfl⟩
theorem gl_347 : Cond.instanceMethod (⟨"LevelStore$Shelf", "meets", "(III)Z"⟩ : MethodName) ∈ lw_tbl := List.mem_of_getElem? (i := 347) (by decide +kernel)
theorem gw_347 : Cond.instanceMethod (⟨"LevelStore$Shelf", "meets", "(III)Z"⟩ : MethodName) ∈ ga_G := List.mem_filter.mpr ⟨gl_347, rfl⟩
theorem gl_348 : Cond.selects "LevelStore$Shelf" (⟨"LevelStore$Shelf", "meets", "(III)Z"⟩ : MethodName) (⟨"LevelStore$Shelf", "meets", "(III)Z"⟩ : MethodName) ∈ lw_tbl := List.mem_of_getElem? (i := 348) (by decide +kernel)
theorem gw_348 : Cond.selects "LevelStore$Shelf" (⟨"LevelStore$Shelf", "meets", "(III)Z"⟩ : MethodName) (⟨"LevelStore$Shelf", "meets", "(III)Z"⟩ : MethodName) ∈ ga_G := List.mem_filter.mpr ⟨gl_348, rfl⟩
theorem gl_349 : Cond.code y_S_meets c_S_meets 4 (some .boolean) ∈ lw_tbl := List.mem_of_getElem? (i := 349) (by decide +kernel)
theorem gw_349 : Cond.code y_S_meets c_S_meets 4 (some .boolean) ∈ ga_G := List.mem_filter.mpr ⟨gl_349, rfl⟩
theorem gl_350 : Cond.methodLink "LevelStore$Shelf" 52 (⟨"LevelStore$Shelf", "greatestKey", "(I)I"⟩ : MethodName) ∈ lw_tbl := List.mem_of_getElem? (i := 350) (by decide +kernel)
theorem gw_350 : Cond.methodLink "LevelStore$Shelf" 52 (⟨"LevelStore$Shelf", "greatestKey", "(I)I"⟩ : MethodName) ∈ ga_G := List.mem_filter.mpr ⟨gl_350, rfl⟩
theorem gl_351 : Cond.methodLink "LevelStore$Levels" 137 (⟨"LevelStore$Shelf", "spoiledBlocksOf", "(I)I"⟩ : MethodName) ∈ lw_tbl := List.mem_of_getElem? (i := 351) (by decide +kernel)
theorem gw_351 : Cond.methodLink "LevelStore$Levels" 137 (⟨"LevelStore$Shelf", "spoiledBlocksOf", "(I)I"⟩ : MethodName) ∈ ga_G := List.mem_filter.mpr ⟨gl_351, rfl⟩
theorem gl_352 : Cond.instanceMethod (⟨"LevelStore$Shelf", "spoiledBlocksOf", "(I)I"⟩ : MethodName) ∈ lw_tbl := List.mem_of_getElem? (i := 352) (by decide +kernel)
theorem gw_352 : Cond.instanceMethod (⟨"LevelStore$Shelf", "spoiledBlocksOf", "(I)I"⟩ : MethodName) ∈ ga_G := List.mem_filter.mpr ⟨gl_352, rfl⟩
theorem gl_353 : Cond.selects "LevelStore$Shelf" (⟨"LevelStore$Shelf", "spoiledBlocksOf", "(I)I"⟩ : MethodName) (⟨"LevelStore$Shelf", "spoiledBlocksOf", "(I)I"⟩ : MethodName) ∈ lw_tbl := List.mem_of_getElem? (i := 353) (by decide +kernel)
theorem gw_353 : Cond.selects "LevelStore$Shelf" (⟨"LevelStore$Shelf", "spoiledBlocksOf", "(I)I"⟩ : MethodName) (⟨"LevelStore$Shelf", "spoiledBlocksOf", "(I)I"⟩ : MethodName) ∈ ga_G := List.mem_filter.mpr ⟨gl_353, rfl⟩
theorem gl_354 : Cond.code y_S_spoiledBlocksOf c_S_spoiledBlocksOf 4 (some .int) ∈ lw_tbl := List.mem_of_getElem? (i := 354) (by decide +kernel)
theorem gw_354 : Cond.code y_S_spoiledBlocksOf c_S_spoiledBlocksOf 4 (some .int) ∈ ga_G := List.mem_filter.mpr ⟨gl_354, rfl⟩
theorem gl_355 : Cond.methodLink "LevelStore$Levels" 140 (⟨"LevelStore$Levels", "sortJoining", "()V"⟩ : MethodName) ∈ lw_tbl := List.mem_of_getElem? (i := 355) (by decide +kernel)
theorem gw_355 : Cond.methodLink "LevelStore$Levels" 140 (⟨"LevelStore$Levels", "sortJoining", "()V"⟩ : MethodName) ∈ ga_G := List.mem_filter.mpr ⟨gl_355, rfl⟩
theorem gl_357 : Cond.instanceMethod (⟨"LevelStore$Levels", "sortJoining", "()V"⟩ : MethodName) ∈ lw_tbl := List.mem_of_getElem? (i := 357) (by decide +kernel)
theorem gw_357 : Cond.instanceMethod (⟨"LevelStore$Levels", "sortJoining", "()V"⟩ : MethodName) ∈ ga_G := List.mem_filter.mpr ⟨gl_357, rfl⟩
theorem gl_358 : Cond.code y_V_sortJoining c_V_sortJoining 3 none ∈ lw_tbl := List.mem_of_getElem? (i := 358) (by decide +kernel)
theorem gw_358 : Cond.code y_V_sortJoining c_V_sortJoining 3 none ∈ ga_G := List.mem_filter.mpr ⟨gl_358, rfl⟩
theorem gl_359 : Cond.methodLink "LevelStore$Levels" 70 (⟨"LevelStore$Sorter", "addSorted", "(LLevelStore$Entries;)V"⟩ : MethodName) ∈ lw_tbl := List.mem_of_getElem? (i := 359) (by decide +kernel)
theorem gw_359 : Cond.methodLink "LevelStore$Levels" 70 (⟨"LevelStore$Sorter", "addSorted", "(LLevelStore$Entries;)V"⟩ : MethodName) ∈ ga_G := List.mem_filter.mpr ⟨gl_359, rfl⟩
theorem gl_360 : Cond.instanceMethod (⟨"LevelStore$Sorter", "addSorted", "(LLevelStore$Entries;)V"⟩ : MethodName) ∈ lw_tbl := List.mem_of_getElem? (i := 360) (by decide +kernel)
theorem gw_360 : Cond.instanceMethod (⟨"LevelStore$Sorter", "addSorted", "(LLevelStore$Entries;)V"⟩ : MethodName) ∈ ga_G := List.mem_filter.mpr ⟨gl_360, rfl⟩
theorem gl_361 : Cond.selects "LevelStore$Sorter" (⟨"LevelStore$Sorter", "addSorted", "(LLevelStore$Entries;)V"⟩ : MethodName) (⟨"LevelStore$Sorter", "addSorted", "(LLevelStore$Entries;)V"⟩ : MethodName) ∈ lw_tbl := List.mem_of_getElem? (i := 361) (by decide +kernel)
theorem gw_361 : Cond.selects "LevelStore$Sorter" (⟨"LevelStore$Sorter", "addSorted", "(LLevelStore$Entries;)V"⟩ : MethodName) (⟨"LevelStore$Sorter", "addSorted", "(LLevelStore$Entries;)V"⟩ : MethodName) ∈ ga_G := List.mem_filter.mpr ⟨gl_361, rfl⟩
theorem gl_362 : Cond.code y_O_addSorted c_O_addSorted 4 none ∈ lw_tbl := List.mem_of_getElem? (i := 362) (by decide +kernel)
theorem gw_362 : Cond.code y_O_addSorted c_O_addSorted 4 none ∈ ga_G := List.mem_filter.mpr ⟨gl_362, rfl⟩
theorem gl_363 : Cond.methodLink "LevelStore$Sorter" 27 (⟨"java/util/Arrays", "fill", "([II)V"⟩ : MethodName) ∈ lw_tbl := List.mem_of_getElem? (i := 363) (by decide +kernel)
theorem gw_363 : Cond.methodLink "LevelStore$Sorter" 27 (⟨"java/util/Arrays", "fill", "([II)V"⟩ : MethodName) ∈ ga_G := List.mem_filter.mpr ⟨gl_363, rfl⟩
theorem gl_364 : Cond.methodLink "LevelStore$Sorter" 40 (⟨"LevelStore$Entries", "addFrom", "(LLevelStore$Entries;I)V"⟩ : MethodName) ∈ lw_tbl := List.mem_of_getElem? (i := 364) (by decide +kernel)
theorem gw_364 : Cond.methodLink "LevelStore$Sorter" 40 (⟨"LevelStore$Entries", "addFrom", "(LLevelStore$Entries;I)V"⟩ : MethodName) ∈ ga_G := List.mem_filter.mpr ⟨gl_364, rfl⟩
theorem gl_365 : Cond.methodLink "LevelStore$Levels" 143 (⟨"LevelStore$Shelf", "placeBehind", "(II)I"⟩ : MethodName) ∈ lw_tbl := List.mem_of_getElem? (i := 365) (by decide +kernel)
theorem gw_365 : Cond.methodLink "LevelStore$Levels" 143 (⟨"LevelStore$Shelf", "placeBehind", "(II)I"⟩ : MethodName) ∈ ga_G := List.mem_filter.mpr ⟨gl_365, rfl⟩
theorem gl_366 : Cond.instanceMethod (⟨"LevelStore$Shelf", "placeBehind", "(II)I"⟩ : MethodName) ∈ lw_tbl := List.mem_of_getElem? (i := 366) (by decide +kernel)
end
section
theorem gw_366 : Cond.instanceMethod (⟨"LevelStore$Shelf", "placeBehind", "(II)I"⟩ : MethodName) ∈ ga_G := List.mem_filter.mpr ⟨gl_366, rfl⟩
theorem gl_367 : Cond.selects "LevelStore$Shelf" (⟨"LevelStore$Shelf", "placeBehind", "(II)I"⟩ : MethodName) (⟨"LevelStore$Shelf", "placeBehind", "(II)I"⟩ : MethodName) ∈ lw_tbl := List.mem_of_getElem? (i := 367) (by decide +kernel)
theorem gw_367 : Cond.selects "LevelStore$Shelf" (⟨"LevelStore$Shelf", "placeBehind", "(II)I"⟩ : MethodName) (⟨"LevelStore$Shelf", "placeBehind", "(II)I"⟩ : MethodName) ∈ ga_G := List.mem_filter.mpr ⟨gl_367, rfl⟩
theorem gl_368 : Cond.code y_S_placeBehind c_S_placeBehind 4 (some .int) ∈ lw_tbl := List.mem_of_getElem? (i := 368) (by decide +kernel)
theorem gw_368 : Cond.code y_S_placeBehind c_S_placeBehind 4 (some .int) ∈ ga_G := List.mem_filter.mpr ⟨gl_368, rfl⟩
theorem gl_369 : Cond.methodLink "LevelStore$Levels" 146 (⟨"LevelStore$Levels", "addStaying", "(II)V"⟩ : MethodName) ∈ lw_tbl := List.mem_of_getElem? (i := 369) (by decide +kernel)
theorem gw_369 : Cond.methodLink "LevelStore$Levels" 146 (⟨"LevelStore$Levels", "addStaying", "(II)V"⟩ : MethodName) ∈ ga_G := List.mem_filter.mpr ⟨gl_369, rfl⟩
theorem gl_371 : Cond.instanceMethod (⟨"LevelStore$Levels", "addStaying", "(II)V"⟩ : MethodName) ∈ lw_tbl := List.mem_of_getElem? (i := 371) (by decide +kernel)
theorem gw_371 : Cond.instanceMethod (⟨"LevelStore$Levels", "addStaying", "(II)V"⟩ : MethodName) ∈ ga_G := List.mem_filter.mpr ⟨gl_371, rfl⟩
theorem gl_372 : Cond.code y_V_addStaying c_V_addStaying 4 none ∈ lw_tbl := List.mem_of_getElem? (i := 372) (by decide +kernel)
theorem gw_372 : Cond.code y_V_addStaying c_V_addStaying 4 none ∈ ga_G := List.mem_filter.mpr ⟨gl_372, rfl⟩
theorem gl_373 : Cond.methodLink "LevelStore$Levels" 80 (⟨"LevelStore$Shelf", "addTable", "(LLevelStore$Shelf;I)V"⟩ : MethodName) ∈ lw_tbl := List.mem_of_getElem? (i := 373) (by decide +kernel)
theorem gw_373 : Cond.methodLink "LevelStore$Levels" 80 (⟨"LevelStore$Shelf", "addTable", "(LLevelStore$Shelf;I)V"⟩ : MethodName) ∈ ga_G := List.mem_filter.mpr ⟨gl_373, rfl⟩
theorem gl_374 : Cond.instanceMethod (⟨"LevelStore$Shelf", "addTable", "(LLevelStore$Shelf;I)V"⟩ : MethodName) ∈ lw_tbl := List.mem_of_getElem? (i := 374) (by decide +kernel)
theorem gw_374 : Cond.instanceMethod (⟨"LevelStore$Shelf", "addTable", "(LLevelStore$Shelf;I)V"⟩ : MethodName) ∈ ga_G := List.mem_filter.mpr ⟨gl_374, rfl⟩
theorem gl_375 : Cond.selects "LevelStore$Shelf" (⟨"LevelStore$Shelf", "addTable", "(LLevelStore$Shelf;I)V"⟩ : MethodName) (⟨"LevelStore$Shelf", "addTable", "(LLevelStore$Shelf;I)V"⟩ : MethodName) ∈ lw_tbl := List.mem_of_getElem? (i := 375) (by decide +kernel)
theorem gw_375 : Cond.selects "LevelStore$Shelf" (⟨"LevelStore$Shelf", "addTable", "(LLevelStore$Shelf;I)V"⟩ : MethodName) (⟨"LevelStore$Shelf", "addTable", "(LLevelStore$Shelf;I)V"⟩ : MethodName) ∈ ga_G := List.mem_filter.mpr ⟨gl_375, rfl⟩
theorem gl_376 : Cond.code y_S_addTable c_S_addTable 4 none ∈ lw_tbl := List.mem_of_getElem? (i := 376) (by decide +kernel)
theorem gw_376 : Cond.code y_S_addTable c_S_addTable 4 none ∈ ga_G := List.mem_filter.mpr ⟨gl_376, rfl⟩
theorem gl_377 : Cond.methodLink "LevelStore$Shelf" 37 (⟨"LevelStore$Entries", "addFrom", "(LLevelStore$Entries;I)V"⟩ : MethodName) ∈ lw_tbl := List.mem_of_getElem? (i := 377) (by decide +kernel)
theorem gw_377 : Cond.methodLink "LevelStore$Shelf" 37 (⟨"LevelStore$Entries", "addFrom", "(LLevelStore$Entries;I)V"⟩ : MethodName) ∈ ga_G := List.mem_filter.mpr ⟨gl_377, rfl⟩
theorem gl_378 : Cond.methodLink "LevelStore$Shelf" 41 (⟨"LevelStore$Shelf", "endTable", "(II)V"⟩ : MethodName) ∈ lw_tbl := List.mem_of_getElem? (i := 378) (by decide +kernel)
theorem gw_378 : Cond.methodLink "LevelStore$Shelf" 41 (⟨"LevelStore$Shelf", "endTable", "(II)V"⟩ : MethodName) ∈ ga_G := List.mem_filter.mpr ⟨gl_378, rfl⟩
theorem gl_379 : Cond.methodLink "LevelStore$Levels" 149 (⟨"LevelStore$Levels", "addMerged", "(II)V"⟩ : MethodName) ∈ lw_tbl := List.mem_of_getElem? (i := 379) (by decide +kernel)
theorem gw_379 : Cond.methodLink "LevelStore$Levels" 149 (⟨"LevelStore$Levels", "addMerged", "(II)V"⟩ : MethodName) ∈ ga_G := List.mem_filter.mpr ⟨gl_379, rfl⟩
theorem gl_381 : Cond.instanceMethod (⟨"LevelStore$Levels", "addMerged", "(II)V"⟩ : MethodName) ∈ lw_tbl := List.mem_of_getElem? (i := 381) (by decide +kernel)
theorem gw_381 : Cond.instanceMethod (⟨"LevelStore$Levels", "addMerged", "(II)V"⟩ : MethodName) ∈ ga_G := List.mem_filter.mpr ⟨gl_381, rfl⟩
theorem gl_382 : Cond.code y_V_addMerged c_V_addMerged 7 none ∈ lw_tbl := List.mem_of_getElem? (i := 382) (by decide +kernel)
theorem gw_382 : Cond.code y_V_addMerged c_V_addMerged 7 none ∈ ga_G := List.mem_filter.mpr ⟨gl_382, rfl⟩
theorem gl_383 : Cond.methodLink "LevelStore$Levels" 155 (⟨"LevelStore$Levels", "isOutdated", "(II)Z"⟩ : MethodName) ∈ lw_tbl := List.mem_of_getElem? (i := 383) (by decide +kernel)
theorem gw_383 : Cond.methodLink "LevelStore$Levels" 155 (⟨"LevelStore$Levels", "isOutdated", "(II)Z"⟩ : MethodName) ∈ ga_G := List.mem_filter.mpr ⟨gl_383, rfl⟩
theorem gl_385 : Cond.instanceMethod (⟨"LevelStore$Levels", "isOutdated", "(II)Z"⟩ : MethodName) ∈ lw_tbl := List.mem_of_getElem? (i := 385) (by decide +kernel)
theorem gw_385 : Cond.instanceMethod (⟨"LevelStore$Levels", "isOutdated", "(II)Z"⟩ : MethodName) ∈ ga_G := List.mem_filter.mpr ⟨gl_385, rfl⟩
theorem gl_386 : Cond.code y_V_isOutdated c_V_isOutdated 3 (some .boolean) ∈ lw_tbl := List.mem_of_getElem? (i := 386) (by decide +kernel)
theorem gw_386 : Cond.code y_V_isOutdated c_V_isOutdated 3 (some .boolean) ∈ ga_G := List.mem_filter.mpr ⟨gl_386, rfl⟩
theorem gl_387 : Cond.methodLink "LevelStore$Levels" 159 (⟨"LevelStore$Levels", "isNeedless", "(III)Z"⟩ : MethodName) ∈ lw_tbl := List.mem_of_getElem? (i := 387) (by decide +kernel)
theorem gw_387 : Cond.methodLink "LevelStore$Levels" 159 (⟨"LevelStore$Levels", "isNeedless", "(III)Z"⟩ : MethodName) ∈ ga_G := List.mem_filter.mpr ⟨gl_387, rfl⟩
theorem gl_389 : Cond.instanceMethod (⟨"LevelStore$Levels", "isNeedless", "(III)Z"⟩ : MethodName) ∈ lw_tbl := List.mem_of_getElem? (i := 389) (by decide +kernel)
theorem gw_389 : Cond.instanceMethod (⟨"LevelStore$Levels", "isNeedless", "(III)Z"⟩ : MethodName) ∈ ga_G := List.mem_filter.mpr ⟨gl_389, rfl⟩
theorem gl_390 : Cond.code y_V_isNeedless c_V_isNeedless 5 (some .boolean) ∈ lw_tbl := List.mem_of_getElem? (i := 390) (by decide +kernel)
theorem gw_390 : Cond.code y_V_isNeedless c_V_isNeedless 5 (some .boolean) ∈ ga_G := List.mem_filter.mpr ⟨gl_390, rfl⟩
theorem gl_391 : Cond.methodLink "LevelStore$Levels" 169 (⟨"LevelStore$Shelf", "spans", "(II)Z"⟩ : MethodName) ∈ lw_tbl := List.mem_of_getElem? (i := 391) (by decide +kernel)
theorem gw_391 : Cond.methodLink "LevelStore$Levels" 169 (⟨"LevelStore$Shelf", "spans", "(II)Z"⟩ : MethodName) ∈ ga_G := List.mem_filter.mpr ⟨gl_391, rfl⟩
theorem gl_392 : Cond.instanceMethod (⟨"LevelStore$Shelf", "spans", "(II)Z"⟩ : MethodName) ∈ lw_tbl := List.mem_of_getElem? (i := 392) (by decide +kernel)
theorem gw_392 : Cond.instanceMethod (⟨"LevelStore$Shelf", "spans", "(II)Z"⟩ : MethodName) ∈ ga_G := List.mem_filter.mpr ⟨gl_392, rfl⟩
theorem gl_393 : Cond.selects "LevelStore$Shelf" (⟨"LevelStore$Shelf", "spans", "(II)Z"⟩ : MethodName) (⟨"LevelStore$Shelf", "spans", "(II)Z"⟩ : MethodName) ∈ lw_tbl := List.mem_of_getElem? (i := 393) (by decide +kernel)
theorem gw_393 : Cond.selects "LevelStore$Shelf" (⟨"LevelStore$Shelf", "spans", "(II)Z"⟩ : MethodName) (⟨"LevelStore$Shelf", "spans", "(II)Z"⟩ : MethodName) ∈ ga_G := List.mem_filter.mpr ⟨gl_393, rfl⟩
theorem gl_394 : Cond.code y_S_spans c_S_spans 3 (some .boolean) ∈ lw_tbl := List.mem_of_getElem? (i := 394) (by decide +kernel)
theorem gw_394 : Cond.code y_S_spans c_S_spans 3 (some .boolean) ∈ ga_G := List.mem_filter.mpr ⟨gl_394, rfl⟩
theorem gl_395 : Cond.methodLink "LevelStore$Levels" 74 (⟨"LevelStore$Levels", "endNewTable", "(I)V"⟩ : MethodName) ∈ lw_tbl := List.mem_of_getElem? (i := 395) (by decide +kernel)
theorem gw_395 : Cond.methodLink "LevelStore$Levels" 74 (⟨"LevelStore$Levels", "endNewTable", "(I)V"⟩ : MethodName) ∈ ga_G := List.mem_filter.mpr ⟨gl_395, rfl⟩
theorem gl_397 : Cond.instanceMethod (⟨"LevelStore$Levels", "endNewTable", "(I)V"⟩ : MethodName) ∈ lw_tbl := List.mem_of_getElem? (i := 397) (by decide +kernel)
theorem gw_397 : Cond.instanceMethod (⟨"LevelStore$Levels", "endNewTable", "(I)V"⟩ : MethodName) ∈ ga_G := List.mem_filter.mpr ⟨gl_397, rfl⟩
theorem gl_398 : Cond.code y_V_endNewTable c_V_endNewTable 2 none ∈ lw_tbl := List.mem_of_getElem? (i := 398) (by decide +kernel)
theorem gw_398 : Cond.code y_V_endNewTable c_V_endNewTable 2 none ∈ ga_G := List.mem_filter.mpr ⟨gl_398, rfl⟩
theorem gl_402 : Cond.classLink "LevelStoreLaw" 13 "java/lang/IllegalArgumentException" ∈ lw_tbl := List.mem_of_getElem? (i := 402) (by decide +kernel)
theorem gw_402 : Cond.classLink "LevelStoreLaw" 13 "java/lang/IllegalArgumentException" ∈ ga_G := List.mem_filter.mpr ⟨gl_402, rfl⟩
theorem gl_403 : Cond.classLink "LevelStoreLaw" 15 "java/lang/IllegalStateException" ∈ lw_tbl := List.mem_of_getElem? (i := 403) (by decide +kernel)
theorem gw_403 : Cond.classLink "LevelStoreLaw" 15 "java/lang/IllegalStateException" ∈ ga_G := List.mem_filter.mpr ⟨gl_403, rfl⟩
theorem gl_404 : Cond.classLink "LevelStoreLaw" 17 "java/lang/UnsupportedOperationException" ∈ lw_tbl := List.mem_of_getElem? (i := 404) (by decide +kernel)
theorem gw_404 : Cond.classLink "LevelStoreLaw" 17 "java/lang/UnsupportedOperationException" ∈ ga_G := List.mem_filter.mpr ⟨gl_404, rfl⟩
theorem gl_405 : Cond.methodLink "LevelStoreLaw" 7 (⟨"LevelStore", "put", "(II)I"⟩ : MethodName) ∈ lw_tbl := List.mem_of_getElem? (i := 405) (by decide +kernel)
theorem gw_405 : Cond.methodLink "LevelStoreLaw" 7 (⟨"LevelStore", "put", "(II)I"⟩ : MethodName) ∈ ga_G := List.mem_filter.mpr ⟨gl_405, rfl⟩
theorem gl_406 : Cond.instanceMethod (⟨"LevelStore", "put", "(II)I"⟩ : MethodName) ∈ lw_tbl := List.mem_of_getElem? (i := 406) (by decide +kernel)
theorem gw_406 : Cond.instanceMethod (⟨"LevelStore", "put", "(II)I"⟩ : MethodName) ∈ ga_G := List.mem_filter.mpr ⟨gl_406, rfl⟩
theorem gl_407 : Cond.selects "LevelStore" (⟨"LevelStore", "put", "(II)I"⟩ : MethodName) (⟨"LevelStore", "put", "(II)I"⟩ : MethodName) ∈ lw_tbl := List.mem_of_getElem? (i := 407) (by decide +kernel)
theorem gw_407 : Cond.selects "LevelStore" (⟨"LevelStore", "put", "(II)I"⟩ : MethodName) (⟨"LevelStore", "put", "(II)I"⟩ : MethodName) ∈ ga_G := List.mem_filter.mpr ⟨gl_407, rfl⟩
theorem gl_408 : Cond.code y_L_put c_L_put 3 (some .int) ∈ lw_tbl := List.mem_of_getElem? (i := 408) (by decide +kernel)
theorem gw_408 : Cond.code y_L_put c_L_put 3 (some .int) ∈ ga_G := List.mem_filter.mpr ⟨gl_408, rfl⟩
theorem gl_409 : Cond.methodLink "LevelStore" 42 (⟨"LevelStore", "addToPending", "(IIZ)V"⟩ : MethodName) ∈ lw_tbl := List.mem_of_getElem? (i := 409) (by decide +kernel)
theorem gw_409 : Cond.methodLink "LevelStore" 42 (⟨"LevelStore", "addToPending", "(IIZ)V"⟩ : MethodName) ∈ ga_G := List.mem_filter.mpr ⟨gl_409, rfl⟩
theorem gl_411 : Cond.instanceMethod (⟨"LevelStore", "addToPending", "(IIZ)V"⟩ : MethodName) ∈ lw_tbl := List.mem_of_getElem? (i := 411) (by decide +kernel)
theorem gw_411 : Cond.instanceMethod (⟨"LevelStore", "addToPending", "(IIZ)V"⟩ : MethodName) ∈ ga_G := List.mem_filter.mpr ⟨gl_411, rfl⟩
theorem gl_412 : Cond.code y_L_addToPending c_L_addToPending 4 none ∈ lw_tbl := List.mem_of_getElem? (i := 412) (by decide +kernel)
theorem gw_412 : Cond.code y_L_addToPending c_L_addToPending 4 none ∈ ga_G := List.mem_filter.mpr ⟨gl_412, rfl⟩
theorem gl_413 : Cond.methodLink "LevelStore" 73 (⟨"LevelStore", "requireWithin", "(III)V"⟩ : MethodName) ∈ lw_tbl := List.mem_of_getElem? (i := 413) (by decide +kernel)
theorem gw_413 : Cond.methodLink "LevelStore" 73 (⟨"LevelStore", "requireWithin", "(III)V"⟩ : MethodName) ∈ ga_G := List.mem_filter.mpr ⟨gl_413, rfl⟩
theorem gl_414 : Cond.static (⟨"LevelStore", "requireWithin", "(III)V"⟩ : MethodName) ∈ lw_tbl := List.mem_of_getElem? (i := 414) (by decide +kernel)
theorem gw_414 : Cond.static (⟨"LevelStore", "requireWithin", "(III)V"⟩ : MethodName) ∈ ga_G := List.mem_filter.mpr ⟨gl_414, rfl⟩
theorem gl_415 : Cond.code y_L_requireWithin c_L_requireWithin 3 none ∈ lw_tbl := List.mem_of_getElem? (i := 415) (by decide +kernel)
theorem gw_415 : Cond.code y_L_requireWithin c_L_requireWithin 3 none ∈ ga_G := List.mem_filter.mpr ⟨gl_415, rfl⟩
theorem gl_416 : Cond.classLink "LevelStore" 196 "java/lang/IllegalArgumentException" ∈ lw_tbl := List.mem_of_getElem? (i := 416) (by decide +kernel)
theorem gw_416 : Cond.classLink "LevelStore" 196 "java/lang/IllegalArgumentException" ∈ ga_G := List.mem_filter.mpr ⟨gl_416, rfl⟩
theorem gl_418 : Cond.castable "java/lang/IllegalArgumentException" "java/lang/IllegalArgumentException" ∈ lw_tbl := List.mem_of_getElem? (i := 418) (by decide +kernel)
theorem gl_460 : Cond.methodLink "LevelStore" 198 (⟨"java/lang/IllegalArgumentException", "<init>", "()V"⟩ : MethodName) ∈ lw_tbl := List.mem_of_getElem? (i := 460) (by decide +kernel)
theorem gw_460 : Cond.methodLink "LevelStore" 198 (⟨"java/lang/IllegalArgumentException", "<init>", "()V"⟩ : MethodName) ∈ ga_G := List.mem_filter.mpr ⟨gl_460, rfl⟩
theorem gl_482 : Cond.classLink "LevelStore" 64 "java/lang/UnsupportedOperationException" ∈ lw_tbl := List.mem_of_getElem? (i := 482) (by decide +kernel)
theorem gw_482 : Cond.classLink "LevelStore" 64 "java/lang/UnsupportedOperationException" ∈ ga_G := List.mem_filter.mpr ⟨gl_482, rfl⟩
theorem gl_484 : Cond.castable "java/lang/UnsupportedOperationException" "java/lang/UnsupportedOperationException" ∈ lw_tbl := List.mem_of_getElem? (i := 484) (by decide +kernel)
theorem gl_491 : Cond.methodLink "LevelStore" 66 (⟨"java/lang/UnsupportedOperationException", "<init>", "()V"⟩ : MethodName) ∈ lw_tbl := List.mem_of_getElem? (i := 491) (by decide +kernel)
theorem gw_491 : Cond.methodLink "LevelStore" 66 (⟨"java/lang/UnsupportedOperationException", "<init>", "()V"⟩ : MethodName) ∈ ga_G := List.mem_filter.mpr ⟨gl_491, rfl⟩
theorem gl_497 : Cond.methodLink "LevelStore" 202 (⟨"LevelStore$Entries", "add", "(IIIZ)V"⟩ : MethodName) ∈ lw_tbl := List.mem_of_getElem? (i := 497) (by decide +kernel)
theorem gw_497 : Cond.methodLink "LevelStore" 202 (⟨"LevelStore$Entries", "add", "(IIIZ)V"⟩ : MethodName) ∈ ga_G := List.mem_filter.mpr ⟨gl_497, rfl⟩
theorem gl_498 : Cond.instanceMethod (⟨"LevelStore$Entries", "add", "(IIIZ)V"⟩ : MethodName) ∈ lw_tbl := List.mem_of_getElem? (i := 498) (by decide +kernel)
theorem gw_498 : Cond.instanceMethod (⟨"LevelStore$Entries", "add", "(IIIZ)V"⟩ : MethodName) ∈ ga_G := List.mem_filter.mpr ⟨gl_498, rfl⟩
theorem gl_499 : Cond.selects "LevelStore$Entries" (⟨"LevelStore$Entries", "add", "(IIIZ)V"⟩ : MethodName) (⟨"LevelStore$Entries", "add", "(IIIZ)V"⟩ : MethodName) ∈ lw_tbl := List.mem_of_getElem? (i := 499) (by decide +kernel)
theorem gw_499 : Cond.selects "LevelStore$Entries" (⟨"LevelStore$Entries", "add", "(IIIZ)V"⟩ : MethodName) (⟨"LevelStore$Entries", "add", "(IIIZ)V"⟩ : MethodName) ∈ ga_G := List.mem_filter.mpr ⟨gl_499, rfl⟩
theorem gl_500 : Cond.code y_E_add c_E_add 5 none ∈ lw_tbl := List.mem_of_getElem? (i := 500) (by decide +kernel)
theorem gw_500 : Cond.code y_E_add c_E_add 5 none ∈ ga_G := List.mem_filter.mpr ⟨gl_500, rfl⟩
theorem gl_501 : Cond.methodLink "LevelStore" 54 (⟨"LevelStore", "write", "()I"⟩ : MethodName) ∈ lw_tbl := List.mem_of_getElem? (i := 501) (by decide +kernel)
theorem gw_501 : Cond.methodLink "LevelStore" 54 (⟨"LevelStore", "write", "()I"⟩ : MethodName) ∈ ga_G := List.mem_filter.mpr ⟨gl_501, rfl⟩
theorem gl_503 : Cond.instanceMethod (⟨"LevelStore", "write", "()I"⟩ : MethodName) ∈ lw_tbl := List.mem_of_getElem? (i := 503) (by decide +kernel)
theorem gw_503 : Cond.instanceMethod (⟨"LevelStore", "write", "()I"⟩ : MethodName) ∈ ga_G := List.mem_filter.mpr ⟨gl_503, rfl⟩
theorem gl_504 : Cond.code y_L_write c_L_write 2 (some .int) ∈ lw_tbl := List.mem_of_getElem? (i := 504) (by decide +kernel)
theorem gw_504 : Cond.code y_L_write c_L_write 2 (some .int) ∈ ga_G := List.mem_filter.mpr ⟨gl_504, rfl⟩
theorem gl_505 : Cond.methodLink "LevelStore" 99 (⟨"LevelStore$Levels", "isBlocked", "()Z"⟩ : MethodName) ∈ lw_tbl := List.mem_of_getElem? (i := 505) (by decide +kernel)
theorem gw_505 : Cond.methodLink "LevelStore" 99 (⟨"LevelStore$Levels", "isBlocked", "()Z"⟩ : MethodName) ∈ ga_G := List.mem_filter.mpr ⟨gl_505, rfl⟩
theorem gl_506 : Cond.instanceMethod (⟨"LevelStore$Levels", "isBlocked", "()Z"⟩ : MethodName) ∈ lw_tbl := List.mem_of_getElem? (i := 506) (by decide +kernel)
theorem gw_506 : Cond.instanceMethod (⟨"LevelStore$Levels", "isBlocked", "()Z"⟩ : MethodName) ∈ ga_G := List.mem_filter.mpr ⟨gl_506, rfl⟩
theorem gl_507 : Cond.selects "LevelStore$Levels" (⟨"LevelStore$Levels", "isBlocked", "()Z"⟩ : MethodName) (⟨"LevelStore$Levels", "isBlocked", "()Z"⟩ : MethodName) ∈ lw_tbl := List.mem_of_getElem? (i := 507) (by decide +kernel)
theorem gw_507 : Cond.selects "LevelStore$Levels" (⟨"LevelStore$Levels", "isBlocked", "()Z"⟩ : MethodName) (⟨"LevelStore$Levels", "isBlocked", "()Z"⟩ : MethodName) ∈ ga_G := List.mem_filter.mpr ⟨gl_507, rfl⟩
theorem gl_508 : Cond.code y_V_isBlocked c_V_isBlocked 1 (some .boolean) ∈ lw_tbl := List.mem_of_getElem? (i := 508) (by decide +kernel)
theorem gw_508 : Cond.code y_V_isBlocked c_V_isBlocked 1 (some .boolean) ∈ ga_G := List.mem_filter.mpr ⟨gl_508, rfl⟩
theorem gl_509 : Cond.classLink "LevelStore" 58 "java/lang/IllegalStateException" ∈ lw_tbl := List.mem_of_getElem? (i := 509) (by decide +kernel)
theorem gw_509 : Cond.classLink "LevelStore" 58 "java/lang/IllegalStateException" ∈ ga_G := List.mem_filter.mpr ⟨gl_509, rfl⟩
theorem gl_511 : Cond.castable "java/lang/IllegalStateException" "java/lang/IllegalStateException" ∈ lw_tbl := List.mem_of_getElem? (i := 511) (by decide +kernel)
theorem gl_518 : Cond.methodLink "LevelStore" 60 (⟨"java/lang/IllegalStateException", "<init>", "()V"⟩ : MethodName) ∈ lw_tbl := List.mem_of_getElem? (i := 518) (by decide +kernel)
theorem gw_518 : Cond.methodLink "LevelStore" 60 (⟨"java/lang/IllegalStateException", "<init>", "()V"⟩ : MethodName) ∈ ga_G := List.mem_filter.mpr ⟨gl_518, rfl⟩
theorem gl_524 : Cond.methodLink "LevelStore" 206 (⟨"LevelStore$Memory", "addRecord", "(LLevelStore$Entries;I)V"⟩ : MethodName) ∈ lw_tbl := List.mem_of_getElem? (i := 524) (by decide +kernel)
theorem gw_524 : Cond.methodLink "LevelStore" 206 (⟨"LevelStore$Memory", "addRecord", "(LLevelStore$Entries;I)V"⟩ : MethodName) ∈ ga_G := List.mem_filter.mpr ⟨gl_524, rfl⟩
theorem gl_525 : Cond.instanceMethod (⟨"LevelStore$Memory", "addRecord", "(LLevelStore$Entries;I)V"⟩ : MethodName) ∈ lw_tbl := List.mem_of_getElem? (i := 525) (by decide +kernel)
theorem gw_525 : Cond.instanceMethod (⟨"LevelStore$Memory", "addRecord", "(LLevelStore$Entries;I)V"⟩ : MethodName) ∈ ga_G := List.mem_filter.mpr ⟨gl_525, rfl⟩
theorem gl_526 : Cond.selects "LevelStore$Memory" (⟨"LevelStore$Memory", "addRecord", "(LLevelStore$Entries;I)V"⟩ : MethodName) (⟨"LevelStore$Memory", "addRecord", "(LLevelStore$Entries;I)V"⟩ : MethodName) ∈ lw_tbl := List.mem_of_getElem? (i := 526) (by decide +kernel)
theorem gw_526 : Cond.selects "LevelStore$Memory" (⟨"LevelStore$Memory", "addRecord", "(LLevelStore$Entries;I)V"⟩ : MethodName) (⟨"LevelStore$Memory", "addRecord", "(LLevelStore$Entries;I)V"⟩ : MethodName) ∈ ga_G := List.mem_filter.mpr ⟨gl_526, rfl⟩
theorem gl_527 : Cond.code y_M_addRecord c_M_addRecord 4 none ∈ lw_tbl := List.mem_of_getElem? (i := 527) (by decide +kernel)
theorem gw_527 : Cond.code y_M_addRecord c_M_addRecord 4 none ∈ ga_G := List.mem_filter.mpr ⟨gl_527, rfl⟩
theorem gl_528 : Cond.methodLink "LevelStore$Memory" 38 (⟨"LevelStore$Entries", "add", "(IIIZ)V"⟩ : MethodName) ∈ lw_tbl := List.mem_of_getElem? (i := 528) (by decide +kernel)
theorem gw_528 : Cond.methodLink "LevelStore$Memory" 38 (⟨"LevelStore$Entries", "add", "(IIIZ)V"⟩ : MethodName) ∈ ga_G := List.mem_filter.mpr ⟨gl_528, rfl⟩
theorem gl_529 : Cond.methodLink "LevelStore" 103 (⟨"LevelStore", "moveMemoryToLevel0", "()V"⟩ : MethodName) ∈ lw_tbl := List.mem_of_getElem? (i := 529) (by decide +kernel)
theorem gw_529 : Cond.methodLink "LevelStore" 103 (⟨"LevelStore", "moveMemoryToLevel0", "()V"⟩ : MethodName) ∈ ga_G := List.mem_filter.mpr ⟨gl_529, rfl⟩
theorem gl_531 : Cond.instanceMethod (⟨"LevelStore", "moveMemoryToLevel0", "()V"⟩ : MethodName) ∈ lw_tbl := List.mem_of_getElem? (i := 531) (by decide +kernel)
theorem gw_531 : Cond.instanceMethod (⟨"LevelStore", "moveMemoryToLevel0", "()V"⟩ : MethodName) ∈ ga_G := List.mem_filter.mpr ⟨gl_531, rfl⟩
theorem gl_532 : Cond.code y_L_moveMemoryToLevel0 c_L_moveMemoryToLevel0 1 none ∈ lw_tbl := List.mem_of_getElem? (i := 532) (by decide +kernel)
theorem gw_532 : Cond.code y_L_moveMemoryToLevel0 c_L_moveMemoryToLevel0 1 none ∈ ga_G := List.mem_filter.mpr ⟨gl_532, rfl⟩
theorem gl_533 : Cond.methodLink "LevelStore" 210 (⟨"LevelStore$Levels", "addToLevel0", "(LLevelStore$Entries;)V"⟩ : MethodName) ∈ lw_tbl := List.mem_of_getElem? (i := 533) (by decide +kernel)
theorem gw_533 : Cond.methodLink "LevelStore" 210 (⟨"LevelStore$Levels", "addToLevel0", "(LLevelStore$Entries;)V"⟩ : MethodName) ∈ ga_G := List.mem_filter.mpr ⟨gl_533, rfl⟩
theorem gl_534 : Cond.instanceMethod (⟨"LevelStore$Levels", "addToLevel0", "(LLevelStore$Entries;)V"⟩ : MethodName) ∈ lw_tbl := List.mem_of_getElem? (i := 534) (by decide +kernel)
theorem gw_534 : Cond.instanceMethod (⟨"LevelStore$Levels", "addToLevel0", "(LLevelStore$Entries;)V"⟩ : MethodName) ∈ ga_G := List.mem_filter.mpr ⟨gl_534, rfl⟩
theorem gl_535 : Cond.selects "LevelStore$Levels" (⟨"LevelStore$Levels", "addToLevel0", "(LLevelStore$Entries;)V"⟩ : MethodName) (⟨"LevelStore$Levels", "addToLevel0", "(LLevelStore$Entries;)V"⟩ : MethodName) ∈ lw_tbl := List.mem_of_getElem? (i := 535) (by decide +kernel)
theorem gw_535 : Cond.selects "LevelStore$Levels" (⟨"LevelStore$Levels", "addToLevel0", "(LLevelStore$Entries;)V"⟩ : MethodName) (⟨"LevelStore$Levels", "addToLevel0", "(LLevelStore$Entries;)V"⟩ : MethodName) ∈ ga_G := List.mem_filter.mpr ⟨gl_535, rfl⟩
theorem gl_536 : Cond.code y_V_addToLevel0 c_V_addToLevel0 3 none ∈ lw_tbl := List.mem_of_getElem? (i := 536) (by decide +kernel)
theorem gw_536 : Cond.code y_V_addToLevel0 c_V_addToLevel0 3 none ∈ ga_G := List.mem_filter.mpr ⟨gl_536, rfl⟩
theorem gl_537 : Cond.methodLink "LevelStore" 214 (⟨"LevelStore$Memory", "clear", "()V"⟩ : MethodName) ∈ lw_tbl := List.mem_of_getElem? (i := 537) (by decide +kernel)
theorem gw_537 : Cond.methodLink "LevelStore" 214 (⟨"LevelStore$Memory", "clear", "()V"⟩ : MethodName) ∈ ga_G := List.mem_filter.mpr ⟨gl_537, rfl⟩
theorem gl_538 : Cond.instanceMethod (⟨"LevelStore$Memory", "clear", "()V"⟩ : MethodName) ∈ lw_tbl := List.mem_of_getElem? (i := 538) (by decide +kernel)
theorem gw_538 : Cond.instanceMethod (⟨"LevelStore$Memory", "clear", "()V"⟩ : MethodName) ∈ ga_G := List.mem_filter.mpr ⟨gl_538, rfl⟩
theorem gl_539 : Cond.selects "LevelStore$Memory" (⟨"LevelStore$Memory", "clear", "()V"⟩ : MethodName) (⟨"LevelStore$Memory", "clear", "()V"⟩ : MethodName) ∈ lw_tbl := List.mem_of_getElem? (i := 539) (by decide +kernel)
theorem gw_539 : Cond.selects "LevelStore$Memory" (⟨"LevelStore$Memory", "clear", "()V"⟩ : MethodName) (⟨"LevelStore$Memory", "clear", "()V"⟩ : MethodName) ∈ ga_G := List.mem_filter.mpr ⟨gl_539, rfl⟩
theorem gl_540 : Cond.code y_M_clear c_M_clear 1 none ∈ lw_tbl := List.mem_of_getElem? (i := 540) (by decide +kernel)
theorem gw_540 : Cond.code y_M_clear c_M_clear 1 none ∈ ga_G := List.mem_filter.mpr ⟨gl_540, rfl⟩
theorem gl_544 : Cond.methodLink "LevelStoreLaw" 19 (⟨"LevelStore", "remove", "(I)I"⟩ : MethodName) ∈ lw_tbl := List.mem_of_getElem? (i := 544) (by decide +kernel)
theorem gw_544 : Cond.methodLink "LevelStoreLaw" 19 (⟨"LevelStore", "remove", "(I)I"⟩ : MethodName) ∈ ga_G := List.mem_filter.mpr ⟨gl_544, rfl⟩
theorem gl_545 : Cond.instanceMethod (⟨"LevelStore", "remove", "(I)I"⟩ : MethodName) ∈ lw_tbl := List.mem_of_getElem? (i := 545) (by decide +kernel)
theorem gw_545 : Cond.instanceMethod (⟨"LevelStore", "remove", "(I)I"⟩ : MethodName) ∈ ga_G := List.mem_filter.mpr ⟨gl_545, rfl⟩
theorem gl_546 : Cond.selects "LevelStore" (⟨"LevelStore", "remove", "(I)I"⟩ : MethodName) (⟨"LevelStore", "remove", "(I)I"⟩ : MethodName) ∈ lw_tbl := List.mem_of_getElem? (i := 546) (by decide +kernel)
theorem gw_546 : Cond.selects "LevelStore" (⟨"LevelStore", "remove", "(I)I"⟩ : MethodName) (⟨"LevelStore", "remove", "(I)I"⟩ : MethodName) ∈ ga_G := List.mem_filter.mpr ⟨gl_546, rfl⟩
theorem gl_547 : Cond.code y_L_remove c_L_remove 2 (some .int) ∈ lw_tbl := List.mem_of_getElem? (i := 547) (by decide +kernel)
theorem gw_547 : Cond.code y_L_remove c_L_remove 2 (some .int) ∈ ga_G := List.mem_filter.mpr ⟨gl_547, rfl⟩
theorem gl_551 : Cond.methodLink "LevelStoreLaw" 23 (⟨"LevelStore", "open", "()I"⟩ : MethodName) ∈ lw_tbl := List.mem_of_getElem? (i := 551) (by decide +kernel)
theorem gw_551 : Cond.methodLink "LevelStoreLaw" 23 (⟨"LevelStore", "open", "()I"⟩ : MethodName) ∈ ga_G := List.mem_filter.mpr ⟨gl_551, rfl⟩
theorem gl_552 : Cond.instanceMethod (⟨"LevelStore", "open", "()I"⟩ : MethodName) ∈ lw_tbl := List.mem_of_getElem? (i := 552) (by decide +kernel)
theorem gw_552 : Cond.instanceMethod (⟨"LevelStore", "open", "()I"⟩ : MethodName) ∈ ga_G := List.mem_filter.mpr ⟨gl_552, rfl⟩
theorem gl_553 : Cond.selects "LevelStore" (⟨"LevelStore", "open", "()I"⟩ : MethodName) (⟨"LevelStore", "open", "()I"⟩ : MethodName) ∈ lw_tbl := List.mem_of_getElem? (i := 553) (by decide +kernel)
theorem gw_553 : Cond.selects "LevelStore" (⟨"LevelStore", "open", "()I"⟩ : MethodName) (⟨"LevelStore", "open", "()I"⟩ : MethodName) ∈ ga_G := List.mem_filter.mpr ⟨gl_553, rfl⟩
theorem gl_554 : Cond.code y_L_open c_L_open 1 (some .int) ∈ lw_tbl := List.mem_of_getElem? (i := 554) (by decide +kernel)
theorem gw_554 : Cond.code y_L_open c_L_open 1 (some .int) ∈ ga_G := List.mem_filter.mpr ⟨gl_554, rfl⟩
theorem gl_558 : Cond.methodLink "LevelStoreLaw" 27 (⟨"LevelStore", "close", "(Z)I"⟩ : MethodName) ∈ lw_tbl := List.mem_of_getElem? (i := 558) (by decide +kernel)
theorem gw_558 : Cond.methodLink "LevelStoreLaw" 27 (⟨"LevelStore", "close", "(Z)I"⟩ : MethodName) ∈ ga_G := List.mem_filter.mpr ⟨gl_558, rfl⟩
theorem gl_559 : Cond.instanceMethod (⟨"LevelStore", "close", "(Z)I"⟩ : MethodName) ∈ lw_tbl := List.mem_of_getElem? (i := 559) (by decide +kernel)
theorem gw_559 : Cond.instanceMethod (⟨"LevelStore", "close", "(Z)I"⟩ : MethodName) ∈ ga_G := List.mem_filter.mpr ⟨gl_559, rfl⟩
theorem gl_560 : Cond.selects "LevelStore" (⟨"LevelStore", "close", "(Z)I"⟩ : MethodName) (⟨"LevelStore", "close", "(Z)I"⟩ : MethodName) ∈ lw_tbl := List.mem_of_getElem? (i := 560) (by decide +kernel)
theorem gw_560 : Cond.selects "LevelStore" (⟨"LevelStore", "close", "(Z)I"⟩ : MethodName) (⟨"LevelStore", "close", "(Z)I"⟩ : MethodName) ∈ ga_G := List.mem_filter.mpr ⟨gl_560, rfl⟩
theorem gl_561 : Cond.code y_L_close c_L_close 2 (some .int) ∈ lw_tbl := List.mem_of_getElem? (i := 561) (by decide +kernel)
theorem gw_561 : Cond.code y_L_close c_L_close 2 (some .int) ∈ ga_G := List.mem_filter.mpr ⟨gl_561, rfl⟩
theorem gl_565 : Cond.methodLink "LevelStoreLaw" 31 (⟨"LevelStore", "crash", "(I)I"⟩ : MethodName) ∈ lw_tbl := List.mem_of_getElem? (i := 565) (by decide +kernel)
theorem gw_565 : Cond.methodLink "LevelStoreLaw" 31 (⟨"LevelStore", "crash", "(I)I"⟩ : MethodName) ∈ ga_G := List.mem_filter.mpr ⟨gl_565, rfl⟩
theorem gl_566 : Cond.instanceMethod (⟨"LevelStore", "crash", "(I)I"⟩ : MethodName) ∈ lw_tbl := List.mem_of_getElem? (i := 566) (by decide +kernel)
theorem gw_566 : Cond.instanceMethod (⟨"LevelStore", "crash", "(I)I"⟩ : MethodName) ∈ ga_G := List.mem_filter.mpr ⟨gl_566, rfl⟩
theorem gl_567 : Cond.selects "LevelStore" (⟨"LevelStore", "crash", "(I)I"⟩ : MethodName) (⟨"LevelStore", "crash", "(I)I"⟩ : MethodName) ∈ lw_tbl := List.mem_of_getElem? (i := 567) (by decide +kernel)
theorem gw_567 : Cond.selects "LevelStore" (⟨"LevelStore", "crash", "(I)I"⟩ : MethodName) (⟨"LevelStore", "crash", "(I)I"⟩ : MethodName) ∈ ga_G := List.mem_filter.mpr ⟨gl_567, rfl⟩
theorem gl_568 : Cond.code y_L_crash c_L_crash 2 (some .int) ∈ lw_tbl := List.mem_of_getElem? (i := 568) (by decide +kernel)
theorem gw_568 : Cond.code y_L_crash c_L_crash 2 (some .int) ∈ ga_G := List.mem_filter.mpr ⟨gl_568, rfl⟩
theorem gl_569 : Cond.methodLink "LevelStore" 77 (⟨"LevelStore$Memory", "loseAllBut", "(I)V"⟩ : MethodName) ∈ lw_tbl := List.mem_of_getElem? (i := 569) (by decide +kernel)
theorem gw_569 : Cond.methodLink "LevelStore" 77 (⟨"LevelStore$Memory", "loseAllBut", "(I)V"⟩ : MethodName) ∈ ga_G := List.mem_filter.mpr ⟨gl_569, rfl⟩
theorem gl_570 : Cond.instanceMethod (⟨"LevelStore$Memory", "loseAllBut", "(I)V"⟩ : MethodName) ∈ lw_tbl := List.mem_of_getElem? (i := 570) (by decide +kernel)
theorem gw_570 : Cond.instanceMethod (⟨"LevelStore$Memory", "loseAllBut", "(I)V"⟩ : MethodName) ∈ ga_G := List.mem_filter.mpr ⟨gl_570, rfl⟩
theorem gl_571 : Cond.selects "LevelStore$Memory" (⟨"LevelStore$Memory", "loseAllBut", "(I)V"⟩ : MethodName) (⟨"LevelStore$Memory", "loseAllBut", "(I)V"⟩ : MethodName) ∈ lw_tbl := List.mem_of_getElem? (i := 571) (by decide +kernel)
theorem gw_571 : Cond.selects "LevelStore$Memory" (⟨"LevelStore$Memory", "loseAllBut", "(I)V"⟩ : MethodName) (⟨"LevelStore$Memory", "loseAllBut", "(I)V"⟩ : MethodName) ∈ ga_G := List.mem_filter.mpr ⟨gl_571, rfl⟩
theorem gl_572 : Cond.code y_M_loseAllBut c_M_loseAllBut 2 none ∈ lw_tbl := List.mem_of_getElem? (i := 572) (by decide +kernel)
theorem gw_572 : Cond.code y_M_loseAllBut c_M_loseAllBut 2 none ∈ ga_G := List.mem_filter.mpr ⟨gl_572, rfl⟩
theorem gl_573 : Cond.methodLink "LevelStore$Memory" 48 (⟨"java/lang/Math", "min", "(II)I"⟩ : MethodName) ∈ lw_tbl := List.mem_of_getElem? (i := 573) (by decide +kernel)
theorem gw_573 : Cond.methodLink "LevelStore$Memory" 48 (⟨"java/lang/Math", "min", "(II)I"⟩ : MethodName) ∈ ga_G := List.mem_filter.mpr ⟨gl_573, rfl⟩
theorem gl_574 : Cond.methodLink "LevelStore" 83 (⟨"LevelStore$Entries", "greatestNumber", "()I"⟩ : MethodName) ∈ lw_tbl := List.mem_of_getElem? (i := 574) (by decide +kernel)
theorem gw_574 : Cond.methodLink "LevelStore" 83 (⟨"LevelStore$Entries", "greatestNumber", "()I"⟩ : MethodName) ∈ ga_G := List.mem_filter.mpr ⟨gl_574, rfl⟩
theorem gl_575 : Cond.instanceMethod (⟨"LevelStore$Entries", "greatestNumber", "()I"⟩ : MethodName) ∈ lw_tbl := List.mem_of_getElem? (i := 575) (by decide +kernel)
theorem gw_575 : Cond.instanceMethod (⟨"LevelStore$Entries", "greatestNumber", "()I"⟩ : MethodName) ∈ ga_G := List.mem_filter.mpr ⟨gl_575, rfl⟩
theorem gl_576 : Cond.selects "LevelStore$Entries" (⟨"LevelStore$Entries", "greatestNumber", "()I"⟩ : MethodName) (⟨"LevelStore$Entries", "greatestNumber", "()I"⟩ : MethodName) ∈ lw_tbl := List.mem_of_getElem? (i := 576) (by decide +kernel)
theorem gw_576 : Cond.selects "LevelStore$Entries" (⟨"LevelStore$Entries", "greatestNumber", "()I"⟩ : MethodName) (⟨"LevelStore$Entries", "greatestNumber", "()I"⟩ : MethodName) ∈ ga_G := List.mem_filter.mpr ⟨gl_576, rfl⟩
theorem gl_577 : Cond.code y_E_greatestNumber c_E_greatestNumber 3 (some .int) ∈ lw_tbl := List.mem_of_getElem? (i := 577) (by decide +kernel)
theorem gw_577 : Cond.code y_E_greatestNumber c_E_greatestNumber 3 (some .int) ∈ ga_G := List.mem_filter.mpr ⟨gl_577, rfl⟩
theorem gl_578 : Cond.methodLink "LevelStore$Entries" 32 (⟨"java/lang/Math", "max", "(II)I"⟩ : MethodName) ∈ lw_tbl := List.mem_of_getElem? (i := 578) (by decide +kernel)
theorem gw_578 : Cond.methodLink "LevelStore$Entries" 32 (⟨"java/lang/Math", "max", "(II)I"⟩ : MethodName) ∈ ga_G := List.mem_filter.mpr ⟨gl_578, rfl⟩
theorem gl_579 : Cond.methodLink "LevelStore" 93 (⟨"java/lang/Math", "max", "(II)I"⟩ : MethodName) ∈ lw_tbl := List.mem_of_getElem? (i := 579) (by decide +kernel)
theorem gw_579 : Cond.methodLink "LevelStore" 93 (⟨"java/lang/Math", "max", "(II)I"⟩ : MethodName) ∈ ga_G := List.mem_filter.mpr ⟨gl_579, rfl⟩
theorem gl_583 : Cond.methodLink "LevelStoreLaw" 34 (⟨"LevelStore", "flush", "()I"⟩ : MethodName) ∈ lw_tbl := List.mem_of_getElem? (i := 583) (by decide +kernel)
theorem gw_583 : Cond.methodLink "LevelStoreLaw" 34 (⟨"LevelStore", "flush", "()I"⟩ : MethodName) ∈ ga_G := List.mem_filter.mpr ⟨gl_583, rfl⟩
theorem gl_584 : Cond.instanceMethod (⟨"LevelStore", "flush", "()I"⟩ : MethodName) ∈ lw_tbl := List.mem_of_getElem? (i := 584) (by decide +kernel)
theorem gw_584 : Cond.instanceMethod (⟨"LevelStore", "flush", "()I"⟩ : MethodName) ∈ ga_G := List.mem_filter.mpr ⟨gl_584, rfl⟩
theorem gl_585 : Cond.selects "LevelStore" (⟨"LevelStore", "flush", "()I"⟩ : MethodName) (⟨"LevelStore", "flush", "()I"⟩ : MethodName) ∈ lw_tbl := List.mem_of_getElem? (i := 585) (by decide +kernel)
theorem gw_585 : Cond.selects "LevelStore" (⟨"LevelStore", "flush", "()I"⟩ : MethodName) (⟨"LevelStore", "flush", "()I"⟩ : MethodName) ∈ ga_G := List.mem_filter.mpr ⟨gl_585, rfl⟩
theorem gl_586 : Cond.code y_L_flush c_L_flush 1 (some .int) ∈ lw_tbl := List.mem_of_getElem? (i := 586) (by decide +kernel)
theorem gw_586 : Cond.code y_L_flush c_L_flush 1 (some .int) ∈ ga_G := List.mem_filter.mpr ⟨gl_586, rfl⟩
theorem gl_590 : Cond.classLink "LevelStoreLaw" 40 "java/util/NoSuchElementException" ∈ lw_tbl := List.mem_of_getElem? (i := 590) (by decide +kernel)
theorem gw_590 : Cond.classLink "LevelStoreLaw" 40 "java/util/NoSuchElementException" ∈ ga_G := List.mem_filter.mpr ⟨gl_590, rfl⟩
theorem gl_591 : Cond.methodLink "LevelStoreLaw" 37 (⟨"LevelStore", "get", "(II)I"⟩ : MethodName) ∈ lw_tbl := List.mem_of_getElem? (i := 591) (by decide +kernel)
theorem gw_591 : Cond.methodLink "LevelStoreLaw" 37 (⟨"LevelStore", "get", "(II)I"⟩ : MethodName) ∈ ga_G := List.mem_filter.mpr ⟨gl_591, rfl⟩
theorem gl_592 : Cond.instanceMethod (⟨"LevelStore", "get", "(II)I"⟩ : MethodName) ∈ lw_tbl := List.mem_of_getElem? (i := 592) (by decide +kernel)
theorem gw_592 : Cond.instanceMethod (⟨"LevelStore", "get", "(II)I"⟩ : MethodName) ∈ ga_G := List.mem_filter.mpr ⟨gl_592, rfl⟩
theorem gl_593 : Cond.selects "LevelStore" (⟨"LevelStore", "get", "(II)I"⟩ : MethodName) (⟨"LevelStore", "get", "(II)I"⟩ : MethodName) ∈ lw_tbl := List.mem_of_getElem? (i := 593) (by decide +kernel)
theorem gw_593 : Cond.selects "LevelStore" (⟨"LevelStore", "get", "(II)I"⟩ : MethodName) (⟨"LevelStore", "get", "(II)I"⟩ : MethodName) ∈ ga_G := List.mem_filter.mpr ⟨gl_593, rfl⟩
theorem gl_594 : Cond.code y_L_get c_L_get 5 (some .int) ∈ lw_tbl := List.mem_of_getElem? (i := 594) (by decide +kernel)
theorem gw_594 : Cond.code y_L_get c_L_get 5 (some .int) ∈ ga_G := List.mem_filter.mpr ⟨gl_594, rfl⟩
theorem gl_595 : Cond.methodLink "LevelStore" 115 (⟨"LevelStore", "numberSeenBy", "(I)I"⟩ : MethodName) ∈ lw_tbl := List.mem_of_getElem? (i := 595) (by decide +kernel)
theorem gw_595 : Cond.methodLink "LevelStore" 115 (⟨"LevelStore", "numberSeenBy", "(I)I"⟩ : MethodName) ∈ ga_G := List.mem_filter.mpr ⟨gl_595, rfl⟩
theorem gl_597 : Cond.instanceMethod (⟨"LevelStore", "numberSeenBy", "(I)I"⟩ : MethodName) ∈ lw_tbl := List.mem_of_getElem? (i := 597) (by decide +kernel)
theorem gw_597 : Cond.instanceMethod (⟨"LevelStore", "numberSeenBy", "(I)I"⟩ : MethodName) ∈ ga_G := List.mem_filter.mpr ⟨gl_597, rfl⟩
theorem gl_598 : Cond.code y_L_numberSeenBy c_L_numberSeenBy 2 (some .int) ∈ lw_tbl := List.mem_of_getElem? (i := 598) (by decide +kernel)
theorem gw_598 : Cond.code y_L_numberSeenBy c_L_numberSeenBy 2 (some .int) ∈ ga_G := List.mem_filter.mpr ⟨gl_598, rfl⟩
theorem gl_599 : Cond.methodLink "LevelStore" 122 (⟨"LevelStore$Memory", "rowOf", "(II)I"⟩ : MethodName) ∈ lw_tbl := List.mem_of_getElem? (i := 599) (by decide +kernel)
theorem gw_599 : Cond.methodLink "LevelStore" 122 (⟨"LevelStore$Memory", "rowOf", "(II)I"⟩ : MethodName) ∈ ga_G := List.mem_filter.mpr ⟨gl_599, rfl⟩
theorem gl_600 : Cond.instanceMethod (⟨"LevelStore$Memory", "rowOf", "(II)I"⟩ : MethodName) ∈ lw_tbl := List.mem_of_getElem? (i := 600) (by decide +kernel)
theorem gw_600 : Cond.instanceMethod (⟨"LevelStore$Memory", "rowOf", "(II)I"⟩ : MethodName) ∈ ga_G := List.mem_filter.mpr ⟨gl_600, rfl⟩
theorem gl_601 : Cond.selects "LevelStore$Memory" (⟨"LevelStore$Memory", "rowOf", "(II)I"⟩ : MethodName) (⟨"LevelStore$Memory", "rowOf", "(II)I"⟩ : MethodName) ∈ lw_tbl := List.mem_of_getElem? (i := 601) (by decide +kernel)
theorem gw_601 : Cond.selects "LevelStore$Memory" (⟨"LevelStore$Memory", "rowOf", "(II)I"⟩ : MethodName) (⟨"LevelStore$Memory", "rowOf", "(II)I"⟩ : MethodName) ∈ ga_G := List.mem_filter.mpr ⟨gl_601, rfl⟩
theorem gl_602 : Cond.code y_M_rowOf c_M_rowOf 4 (some .int) ∈ lw_tbl := List.mem_of_getElem? (i := 602) (by decide +kernel)
theorem gw_602 : Cond.code y_M_rowOf c_M_rowOf 4 (some .int) ∈ ga_G := List.mem_filter.mpr ⟨gl_602, rfl⟩
theorem gl_603 : Cond.methodLink "LevelStore" 125 (⟨"LevelStore", "valueIn", "(LLevelStore$Entries;I)I"⟩ : MethodName) ∈ lw_tbl := List.mem_of_getElem? (i := 603) (by decide +kernel)
theorem gw_603 : Cond.methodLink "LevelStore" 125 (⟨"LevelStore", "valueIn", "(LLevelStore$Entries;I)I"⟩ : MethodName) ∈ ga_G := List.mem_filter.mpr ⟨gl_603, rfl⟩
theorem gl_604 : Cond.static (⟨"LevelStore", "valueIn", "(LLevelStore$Entries;I)I"⟩ : MethodName) ∈ lw_tbl := List.mem_of_getElem? (i := 604) (by decide +kernel)
theorem gw_604 : Cond.static (⟨"LevelStore", "valueIn", "(LLevelStore$Entries;I)I"⟩ : MethodName) ∈ ga_G := List.mem_filter.mpr ⟨gl_604, rfl⟩
theorem gl_605 : Cond.code y_L_valueIn c_L_valueIn 2 (some .int) ∈ lw_tbl := List.mem_of_getElem? (i := 605) (by decide +kernel)
theorem gw_605 : Cond.code y_L_valueIn c_L_valueIn 2 (some .int) ∈ ga_G := List.mem_filter.mpr ⟨gl_605, rfl⟩
theorem gl_606 : Cond.classLink "LevelStore" 132 "java/util/NoSuchElementException" ∈ lw_tbl := List.mem_of_getElem? (i := 606) (by decide +kernel)
theorem gw_606 : Cond.classLink "LevelStore" 132 "java/util/NoSuchElementException" ∈ ga_G := List.mem_filter.mpr ⟨gl_606, rfl⟩
theorem gl_608 : Cond.castable "java/util/NoSuchElementException" "java/util/NoSuchElementException" ∈ lw_tbl := List.mem_of_getElem? (i := 608) (by decide +kernel)
theorem gl_615 : Cond.methodLink "LevelStore" 134 (⟨"java/util/NoSuchElementException", "<init>", "()V"⟩ : MethodName) ∈ lw_tbl := List.mem_of_getElem? (i := 615) (by decide +kernel)
theorem gw_615 : Cond.methodLink "LevelStore" 134 (⟨"java/util/NoSuchElementException", "<init>", "()V"⟩ : MethodName) ∈ ga_G := List.mem_filter.mpr ⟨gl_615, rfl⟩
theorem gl_621 : Cond.methodLink "LevelStore" 129 (⟨"LevelStore", "lookInTables", "(II)I"⟩ : MethodName) ∈ lw_tbl := List.mem_of_getElem? (i := 621) (by decide +kernel)
theorem gw_621 : Cond.methodLink "LevelStore" 129 (⟨"LevelStore", "lookInTables", "(II)I"⟩ : MethodName) ∈ ga_G := List.mem_filter.mpr ⟨gl_621, rfl⟩
theorem gl_623 : Cond.instanceMethod (⟨"LevelStore", "lookInTables", "(II)I"⟩ : MethodName) ∈ lw_tbl := List.mem_of_getElem? (i := 623) (by decide +kernel)
theorem gw_623 : Cond.instanceMethod (⟨"LevelStore", "lookInTables", "(II)I"⟩ : MethodName) ∈ ga_G := List.mem_filter.mpr ⟨gl_623, rfl⟩
theorem gl_624 : Cond.code y_L_lookInTables c_L_lookInTables 5 (some .int) ∈ lw_tbl := List.mem_of_getElem? (i := 624) (by decide +kernel)
theorem gw_624 : Cond.code y_L_lookInTables c_L_lookInTables 5 (some .int) ∈ ga_G := List.mem_filter.mpr ⟨gl_624, rfl⟩
theorem gl_625 : Cond.methodLink "LevelStore" 224 (⟨"LevelStore$Shelf", "spans", "(II)Z"⟩ : MethodName) ∈ lw_tbl := List.mem_of_getElem? (i := 625) (by decide +kernel)
theorem gw_625 : Cond.methodLink "LevelStore" 224 (⟨"LevelStore$Shelf", "spans", "(II)Z"⟩ : MethodName) ∈ ga_G := List.mem_filter.mpr ⟨gl_625, rfl⟩
theorem gl_626 : Cond.methodLink "LevelStore" 227 (⟨"LevelStore", "lookInTable", "(III)I"⟩ : MethodName) ∈ lw_tbl := List.mem_of_getElem? (i := 626) (by decide +kernel)
theorem gw_626 : Cond.methodLink "LevelStore" 227 (⟨"LevelStore", "lookInTable", "(III)I"⟩ : MethodName) ∈ ga_G := List.mem_filter.mpr ⟨gl_626, rfl⟩
theorem gl_628 : Cond.instanceMethod (⟨"LevelStore", "lookInTable", "(III)I"⟩ : MethodName) ∈ lw_tbl := List.mem_of_getElem? (i := 628) (by decide +kernel)
theorem gw_628 : Cond.instanceMethod (⟨"LevelStore", "lookInTable", "(III)I"⟩ : MethodName) ∈ ga_G := List.mem_filter.mpr ⟨gl_628, rfl⟩
theorem gl_629 : Cond.code y_L_lookInTable c_L_lookInTable 9 (some .int) ∈ lw_tbl := List.mem_of_getElem? (i := 629) (by decide +kernel)
theorem gw_629 : Cond.code y_L_lookInTable c_L_lookInTable 9 (some .int) ∈ ga_G := List.mem_filter.mpr ⟨gl_629, rfl⟩
theorem gl_630 : Cond.methodLink "LevelStore" 231 (⟨"LevelStore$Shelf", "passes", "(II)Z"⟩ : MethodName) ∈ lw_tbl := List.mem_of_getElem? (i := 630) (by decide +kernel)
theorem gw_630 : Cond.methodLink "LevelStore" 231 (⟨"LevelStore$Shelf", "passes", "(II)Z"⟩ : MethodName) ∈ ga_G := List.mem_filter.mpr ⟨gl_630, rfl⟩
theorem gl_631 : Cond.instanceMethod (⟨"LevelStore$Shelf", "passes", "(II)Z"⟩ : MethodName) ∈ lw_tbl := List.mem_of_getElem? (i := 631) (by decide +kernel)
theorem gw_631 : Cond.instanceMethod (⟨"LevelStore$Shelf", "passes", "(II)Z"⟩ : MethodName) ∈ ga_G := List.mem_filter.mpr ⟨gl_631, rfl⟩
theorem gl_632 : Cond.selects "LevelStore$Shelf" (⟨"LevelStore$Shelf", "passes", "(II)Z"⟩ : MethodName) (⟨"LevelStore$Shelf", "passes", "(II)Z"⟩ : MethodName) ∈ lw_tbl := List.mem_of_getElem? (i := 632) (by decide +kernel)
theorem gw_632 : Cond.selects "LevelStore$Shelf" (⟨"LevelStore$Shelf", "passes", "(II)Z"⟩ : MethodName) (⟨"LevelStore$Shelf", "passes", "(II)Z"⟩ : MethodName) ∈ ga_G := List.mem_filter.mpr ⟨gl_632, rfl⟩
theorem gl_633 : Cond.code y_S_passes c_S_passes 10 (some .boolean) ∈ lw_tbl := List.mem_of_getElem? (i := 633) (by decide +kernel)
theorem gw_633 : Cond.code y_S_passes c_S_passes 10 (some .boolean) ∈ ga_G := List.mem_filter.mpr ⟨gl_633, rfl⟩
theorem gl_634 : Cond.methodLink "LevelStore$Shelf" 69 (⟨"LevelStore$Shelf", "firstMark", "(I)I"⟩ : MethodName) ∈ lw_tbl := List.mem_of_getElem? (i := 634) (by decide +kernel)
theorem gw_634 : Cond.methodLink "LevelStore$Shelf" 69 (⟨"LevelStore$Shelf", "firstMark", "(I)I"⟩ : MethodName) ∈ ga_G := List.mem_filter.mpr ⟨gl_634, rfl⟩
theorem gl_635 : Cond.static (⟨"LevelStore$Shelf", "firstMark", "(I)I"⟩ : MethodName) ∈ lw_tbl := List.mem_of_getElem? (i := 635) (by decide +kernel)
theorem gw_635 : Cond.static (⟨"LevelStore$Shelf", "firstMark", "(I)I"⟩ : MethodName) ∈ ga_G := List.mem_filter.mpr ⟨gl_635, rfl⟩
theorem gl_636 : Cond.code y_S_firstMark c_S_firstMark 1 (some .int) ∈ lw_tbl := List.mem_of_getElem? (i := 636) (by decide +kernel)
theorem gw_636 : Cond.code y_S_firstMark c_S_firstMark 1 (some .int) ∈ ga_G := List.mem_filter.mpr ⟨gl_636, rfl⟩
theorem gl_637 : Cond.methodLink "LevelStore$Shelf" 72 (⟨"LevelStore$Shelf", "secondMark", "(I)I"⟩ : MethodName) ∈ lw_tbl := List.mem_of_getElem? (i := 637) (by decide +kernel)
theorem gw_637 : Cond.methodLink "LevelStore$Shelf" 72 (⟨"LevelStore$Shelf", "secondMark", "(I)I"⟩ : MethodName) ∈ ga_G := List.mem_filter.mpr ⟨gl_637, rfl⟩
theorem gl_638 : Cond.static (⟨"LevelStore$Shelf", "secondMark", "(I)I"⟩ : MethodName) ∈ lw_tbl := List.mem_of_getElem? (i := 638) (by decide +kernel)
theorem gw_638 : Cond.static (⟨"LevelStore$Shelf", "secondMark", "(I)I"⟩ : MethodName) ∈ ga_G := List.mem_filter.mpr ⟨gl_638, rfl⟩
theorem gl_639 : Cond.code y_S_secondMark c_S_secondMark 1 (some .int) ∈ lw_tbl := List.mem_of_getElem? (i := 639) (by decide +kernel)
theorem gw_639 : Cond.code y_S_secondMark c_S_secondMark 1 (some .int) ∈ ga_G := List.mem_filter.mpr ⟨gl_639, rfl⟩
theorem gl_640 : Cond.methodLink "LevelStore" 237 (⟨"LevelStore$Shelf", "firstBlockFor", "(II)I"⟩ : MethodName) ∈ lw_tbl := List.mem_of_getElem? (i := 640) (by decide +kernel)
theorem gw_640 : Cond.methodLink "LevelStore" 237 (⟨"LevelStore$Shelf", "firstBlockFor", "(II)I"⟩ : MethodName) ∈ ga_G := List.mem_filter.mpr ⟨gl_640, rfl⟩
theorem gl_641 : Cond.instanceMethod (⟨"LevelStore$Shelf", "firstBlockFor", "(II)I"⟩ : MethodName) ∈ lw_tbl := List.mem_of_getElem? (i := 641) (by decide +kernel)
theorem gw_641 : Cond.instanceMethod (⟨"LevelStore$Shelf", "firstBlockFor", "(II)I"⟩ : MethodName) ∈ ga_G := List.mem_filter.mpr ⟨gl_641, rfl⟩
theorem gl_642 : Cond.selects "LevelStore$Shelf" (⟨"LevelStore$Shelf", "firstBlockFor", "(II)I"⟩ : MethodName) (⟨"LevelStore$Shelf", "firstBlockFor", "(II)I"⟩ : MethodName) ∈ lw_tbl := List.mem_of_getElem? (i := 642) (by decide +kernel)
theorem gw_642 : Cond.selects "LevelStore$Shelf" (⟨"LevelStore$Shelf", "firstBlockFor", "(II)I"⟩ : MethodName) (⟨"LevelStore$Shelf", "firstBlockFor", "(II)I"⟩ : MethodName) ∈ ga_G := List.mem_filter.mpr ⟨gl_642, rfl⟩
theorem gl_643 : Cond.code y_S_firstBlockFor c_S_firstBlockFor 4 (some .int) ∈ lw_tbl := List.mem_of_getElem? (i := 643) (by decide +kernel)
theorem gw_643 : Cond.code y_S_firstBlockFor c_S_firstBlockFor 4 (some .int) ∈ ga_G := List.mem_filter.mpr ⟨gl_643, rfl⟩
theorem gl_644 : Cond.methodLink "LevelStore" 243 (⟨"LevelStore$Entries", "rowOf", "(IIII)I"⟩ : MethodName) ∈ lw_tbl := List.mem_of_getElem? (i := 644) (by decide +kernel)
theorem gw_644 : Cond.methodLink "LevelStore" 243 (⟨"LevelStore$Entries", "rowOf", "(IIII)I"⟩ : MethodName) ∈ ga_G := List.mem_filter.mpr ⟨gl_644, rfl⟩
theorem gl_645 : Cond.instanceMethod (⟨"LevelStore$Entries", "rowOf", "(IIII)I"⟩ : MethodName) ∈ lw_tbl := List.mem_of_getElem? (i := 645) (by decide +kernel)
theorem gw_645 : Cond.instanceMethod (⟨"LevelStore$Entries", "rowOf", "(IIII)I"⟩ : MethodName) ∈ ga_G := List.mem_filter.mpr ⟨gl_645, rfl⟩
theorem gl_646 : Cond.selects "LevelStore$Entries" (⟨"LevelStore$Entries", "rowOf", "(IIII)I"⟩ : MethodName) (⟨"LevelStore$Entries", "rowOf", "(IIII)I"⟩ : MethodName) ∈ lw_tbl := List.mem_of_getElem? (i := 646) (by decide +kernel)
theorem gw_646 : Cond.selects "LevelStore$Entries" (⟨"LevelStore$Entries", "rowOf", "(IIII)I"⟩ : MethodName) (⟨"LevelStore$Entries", "rowOf", "(IIII)I"⟩ : MethodName) ∈ ga_G := List.mem_filter.mpr ⟨gl_646, rfl⟩
theorem gl_647 : Cond.code y_E_rowOf c_E_rowOf 6 (some .int) ∈ lw_tbl := List.mem_of_getElem? (i := 647) (by decide +kernel)
theorem gw_647 : Cond.code y_E_rowOf c_E_rowOf 6 (some .int) ∈ ga_G := List.mem_filter.mpr ⟨gl_647, rfl⟩
theorem gl_651 : Cond.methodLink "LevelStoreLaw" 42 (⟨"LevelStore", "next", "(II)I"⟩ : MethodName) ∈ lw_tbl := List.mem_of_getElem? (i := 651) (by decide +kernel)
theorem gw_651 : Cond.methodLink "LevelStoreLaw" 42 (⟨"LevelStore", "next", "(II)I"⟩ : MethodName) ∈ ga_G := List.mem_filter.mpr ⟨gl_651, rfl⟩
theorem gl_652 : Cond.instanceMethod (⟨"LevelStore", "next", "(II)I"⟩ : MethodName) ∈ lw_tbl := List.mem_of_getElem? (i := 652) (by decide +kernel)
end
section
theorem gw_652 : Cond.instanceMethod (⟨"LevelStore", "next", "(II)I"⟩ : MethodName) ∈ ga_G := List.mem_filter.mpr ⟨gl_652, rfl⟩
theorem gl_653 : Cond.selects "LevelStore" (⟨"LevelStore", "next", "(II)I"⟩ : MethodName) (⟨"LevelStore", "next", "(II)I"⟩ : MethodName) ∈ lw_tbl := List.mem_of_getElem? (i := 653) (by decide +kernel)
theorem gw_653 : Cond.selects "LevelStore" (⟨"LevelStore", "next", "(II)I"⟩ : MethodName) (⟨"LevelStore", "next", "(II)I"⟩ : MethodName) ∈ ga_G := List.mem_filter.mpr ⟨gl_653, rfl⟩
theorem gl_654 : Cond.code y_L_next c_L_next 5 (some .int) ∈ lw_tbl := List.mem_of_getElem? (i := 654) (by decide +kernel)
theorem gw_654 : Cond.code y_L_next c_L_next 5 (some .int) ∈ ga_G := List.mem_filter.mpr ⟨gl_654, rfl⟩
theorem gl_655 : Cond.methodLink "LevelStore" 135 (⟨"LevelStore", "hasValue", "(II)Z"⟩ : MethodName) ∈ lw_tbl := List.mem_of_getElem? (i := 655) (by decide +kernel)
theorem gw_655 : Cond.methodLink "LevelStore" 135 (⟨"LevelStore", "hasValue", "(II)Z"⟩ : MethodName) ∈ ga_G := List.mem_filter.mpr ⟨gl_655, rfl⟩
theorem gl_657 : Cond.instanceMethod (⟨"LevelStore", "hasValue", "(II)Z"⟩ : MethodName) ∈ lw_tbl := List.mem_of_getElem? (i := 657) (by decide +kernel)
theorem gw_657 : Cond.instanceMethod (⟨"LevelStore", "hasValue", "(II)Z"⟩ : MethodName) ∈ ga_G := List.mem_filter.mpr ⟨gl_657, rfl⟩
theorem gl_658 : Cond.code y_L_hasValue c_L_hasValue 6 (some .boolean) ∈ lw_tbl := List.mem_of_getElem? (i := 658) (by decide +kernel)
theorem gw_658 : Cond.code y_L_hasValue c_L_hasValue 6 (some .boolean) ∈ ga_G := List.mem_filter.mpr ⟨gl_658, rfl⟩
theorem gl_662 : Cond.methodLink "LevelStoreLaw" 45 (⟨"LevelStore", "snapshot", "()I"⟩ : MethodName) ∈ lw_tbl := List.mem_of_getElem? (i := 662) (by decide +kernel)
theorem gw_662 : Cond.methodLink "LevelStoreLaw" 45 (⟨"LevelStore", "snapshot", "()I"⟩ : MethodName) ∈ ga_G := List.mem_filter.mpr ⟨gl_662, rfl⟩
theorem gl_663 : Cond.instanceMethod (⟨"LevelStore", "snapshot", "()I"⟩ : MethodName) ∈ lw_tbl := List.mem_of_getElem? (i := 663) (by decide +kernel)
theorem gw_663 : Cond.instanceMethod (⟨"LevelStore", "snapshot", "()I"⟩ : MethodName) ∈ ga_G := List.mem_filter.mpr ⟨gl_663, rfl⟩
theorem gl_664 : Cond.selects "LevelStore" (⟨"LevelStore", "snapshot", "()I"⟩ : MethodName) (⟨"LevelStore", "snapshot", "()I"⟩ : MethodName) ∈ lw_tbl := List.mem_of_getElem? (i := 664) (by decide +kernel)
theorem gw_664 : Cond.selects "LevelStore" (⟨"LevelStore", "snapshot", "()I"⟩ : MethodName) (⟨"LevelStore", "snapshot", "()I"⟩ : MethodName) ∈ ga_G := List.mem_filter.mpr ⟨gl_664, rfl⟩
theorem gl_665 : Cond.code y_L_snapshot c_L_snapshot 2 (some .int) ∈ lw_tbl := List.mem_of_getElem? (i := 665) (by decide +kernel)
theorem gw_665 : Cond.code y_L_snapshot c_L_snapshot 2 (some .int) ∈ ga_G := List.mem_filter.mpr ⟨gl_665, rfl⟩
theorem gl_669 : Cond.methodLink "LevelStoreLaw" 48 (⟨"LevelStore", "release", "(I)I"⟩ : MethodName) ∈ lw_tbl := List.mem_of_getElem? (i := 669) (by decide +kernel)
theorem gw_669 : Cond.methodLink "LevelStoreLaw" 48 (⟨"LevelStore", "release", "(I)I"⟩ : MethodName) ∈ ga_G := List.mem_filter.mpr ⟨gl_669, rfl⟩
theorem gl_670 : Cond.instanceMethod (⟨"LevelStore", "release", "(I)I"⟩ : MethodName) ∈ lw_tbl := List.mem_of_getElem? (i := 670) (by decide +kernel)
theorem gw_670 : Cond.instanceMethod (⟨"LevelStore", "release", "(I)I"⟩ : MethodName) ∈ ga_G := List.mem_filter.mpr ⟨gl_670, rfl⟩
theorem gl_671 : Cond.selects "LevelStore" (⟨"LevelStore", "release", "(I)I"⟩ : MethodName) (⟨"LevelStore", "release", "(I)I"⟩ : MethodName) ∈ lw_tbl := List.mem_of_getElem? (i := 671) (by decide +kernel)
theorem gw_671 : Cond.selects "LevelStore" (⟨"LevelStore", "release", "(I)I"⟩ : MethodName) (⟨"LevelStore", "release", "(I)I"⟩ : MethodName) ∈ ga_G := List.mem_filter.mpr ⟨gl_671, rfl⟩
theorem gl_672 : Cond.code y_L_release c_L_release 3 (some .int) ∈ lw_tbl := List.mem_of_getElem? (i := 672) (by decide +kernel)
theorem gw_672 : Cond.code y_L_release c_L_release 3 (some .int) ∈ ga_G := List.mem_filter.mpr ⟨gl_672, rfl⟩
theorem gl_676 : Cond.classLink "LevelStoreLaw" 54 "java/lang/IndexOutOfBoundsException" ∈ lw_tbl := List.mem_of_getElem? (i := 676) (by decide +kernel)
theorem gw_676 : Cond.classLink "LevelStoreLaw" 54 "java/lang/IndexOutOfBoundsException" ∈ ga_G := List.mem_filter.mpr ⟨gl_676, rfl⟩
theorem gl_677 : Cond.methodLink "LevelStoreLaw" 51 (⟨"LevelStore", "spoil", "(II)I"⟩ : MethodName) ∈ lw_tbl := List.mem_of_getElem? (i := 677) (by decide +kernel)
theorem gw_677 : Cond.methodLink "LevelStoreLaw" 51 (⟨"LevelStore", "spoil", "(II)I"⟩ : MethodName) ∈ ga_G := List.mem_filter.mpr ⟨gl_677, rfl⟩
theorem gl_678 : Cond.instanceMethod (⟨"LevelStore", "spoil", "(II)I"⟩ : MethodName) ∈ lw_tbl := List.mem_of_getElem? (i := 678) (by decide +kernel)
theorem gw_678 : Cond.instanceMethod (⟨"LevelStore", "spoil", "(II)I"⟩ : MethodName) ∈ ga_G := List.mem_filter.mpr ⟨gl_678, rfl⟩
theorem gl_679 : Cond.selects "LevelStore" (⟨"LevelStore", "spoil", "(II)I"⟩ : MethodName) (⟨"LevelStore", "spoil", "(II)I"⟩ : MethodName) ∈ lw_tbl := List.mem_of_getElem? (i := 679) (by decide +kernel)
theorem gw_679 : Cond.selects "LevelStore" (⟨"LevelStore", "spoil", "(II)I"⟩ : MethodName) (⟨"LevelStore", "spoil", "(II)I"⟩ : MethodName) ∈ ga_G := List.mem_filter.mpr ⟨gl_679, rfl⟩
theorem gl_680 : Cond.code y_L_spoil c_L_spoil 3 (some .int) ∈ lw_tbl := List.mem_of_getElem? (i := 680) (by decide +kernel)
theorem gw_680 : Cond.code y_L_spoil c_L_spoil 3 (some .int) ∈ ga_G := List.mem_filter.mpr ⟨gl_680, rfl⟩
theorem gl_681 : Cond.methodLink "LevelStore" 139 (⟨"LevelStore$Shelf", "blocksOf", "(I)I"⟩ : MethodName) ∈ lw_tbl := List.mem_of_getElem? (i := 681) (by decide +kernel)
theorem gw_681 : Cond.methodLink "LevelStore" 139 (⟨"LevelStore$Shelf", "blocksOf", "(I)I"⟩ : MethodName) ∈ ga_G := List.mem_filter.mpr ⟨gl_681, rfl⟩
theorem gl_682 : Cond.instanceMethod (⟨"LevelStore$Shelf", "blocksOf", "(I)I"⟩ : MethodName) ∈ lw_tbl := List.mem_of_getElem? (i := 682) (by decide +kernel)
theorem gw_682 : Cond.instanceMethod (⟨"LevelStore$Shelf", "blocksOf", "(I)I"⟩ : MethodName) ∈ ga_G := List.mem_filter.mpr ⟨gl_682, rfl⟩
theorem gl_683 : Cond.selects "LevelStore$Shelf" (⟨"LevelStore$Shelf", "blocksOf", "(I)I"⟩ : MethodName) (⟨"LevelStore$Shelf", "blocksOf", "(I)I"⟩ : MethodName) ∈ lw_tbl := List.mem_of_getElem? (i := 683) (by decide +kernel)
theorem gw_683 : Cond.selects "LevelStore$Shelf" (⟨"LevelStore$Shelf", "blocksOf", "(I)I"⟩ : MethodName) (⟨"LevelStore$Shelf", "blocksOf", "(I)I"⟩ : MethodName) ∈ ga_G := List.mem_filter.mpr ⟨gl_683, rfl⟩
theorem gl_684 : Cond.code y_S_blocksOf c_S_blocksOf 2 (some .int) ∈ lw_tbl := List.mem_of_getElem? (i := 684) (by decide +kernel)
theorem gw_684 : Cond.code y_S_blocksOf c_S_blocksOf 2 (some .int) ∈ ga_G := List.mem_filter.mpr ⟨gl_684, rfl⟩
theorem gl_685 : Cond.methodLink "LevelStore$Shelf" 55 (⟨"LevelStore$Shelf", "sizeOf", "(I)I"⟩ : MethodName) ∈ lw_tbl := List.mem_of_getElem? (i := 685) (by decide +kernel)
theorem gw_685 : Cond.methodLink "LevelStore$Shelf" 55 (⟨"LevelStore$Shelf", "sizeOf", "(I)I"⟩ : MethodName) ∈ ga_G := List.mem_filter.mpr ⟨gl_685, rfl⟩
theorem gl_686 : Cond.instanceMethod (⟨"LevelStore$Shelf", "sizeOf", "(I)I"⟩ : MethodName) ∈ lw_tbl := List.mem_of_getElem? (i := 686) (by decide +kernel)
theorem gw_686 : Cond.instanceMethod (⟨"LevelStore$Shelf", "sizeOf", "(I)I"⟩ : MethodName) ∈ ga_G := List.mem_filter.mpr ⟨gl_686, rfl⟩
theorem gl_687 : Cond.selects "LevelStore$Shelf" (⟨"LevelStore$Shelf", "sizeOf", "(I)I"⟩ : MethodName) (⟨"LevelStore$Shelf", "sizeOf", "(I)I"⟩ : MethodName) ∈ lw_tbl := List.mem_of_getElem? (i := 687) (by decide +kernel)
theorem gw_687 : Cond.selects "LevelStore$Shelf" (⟨"LevelStore$Shelf", "sizeOf", "(I)I"⟩ : MethodName) (⟨"LevelStore$Shelf", "sizeOf", "(I)I"⟩ : MethodName) ∈ ga_G := List.mem_filter.mpr ⟨gl_687, rfl⟩
theorem gl_688 : Cond.code y_S_sizeOf c_S_sizeOf 2 (some .int) ∈ lw_tbl := List.mem_of_getElem? (i := 688) (by decide +kernel)
theorem gw_688 : Cond.code y_S_sizeOf c_S_sizeOf 2 (some .int) ∈ ga_G := List.mem_filter.mpr ⟨gl_688, rfl⟩
theorem gl_689 : Cond.classLink "LevelStore" 142 "java/lang/IndexOutOfBoundsException" ∈ lw_tbl := List.mem_of_getElem? (i := 689) (by decide +kernel)
theorem gw_689 : Cond.classLink "LevelStore" 142 "java/lang/IndexOutOfBoundsException" ∈ ga_G := List.mem_filter.mpr ⟨gl_689, rfl⟩
theorem gl_691 : Cond.castable "java/lang/IndexOutOfBoundsException" "java/lang/IndexOutOfBoundsException" ∈ lw_tbl := List.mem_of_getElem? (i := 691) (by decide +kernel)
theorem gl_698 : Cond.methodLink "LevelStore" 144 (⟨"java/lang/IndexOutOfBoundsException", "<init>", "()V"⟩ : MethodName) ∈ lw_tbl := List.mem_of_getElem? (i := 698) (by decide +kernel)
theorem gw_698 : Cond.methodLink "LevelStore" 144 (⟨"java/lang/IndexOutOfBoundsException", "<init>", "()V"⟩ : MethodName) ∈ ga_G := List.mem_filter.mpr ⟨gl_698, rfl⟩
theorem gl_704 : Cond.methodLink "LevelStore" 145 (⟨"LevelStore$Shelf", "spoilBlock", "(II)I"⟩ : MethodName) ∈ lw_tbl := List.mem_of_getElem? (i := 704) (by decide +kernel)
theorem gw_704 : Cond.methodLink "LevelStore" 145 (⟨"LevelStore$Shelf", "spoilBlock", "(II)I"⟩ : MethodName) ∈ ga_G := List.mem_filter.mpr ⟨gl_704, rfl⟩
theorem gl_705 : Cond.instanceMethod (⟨"LevelStore$Shelf", "spoilBlock", "(II)I"⟩ : MethodName) ∈ lw_tbl := List.mem_of_getElem? (i := 705) (by decide +kernel)
theorem gw_705 : Cond.instanceMethod (⟨"LevelStore$Shelf", "spoilBlock", "(II)I"⟩ : MethodName) ∈ ga_G := List.mem_filter.mpr ⟨gl_705, rfl⟩
theorem gl_706 : Cond.selects "LevelStore$Shelf" (⟨"LevelStore$Shelf", "spoilBlock", "(II)I"⟩ : MethodName) (⟨"LevelStore$Shelf", "spoilBlock", "(II)I"⟩ : MethodName) ∈ lw_tbl := List.mem_of_getElem? (i := 706) (by decide +kernel)
theorem gw_706 : Cond.selects "LevelStore$Shelf" (⟨"LevelStore$Shelf", "spoilBlock", "(II)I"⟩ : MethodName) (⟨"LevelStore$Shelf", "spoilBlock", "(II)I"⟩ : MethodName) ∈ ga_G := List.mem_filter.mpr ⟨gl_706, rfl⟩
theorem gl_707 : Cond.code y_S_spoilBlock c_S_spoilBlock 6 (some .int) ∈ lw_tbl := List.mem_of_getElem? (i := 707) (by decide +kernel)
theorem gw_707 : Cond.code y_S_spoilBlock c_S_spoilBlock 6 (some .int) ∈ ga_G := List.mem_filter.mpr ⟨gl_707, rfl⟩
theorem gl_708 : Cond.methodLink "LevelStore$Shelf" 63 (⟨"java/lang/Math", "min", "(II)I"⟩ : MethodName) ∈ lw_tbl := List.mem_of_getElem? (i := 708) (by decide +kernel)
theorem gw_708 : Cond.methodLink "LevelStore$Shelf" 63 (⟨"java/lang/Math", "min", "(II)I"⟩ : MethodName) ∈ ga_G := List.mem_filter.mpr ⟨gl_708, rfl⟩
theorem gl_712 : Cond.classLink "LevelStoreLaw" 60 "java/lang/ArithmeticException" ∈ lw_tbl := List.mem_of_getElem? (i := 712) (by decide +kernel)
theorem gw_712 : Cond.classLink "LevelStoreLaw" 60 "java/lang/ArithmeticException" ∈ ga_G := List.mem_filter.mpr ⟨gl_712, rfl⟩
theorem gl_713 : Cond.methodLink "LevelStoreLaw" 56 (⟨"LevelStore", "effort", "()D"⟩ : MethodName) ∈ lw_tbl := List.mem_of_getElem? (i := 713) (by decide +kernel)
theorem gw_713 : Cond.methodLink "LevelStoreLaw" 56 (⟨"LevelStore", "effort", "()D"⟩ : MethodName) ∈ ga_G := List.mem_filter.mpr ⟨gl_713, rfl⟩
theorem gl_714 : Cond.instanceMethod (⟨"LevelStore", "effort", "()D"⟩ : MethodName) ∈ lw_tbl := List.mem_of_getElem? (i := 714) (by decide +kernel)
theorem gw_714 : Cond.instanceMethod (⟨"LevelStore", "effort", "()D"⟩ : MethodName) ∈ ga_G := List.mem_filter.mpr ⟨gl_714, rfl⟩
theorem gl_715 : Cond.selects "LevelStore" (⟨"LevelStore", "effort", "()D"⟩ : MethodName) (⟨"LevelStore", "effort", "()D"⟩ : MethodName) ∈ lw_tbl := List.mem_of_getElem? (i := 715) (by decide +kernel)
theorem gw_715 : Cond.selects "LevelStore" (⟨"LevelStore", "effort", "()D"⟩ : MethodName) (⟨"LevelStore", "effort", "()D"⟩ : MethodName) ∈ ga_G := List.mem_filter.mpr ⟨gl_715, rfl⟩
theorem gl_716 : Cond.code y_L_effort c_L_effort 1 (some .double) ∈ lw_tbl := List.mem_of_getElem? (i := 716) (by decide +kernel)
theorem gw_716 : Cond.code y_L_effort c_L_effort 1 (some .double) ∈ ga_G := List.mem_filter.mpr ⟨gl_716, rfl⟩
theorem gl_717 : Cond.classLink "LevelStore" 151 "java/lang/ArithmeticException" ∈ lw_tbl := List.mem_of_getElem? (i := 717) (by decide +kernel)
theorem gw_717 : Cond.classLink "LevelStore" 151 "java/lang/ArithmeticException" ∈ ga_G := List.mem_filter.mpr ⟨gl_717, rfl⟩
theorem gl_719 : Cond.castable "java/lang/ArithmeticException" "java/lang/ArithmeticException" ∈ lw_tbl := List.mem_of_getElem? (i := 719) (by decide +kernel)
theorem gl_726 : Cond.methodLink "LevelStore" 153 (⟨"java/lang/ArithmeticException", "<init>", "()V"⟩ : MethodName) ∈ lw_tbl := List.mem_of_getElem? (i := 726) (by decide +kernel)
theorem gw_726 : Cond.methodLink "LevelStore" 153 (⟨"java/lang/ArithmeticException", "<init>", "()V"⟩ : MethodName) ∈ ga_G := List.mem_filter.mpr ⟨gl_726, rfl⟩
theorem gl_735 : Cond.methodLink "LevelStoreLaw" 62 (⟨"LevelStore", "table", "(II)I"⟩ : MethodName) ∈ lw_tbl := List.mem_of_getElem? (i := 735) (by decide +kernel)
theorem gw_735 : Cond.methodLink "LevelStoreLaw" 62 (⟨"LevelStore", "table", "(II)I"⟩ : MethodName) ∈ ga_G := List.mem_filter.mpr ⟨gl_735, rfl⟩
theorem gl_736 : Cond.instanceMethod (⟨"LevelStore", "table", "(II)I"⟩ : MethodName) ∈ lw_tbl := List.mem_of_getElem? (i := 736) (by decide +kernel)
theorem gw_736 : Cond.instanceMethod (⟨"LevelStore", "table", "(II)I"⟩ : MethodName) ∈ ga_G := List.mem_filter.mpr ⟨gl_736, rfl⟩
theorem gl_737 : Cond.selects "LevelStore" (⟨"LevelStore", "table", "(II)I"⟩ : MethodName) (⟨"LevelStore", "table", "(II)I"⟩ : MethodName) ∈ lw_tbl := List.mem_of_getElem? (i := 737) (by decide +kernel)
theorem gw_737 : Cond.selects "LevelStore" (⟨"LevelStore", "table", "(II)I"⟩ : MethodName) (⟨"LevelStore", "table", "(II)I"⟩ : MethodName) ∈ ga_G := List.mem_filter.mpr ⟨gl_737, rfl⟩
theorem gl_738 : Cond.code y_L_table c_L_table 4 (some .int) ∈ lw_tbl := List.mem_of_getElem? (i := 738) (by decide +kernel)
theorem gw_738 : Cond.code y_L_table c_L_table 4 (some .int) ∈ ga_G := List.mem_filter.mpr ⟨gl_738, rfl⟩
theorem gl_739 : Cond.methodLink "LevelStore" 163 (⟨"LevelStore$Shelf", "sizeOf", "(I)I"⟩ : MethodName) ∈ lw_tbl := List.mem_of_getElem? (i := 739) (by decide +kernel)
theorem gw_739 : Cond.methodLink "LevelStore" 163 (⟨"LevelStore$Shelf", "sizeOf", "(I)I"⟩ : MethodName) ∈ ga_G := List.mem_filter.mpr ⟨gl_739, rfl⟩
theorem gl_740 : Cond.methodLink "LevelStore" 166 (⟨"LevelStore$Shelf", "leastKey", "(I)I"⟩ : MethodName) ∈ lw_tbl := List.mem_of_getElem? (i := 740) (by decide +kernel)
theorem gw_740 : Cond.methodLink "LevelStore" 166 (⟨"LevelStore$Shelf", "leastKey", "(I)I"⟩ : MethodName) ∈ ga_G := List.mem_filter.mpr ⟨gl_740, rfl⟩
theorem gl_741 : Cond.methodLink "LevelStore" 169 (⟨"LevelStore$Shelf", "greatestKey", "(I)I"⟩ : MethodName) ∈ lw_tbl := List.mem_of_getElem? (i := 741) (by decide +kernel)
theorem gw_741 : Cond.methodLink "LevelStore" 169 (⟨"LevelStore$Shelf", "greatestKey", "(I)I"⟩ : MethodName) ∈ ga_G := List.mem_filter.mpr ⟨gl_741, rfl⟩
theorem gl_742 : Cond.methodLink "LevelStore" 172 (⟨"LevelStore$Shelf", "spoiledBlocksOf", "(I)I"⟩ : MethodName) ∈ lw_tbl := List.mem_of_getElem? (i := 742) (by decide +kernel)
theorem gw_742 : Cond.methodLink "LevelStore" 172 (⟨"LevelStore$Shelf", "spoiledBlocksOf", "(I)I"⟩ : MethodName) ∈ ga_G := List.mem_filter.mpr ⟨gl_742, rfl⟩
theorem gl_743 : Cond.methodLink "LevelStore" 175 (⟨"LevelStore$Shelf", "entryNumber", "(II)I"⟩ : MethodName) ∈ lw_tbl := List.mem_of_getElem? (i := 743) (by decide +kernel)
theorem gw_743 : Cond.methodLink "LevelStore" 175 (⟨"LevelStore$Shelf", "entryNumber", "(II)I"⟩ : MethodName) ∈ ga_G := List.mem_filter.mpr ⟨gl_743, rfl⟩
theorem gl_744 : Cond.instanceMethod (⟨"LevelStore$Shelf", "entryNumber", "(II)I"⟩ : MethodName) ∈ lw_tbl := List.mem_of_getElem? (i := 744) (by decide +kernel)
theorem gw_744 : Cond.instanceMethod (⟨"LevelStore$Shelf", "entryNumber", "(II)I"⟩ : MethodName) ∈ ga_G := List.mem_filter.mpr ⟨gl_744, rfl⟩
theorem gl_745 : Cond.selects "LevelStore$Shelf" (⟨"LevelStore$Shelf", "entryNumber", "(II)I"⟩ : MethodName) (⟨"LevelStore$Shelf", "entryNumber", "(II)I"⟩ : MethodName) ∈ lw_tbl := List.mem_of_getElem? (i := 745) (by decide +kernel)
theorem gw_745 : Cond.selects "LevelStore$Shelf" (⟨"LevelStore$Shelf", "entryNumber", "(II)I"⟩ : MethodName) (⟨"LevelStore$Shelf", "entryNumber", "(II)I"⟩ : MethodName) ∈ ga_G := List.mem_filter.mpr ⟨gl_745, rfl⟩
theorem gl_746 : Cond.code y_S_entryNumber c_S_entryNumber 3 (some .int) ∈ lw_tbl := List.mem_of_getElem? (i := 746) (by decide +kernel)
theorem gw_746 : Cond.code y_S_entryNumber c_S_entryNumber 3 (some .int) ∈ ga_G := List.mem_filter.mpr ⟨gl_746, rfl⟩
theorem gl_750 : Cond.methodLink "LevelStoreLaw" 65 (⟨"LevelStore", "count", "(I)I"⟩ : MethodName) ∈ lw_tbl := List.mem_of_getElem? (i := 750) (by decide +kernel)
theorem gw_750 : Cond.methodLink "LevelStoreLaw" 65 (⟨"LevelStore", "count", "(I)I"⟩ : MethodName) ∈ ga_G := List.mem_filter.mpr ⟨gl_750, rfl⟩
theorem gl_751 : Cond.instanceMethod (⟨"LevelStore", "count", "(I)I"⟩ : MethodName) ∈ lw_tbl := List.mem_of_getElem? (i := 751) (by decide +kernel)
theorem gw_751 : Cond.instanceMethod (⟨"LevelStore", "count", "(I)I"⟩ : MethodName) ∈ ga_G := List.mem_filter.mpr ⟨gl_751, rfl⟩
theorem gl_752 : Cond.selects "LevelStore" (⟨"LevelStore", "count", "(I)I"⟩ : MethodName) (⟨"LevelStore", "count", "(I)I"⟩ : MethodName) ∈ lw_tbl := List.mem_of_getElem? (i := 752) (by decide +kernel)
theorem gw_752 : Cond.selects "LevelStore" (⟨"LevelStore", "count", "(I)I"⟩ : MethodName) (⟨"LevelStore", "count", "(I)I"⟩ : MethodName) ∈ ga_G := List.mem_filter.mpr ⟨gl_752, rfl⟩
theorem gl_753 : Cond.code y_L_count c_L_count 2 (some .int) ∈ lw_tbl := List.mem_of_getElem? (i := 753) (by decide +kernel)
theorem gw_753 : Cond.code y_L_count c_L_count 2 (some .int) ∈ ga_G := List.mem_filter.mpr ⟨gl_753, rfl⟩
theorem gl_754 : Cond.methodLink "LevelStore" 193 (⟨"LevelStore$Shelf", "tablesOn", "(I)I"⟩ : MethodName) ∈ lw_tbl := List.mem_of_getElem? (i := 754) (by decide +kernel)
theorem gw_754 : Cond.methodLink "LevelStore" 193 (⟨"LevelStore$Shelf", "tablesOn", "(I)I"⟩ : MethodName) ∈ ga_G := List.mem_filter.mpr ⟨gl_754, rfl⟩
theorem gl_760 : Cond.methodLink "LevelStoreModel" 1 (⟨"java/lang/Object", "<init>", "()V"⟩ : MethodName) ∈ lw_tbl := List.mem_of_getElem? (i := 760) (by decide +kernel)
theorem gw_760 : Cond.methodLink "LevelStoreModel" 1 (⟨"java/lang/Object", "<init>", "()V"⟩ : MethodName) ∈ ga_G := List.mem_filter.mpr ⟨gl_760, rfl⟩
theorem gl_761 : Cond.fieldLink "LevelStoreModel" 85 "LevelStoreModel" "thrown" "I" ∈ lw_tbl := List.mem_of_getElem? (i := 761) (by decide +kernel)
theorem gw_761 : Cond.fieldLink "LevelStoreModel" 85 "LevelStoreModel" "thrown" "I" ∈ ga_G := List.mem_filter.mpr ⟨gl_761, rfl⟩
theorem gl_762 : Cond.fieldLink "LevelStoreModel" 7 "LevelStoreModel" "key" "[I" ∈ lw_tbl := List.mem_of_getElem? (i := 762) (by decide +kernel)
theorem gw_762 : Cond.fieldLink "LevelStoreModel" 7 "LevelStoreModel" "key" "[I" ∈ ga_G := List.mem_filter.mpr ⟨gl_762, rfl⟩
theorem gl_763 : Cond.fieldLink "LevelStoreModel" 13 "LevelStoreModel" "number" "[I" ∈ lw_tbl := List.mem_of_getElem? (i := 763) (by decide +kernel)
theorem gw_763 : Cond.fieldLink "LevelStoreModel" 13 "LevelStoreModel" "number" "[I" ∈ ga_G := List.mem_filter.mpr ⟨gl_763, rfl⟩
theorem gl_764 : Cond.fieldLink "LevelStoreModel" 16 "LevelStoreModel" "value" "[I" ∈ lw_tbl := List.mem_of_getElem? (i := 764) (by decide +kernel)
theorem gw_764 : Cond.fieldLink "LevelStoreModel" 16 "LevelStoreModel" "value" "[I" ∈ ga_G := List.mem_filter.mpr ⟨gl_764, rfl⟩
theorem gl_765 : Cond.fieldLink "LevelStoreModel" 19 "LevelStoreModel" "gone" "[Z" ∈ lw_tbl := List.mem_of_getElem? (i := 765) (by decide +kernel)
theorem gw_765 : Cond.fieldLink "LevelStoreModel" 19 "LevelStoreModel" "gone" "[Z" ∈ ga_G := List.mem_filter.mpr ⟨gl_765, rfl⟩
theorem gl_766 : Cond.fieldLink "LevelStoreModel" 95 "LevelStoreModel" "entries" "I" ∈ lw_tbl := List.mem_of_getElem? (i := 766) (by decide +kernel)
theorem gw_766 : Cond.fieldLink "LevelStoreModel" 95 "LevelStoreModel" "entries" "I" ∈ ga_G := List.mem_filter.mpr ⟨gl_766, rfl⟩
theorem gl_767 : Cond.fieldLink "LevelStoreModel" 23 "LevelStoreModel" "tNumber" "[I" ∈ lw_tbl := List.mem_of_getElem? (i := 767) (by decide +kernel)
theorem gw_767 : Cond.fieldLink "LevelStoreModel" 23 "LevelStoreModel" "tNumber" "[I" ∈ ga_G := List.mem_filter.mpr ⟨gl_767, rfl⟩
theorem gl_768 : Cond.fieldLink "LevelStoreModel" 26 "LevelStoreModel" "tLevel" "[I" ∈ lw_tbl := List.mem_of_getElem? (i := 768) (by decide +kernel)
theorem gw_768 : Cond.fieldLink "LevelStoreModel" 26 "LevelStoreModel" "tLevel" "[I" ∈ ga_G := List.mem_filter.mpr ⟨gl_768, rfl⟩
theorem gl_769 : Cond.fieldLink "LevelStoreModel" 29 "LevelStoreModel" "tSize" "[I" ∈ lw_tbl := List.mem_of_getElem? (i := 769) (by decide +kernel)
theorem gw_769 : Cond.fieldLink "LevelStoreModel" 29 "LevelStoreModel" "tSize" "[I" ∈ ga_G := List.mem_filter.mpr ⟨gl_769, rfl⟩
theorem gl_770 : Cond.fieldLink "LevelStoreModel" 32 "LevelStoreModel" "tSpoiled" "[J" ∈ lw_tbl := List.mem_of_getElem? (i := 770) (by decide +kernel)
theorem gw_770 : Cond.fieldLink "LevelStoreModel" 32 "LevelStoreModel" "tSpoiled" "[J" ∈ ga_G := List.mem_filter.mpr ⟨gl_770, rfl⟩
theorem gl_771 : Cond.fieldLink "LevelStoreModel" 92 "LevelStoreModel" "tables" "I" ∈ lw_tbl := List.mem_of_getElem? (i := 771) (by decide +kernel)
theorem gw_771 : Cond.fieldLink "LevelStoreModel" 92 "LevelStoreModel" "tables" "I" ∈ ga_G := List.mem_filter.mpr ⟨gl_771, rfl⟩
theorem gl_772 : Cond.fieldLink "LevelStoreModel" 36 "LevelStoreModel" "mKey" "[I" ∈ lw_tbl := List.mem_of_getElem? (i := 772) (by decide +kernel)
theorem gw_772 : Cond.fieldLink "LevelStoreModel" 36 "LevelStoreModel" "mKey" "[I" ∈ ga_G := List.mem_filter.mpr ⟨gl_772, rfl⟩
theorem gl_773 : Cond.fieldLink "LevelStoreModel" 39 "LevelStoreModel" "mNumber" "[I" ∈ lw_tbl := List.mem_of_getElem? (i := 773) (by decide +kernel)
theorem gw_773 : Cond.fieldLink "LevelStoreModel" 39 "LevelStoreModel" "mNumber" "[I" ∈ ga_G := List.mem_filter.mpr ⟨gl_773, rfl⟩
theorem gl_774 : Cond.fieldLink "LevelStoreModel" 42 "LevelStoreModel" "mValue" "[I" ∈ lw_tbl := List.mem_of_getElem? (i := 774) (by decide +kernel)
theorem gw_774 : Cond.fieldLink "LevelStoreModel" 42 "LevelStoreModel" "mValue" "[I" ∈ ga_G := List.mem_filter.mpr ⟨gl_774, rfl⟩
theorem gl_775 : Cond.fieldLink "LevelStoreModel" 45 "LevelStoreModel" "mGone" "[Z" ∈ lw_tbl := List.mem_of_getElem? (i := 775) (by decide +kernel)
theorem gw_775 : Cond.fieldLink "LevelStoreModel" 45 "LevelStoreModel" "mGone" "[Z" ∈ ga_G := List.mem_filter.mpr ⟨gl_775, rfl⟩
theorem gl_776 : Cond.fieldLink "LevelStoreModel" 166 "LevelStoreModel" "memory" "I" ∈ lw_tbl := List.mem_of_getElem? (i := 776) (by decide +kernel)
theorem gw_776 : Cond.fieldLink "LevelStoreModel" 166 "LevelStoreModel" "memory" "I" ∈ ga_G := List.mem_filter.mpr ⟨gl_776, rfl⟩
theorem gl_777 : Cond.fieldLink "LevelStoreModel" 48 "LevelStoreModel" "recordSize" "[I" ∈ lw_tbl := List.mem_of_getElem? (i := 777) (by decide +kernel)
theorem gw_777 : Cond.fieldLink "LevelStoreModel" 48 "LevelStoreModel" "recordSize" "[I" ∈ ga_G := List.mem_filter.mpr ⟨gl_777, rfl⟩
theorem gl_778 : Cond.fieldLink "LevelStoreModel" 169 "LevelStoreModel" "records" "I" ∈ lw_tbl := List.mem_of_getElem? (i := 778) (by decide +kernel)
theorem gw_778 : Cond.fieldLink "LevelStoreModel" 169 "LevelStoreModel" "records" "I" ∈ ga_G := List.mem_filter.mpr ⟨gl_778, rfl⟩
theorem gl_779 : Cond.fieldLink "LevelStoreModel" 172 "LevelStoreModel" "synced" "I" ∈ lw_tbl := List.mem_of_getElem? (i := 779) (by decide +kernel)
theorem gw_779 : Cond.fieldLink "LevelStoreModel" 172 "LevelStoreModel" "synced" "I" ∈ ga_G := List.mem_filter.mpr ⟨gl_779, rfl⟩
theorem gl_780 : Cond.fieldLink "LevelStoreModel" 51 "LevelStoreModel" "bKey" "[I" ∈ lw_tbl := List.mem_of_getElem? (i := 780) (by decide +kernel)
theorem gw_780 : Cond.fieldLink "LevelStoreModel" 51 "LevelStoreModel" "bKey" "[I" ∈ ga_G := List.mem_filter.mpr ⟨gl_780, rfl⟩
theorem gl_781 : Cond.fieldLink "LevelStoreModel" 54 "LevelStoreModel" "bValue" "[I" ∈ lw_tbl := List.mem_of_getElem? (i := 781) (by decide +kernel)
theorem gw_781 : Cond.fieldLink "LevelStoreModel" 54 "LevelStoreModel" "bValue" "[I" ∈ ga_G := List.mem_filter.mpr ⟨gl_781, rfl⟩
theorem gl_782 : Cond.fieldLink "LevelStoreModel" 57 "LevelStoreModel" "bGone" "[Z" ∈ lw_tbl := List.mem_of_getElem? (i := 782) (by decide +kernel)
theorem gw_782 : Cond.fieldLink "LevelStoreModel" 57 "LevelStoreModel" "bGone" "[Z" ∈ ga_G := List.mem_filter.mpr ⟨gl_782, rfl⟩
theorem gl_783 : Cond.fieldLink "LevelStoreModel" 60 "LevelStoreModel" "batch" "I" ∈ lw_tbl := List.mem_of_getElem? (i := 783) (by decide +kernel)
theorem gw_783 : Cond.fieldLink "LevelStoreModel" 60 "LevelStoreModel" "batch" "I" ∈ ga_G := List.mem_filter.mpr ⟨gl_783, rfl⟩
theorem gl_784 : Cond.fieldLink "LevelStoreModel" 64 "LevelStoreModel" "snapshots" "[I" ∈ lw_tbl := List.mem_of_getElem? (i := 784) (by decide +kernel)
theorem gw_784 : Cond.fieldLink "LevelStoreModel" 64 "LevelStoreModel" "snapshots" "[I" ∈ ga_G := List.mem_filter.mpr ⟨gl_784, rfl⟩
theorem gl_785 : Cond.fieldLink "LevelStoreModel" 67 "LevelStoreModel" "pointer" "[I" ∈ lw_tbl := List.mem_of_getElem? (i := 785) (by decide +kernel)
theorem gw_785 : Cond.fieldLink "LevelStoreModel" 67 "LevelStoreModel" "pointer" "[I" ∈ ga_G := List.mem_filter.mpr ⟨gl_785, rfl⟩
theorem gl_786 : Cond.fieldLink "LevelStoreModel" 114 "LevelStoreModel" "latest" "I" ∈ lw_tbl := List.mem_of_getElem? (i := 786) (by decide +kernel)
theorem gw_786 : Cond.fieldLink "LevelStoreModel" 114 "LevelStoreModel" "latest" "I" ∈ ga_G := List.mem_filter.mpr ⟨gl_786, rfl⟩
theorem gl_787 : Cond.fieldLink "LevelStoreModel" 134 "LevelStoreModel" "stuck" "Z" ∈ lw_tbl := List.mem_of_getElem? (i := 787) (by decide +kernel)
theorem gw_787 : Cond.fieldLink "LevelStoreModel" 134 "LevelStoreModel" "stuck" "Z" ∈ ga_G := List.mem_filter.mpr ⟨gl_787, rfl⟩
theorem gl_788 : Cond.fieldLink "LevelStoreModel" 211 "LevelStoreModel" "reads" "I" ∈ lw_tbl := List.mem_of_getElem? (i := 788) (by decide +kernel)
theorem gw_788 : Cond.fieldLink "LevelStoreModel" 211 "LevelStoreModel" "reads" "I" ∈ ga_G := List.mem_filter.mpr ⟨gl_788, rfl⟩
theorem gl_789 : Cond.fieldLink "LevelStoreModel" 224 "LevelStoreModel" "misses" "I" ∈ lw_tbl := List.mem_of_getElem? (i := 789) (by decide +kernel)
theorem gw_789 : Cond.fieldLink "LevelStoreModel" 224 "LevelStoreModel" "misses" "I" ∈ ga_G := List.mem_filter.mpr ⟨gl_789, rfl⟩
theorem gl_790 : Cond.fieldLink "LevelStoreModel" 227 "LevelStoreModel" "gets" "I" ∈ lw_tbl := List.mem_of_getElem? (i := 790) (by decide +kernel)
theorem gw_790 : Cond.fieldLink "LevelStoreModel" 227 "LevelStoreModel" "gets" "I" ∈ ga_G := List.mem_filter.mpr ⟨gl_790, rfl⟩
theorem gl_791 : Cond.fieldLink "LevelStoreModel" 105 "LevelStoreModel" "made" "I" ∈ lw_tbl := List.mem_of_getElem? (i := 791) (by decide +kernel)
theorem gw_791 : Cond.fieldLink "LevelStoreModel" 105 "LevelStoreModel" "made" "I" ∈ ga_G := List.mem_filter.mpr ⟨gl_791, rfl⟩
theorem gl_792 : Cond.fieldLink "LevelStoreModel" 131 "LevelStoreModel" "dropped" "I" ∈ lw_tbl := List.mem_of_getElem? (i := 792) (by decide +kernel)
theorem gw_792 : Cond.fieldLink "LevelStoreModel" 131 "LevelStoreModel" "dropped" "I" ∈ ga_G := List.mem_filter.mpr ⟨gl_792, rfl⟩
theorem gl_793 : Cond.fieldLink "LevelStoreModel" 70 "LevelStoreModel" "wKey" "[I" ∈ lw_tbl := List.mem_of_getElem? (i := 793) (by decide +kernel)
theorem gw_793 : Cond.fieldLink "LevelStoreModel" 70 "LevelStoreModel" "wKey" "[I" ∈ ga_G := List.mem_filter.mpr ⟨gl_793, rfl⟩
theorem gl_794 : Cond.fieldLink "LevelStoreModel" 73 "LevelStoreModel" "wNumber" "[I" ∈ lw_tbl := List.mem_of_getElem? (i := 794) (by decide +kernel)
theorem gw_794 : Cond.fieldLink "LevelStoreModel" 73 "LevelStoreModel" "wNumber" "[I" ∈ ga_G := List.mem_filter.mpr ⟨gl_794, rfl⟩
theorem gl_795 : Cond.fieldLink "LevelStoreModel" 76 "LevelStoreModel" "wValue" "[I" ∈ lw_tbl := List.mem_of_getElem? (i := 795) (by decide +kernel)
theorem gw_795 : Cond.fieldLink "LevelStoreModel" 76 "LevelStoreModel" "wValue" "[I" ∈ ga_G := List.mem_filter.mpr ⟨gl_795, rfl⟩
theorem gl_796 : Cond.fieldLink "LevelStoreModel" 79 "LevelStoreModel" "wGone" "[Z" ∈ lw_tbl := List.mem_of_getElem? (i := 796) (by decide +kernel)
theorem gw_796 : Cond.fieldLink "LevelStoreModel" 79 "LevelStoreModel" "wGone" "[Z" ∈ ga_G := List.mem_filter.mpr ⟨gl_796, rfl⟩
theorem gl_797 : Cond.fieldLink "LevelStoreModel" 108 "LevelStoreModel" "work" "I" ∈ lw_tbl := List.mem_of_getElem? (i := 797) (by decide +kernel)
theorem gw_797 : Cond.fieldLink "LevelStoreModel" 108 "LevelStoreModel" "work" "I" ∈ ga_G := List.mem_filter.mpr ⟨gl_797, rfl⟩
theorem gl_798 : Cond.fieldLink "LevelStoreModel" 82 "LevelStoreModel" "goes" "[Z" ∈ lw_tbl := List.mem_of_getElem? (i := 798) (by decide +kernel)
theorem gw_798 : Cond.fieldLink "LevelStoreModel" 82 "LevelStoreModel" "goes" "[Z" ∈ ga_G := List.mem_filter.mpr ⟨gl_798, rfl⟩
theorem gl_799 : Cond.fieldLink "LevelStoreModel" 208 "LevelStoreModel" "found" "I" ∈ lw_tbl := List.mem_of_getElem? (i := 799) (by decide +kernel)
theorem gw_799 : Cond.fieldLink "LevelStoreModel" 208 "LevelStoreModel" "found" "I" ∈ ga_G := List.mem_filter.mpr ⟨gl_799, rfl⟩
theorem gl_800 : Cond.lays "LevelStoreModel" "LevelStoreModel" "thrown" "I" ∈ lw_tbl := List.mem_of_getElem? (i := 800) (by decide +kernel)
theorem gw_800 : Cond.lays "LevelStoreModel" "LevelStoreModel" "thrown" "I" ∈ ga_G := List.mem_filter.mpr ⟨gl_800, rfl⟩
theorem gl_802 : Cond.laysFinal "LevelStoreModel" "LevelStoreModel" "key" "[I" ∈ lw_tbl := List.mem_of_getElem? (i := 802) (by decide +kernel)
theorem gw_802 : Cond.laysFinal "LevelStoreModel" "LevelStoreModel" "key" "[I" ∈ ga_G := List.mem_filter.mpr ⟨gl_802, rfl⟩
theorem gl_804 : Cond.laysFinal "LevelStoreModel" "LevelStoreModel" "number" "[I" ∈ lw_tbl := List.mem_of_getElem? (i := 804) (by decide +kernel)
theorem gw_804 : Cond.laysFinal "LevelStoreModel" "LevelStoreModel" "number" "[I" ∈ ga_G := List.mem_filter.mpr ⟨gl_804, rfl⟩
theorem gl_806 : Cond.laysFinal "LevelStoreModel" "LevelStoreModel" "value" "[I" ∈ lw_tbl := List.mem_of_getElem? (i := 806) (by decide +kernel)
theorem gw_806 : Cond.laysFinal "LevelStoreModel" "LevelStoreModel" "value" "[I" ∈ ga_G := List.mem_filter.mpr ⟨gl_806, rfl⟩
theorem gl_808 : Cond.laysFinal "LevelStoreModel" "LevelStoreModel" "gone" "[Z" ∈ lw_tbl := List.mem_of_getElem? (i := 808) (by decide +kernel)
theorem gw_808 : Cond.laysFinal "LevelStoreModel" "LevelStoreModel" "gone" "[Z" ∈ ga_G := List.mem_filter.mpr ⟨gl_808, rfl⟩
theorem gl_810 : Cond.lays "LevelStoreModel" "LevelStoreModel" "entries" "I" ∈ lw_tbl := List.mem_of_getElem? (i := 810) (by decide +kernel)
theorem gw_810 : Cond.lays "LevelStoreModel" "LevelStoreModel" "entries" "I" ∈ ga_G := List.mem_filter.mpr ⟨gl_810, rfl⟩
theorem gl_812 : Cond.laysFinal "LevelStoreModel" "LevelStoreModel" "tNumber" "[I" ∈ lw_tbl := List.mem_of_getElem? (i := 812) (by decide +kernel)
theorem gw_812 : Cond.laysFinal "LevelStoreModel" "LevelStoreModel" "tNumber" "[I" ∈ ga_G := List.mem_filter.mpr ⟨gl_812, rfl⟩
theorem gl_814 : Cond.laysFinal "LevelStoreModel" "LevelStoreModel" "tLevel" "[I" ∈ lw_tbl := List.mem_of_getElem? (i := 814) (by decide +kernel)
theorem gw_814 : Cond.laysFinal "LevelStoreModel" "LevelStoreModel" "tLevel" "[I" ∈ ga_G := List.mem_filter.mpr ⟨gl_814, rfl⟩
theorem gl_816 : Cond.laysFinal "LevelStoreModel" "LevelStoreModel" "tSize" "[I" ∈ lw_tbl := List.mem_of_getElem? (i := 816) (by decide +kernel)
theorem gw_816 : Cond.laysFinal "LevelStoreModel" "LevelStoreModel" "tSize" "[I" ∈ ga_G := List.mem_filter.mpr ⟨gl_816, rfl⟩
theorem gl_818 : Cond.laysFinal "LevelStoreModel" "LevelStoreModel" "tSpoiled" "[J" ∈ lw_tbl := List.mem_of_getElem? (i := 818) (by decide +kernel)
theorem gw_818 : Cond.laysFinal "LevelStoreModel" "LevelStoreModel" "tSpoiled" "[J" ∈ ga_G := List.mem_filter.mpr ⟨gl_818, rfl⟩
theorem gl_820 : Cond.lays "LevelStoreModel" "LevelStoreModel" "tables" "I" ∈ lw_tbl := List.mem_of_getElem? (i := 820) (by decide +kernel)
theorem gw_820 : Cond.lays "LevelStoreModel" "LevelStoreModel" "tables" "I" ∈ ga_G := List.mem_filter.mpr ⟨gl_820, rfl⟩
theorem gl_822 : Cond.laysFinal "LevelStoreModel" "LevelStoreModel" "mKey" "[I" ∈ lw_tbl := List.mem_of_getElem? (i := 822) (by decide +kernel)
theorem gw_822 : Cond.laysFinal "LevelStoreModel" "LevelStoreModel" "mKey" "[I" ∈ ga_G := List.mem_filter.mpr ⟨gl_822, rfl⟩
theorem gl_824 : Cond.laysFinal "LevelStoreModel" "LevelStoreModel" "mNumber" "[I" ∈ lw_tbl := List.mem_of_getElem? (i := 824) (by decide +kernel)
theorem gw_824 : Cond.laysFinal "LevelStoreModel" "LevelStoreModel" "mNumber" "[I" ∈ ga_G := List.mem_filter.mpr ⟨gl_824, rfl⟩
theorem gl_826 : Cond.laysFinal "LevelStoreModel" "LevelStoreModel" "mValue" "[I" ∈ lw_tbl := List.mem_of_getElem? (i := 826) (by decide +kernel)
theorem gw_826 : Cond.laysFinal "LevelStoreModel" "LevelStoreModel" "mValue" "[I" ∈ ga_G := List.mem_filter.mpr ⟨gl_826, rfl⟩
theorem gl_828 : Cond.laysFinal "LevelStoreModel" "LevelStoreModel" "mGone" "[Z" ∈ lw_tbl := List.mem_of_getElem? (i := 828) (by decide +kernel)
theorem gw_828 : Cond.laysFinal "LevelStoreModel" "LevelStoreModel" "mGone" "[Z" ∈ ga_G := List.mem_filter.mpr ⟨gl_828, rfl⟩
theorem gl_830 : Cond.lays "LevelStoreModel" "LevelStoreModel" "memory" "I" ∈ lw_tbl := List.mem_of_getElem? (i := 830) (by decide +kernel)
theorem gw_830 : Cond.lays "LevelStoreModel" "LevelStoreModel" "memory" "I" ∈ ga_G := List.mem_filter.mpr ⟨gl_830, rfl⟩
theorem gl_832 : Cond.laysFinal "LevelStoreModel" "LevelStoreModel" "recordSize" "[I" ∈ lw_tbl := List.mem_of_getElem? (i := 832) (by decide +kernel)
theorem gw_832 : Cond.laysFinal "LevelStoreModel" "LevelStoreModel" "recordSize" "[I" ∈ ga_G := List.mem_filter.mpr ⟨gl_832, rfl⟩
theorem gl_834 : Cond.lays "LevelStoreModel" "LevelStoreModel" "records" "I" ∈ lw_tbl := List.mem_of_getElem? (i := 834) (by decide +kernel)
theorem gw_834 : Cond.lays "LevelStoreModel" "LevelStoreModel" "records" "I" ∈ ga_G := List.mem_filter.mpr ⟨gl_834, rfl⟩
theorem gl_836 : Cond.lays "LevelStoreModel" "LevelStoreModel" "synced" "I" ∈ lw_tbl := List.mem_of_getElem? (i := 836) (by decide +kernel)
theorem gw_836 : Cond.lays "LevelStoreModel" "LevelStoreModel" "synced" "I" ∈ ga_G := List.mem_filter.mpr ⟨gl_836, rfl⟩
theorem gl_838 : Cond.laysFinal "LevelStoreModel" "LevelStoreModel" "bKey" "[I" ∈ lw_tbl := List.mem_of_getElem? (i := 838) (by decide +kernel)
theorem gw_838 : Cond.laysFinal "LevelStoreModel" "LevelStoreModel" "bKey" "[I" ∈ ga_G := List.mem_filter.mpr ⟨gl_838, rfl⟩
theorem gl_840 : Cond.laysFinal "LevelStoreModel" "LevelStoreModel" "bValue" "[I" ∈ lw_tbl := List.mem_of_getElem? (i := 840) (by decide +kernel)
theorem gw_840 : Cond.laysFinal "LevelStoreModel" "LevelStoreModel" "bValue" "[I" ∈ ga_G := List.mem_filter.mpr ⟨gl_840, rfl⟩
theorem gl_842 : Cond.laysFinal "LevelStoreModel" "LevelStoreModel" "bGone" "[Z" ∈ lw_tbl := List.mem_of_getElem? (i := 842) (by decide +kernel)
theorem gw_842 : Cond.laysFinal "LevelStoreModel" "LevelStoreModel" "bGone" "[Z" ∈ ga_G := List.mem_filter.mpr ⟨gl_842, rfl⟩
theorem gl_844 : Cond.lays "LevelStoreModel" "LevelStoreModel" "batch" "I" ∈ lw_tbl := List.mem_of_getElem? (i := 844) (by decide +kernel)
theorem gw_844 : Cond.lays "LevelStoreModel" "LevelStoreModel" "batch" "I" ∈ ga_G := List.mem_filter.mpr ⟨gl_844, rfl⟩
theorem gl_846 : Cond.laysFinal "LevelStoreModel" "LevelStoreModel" "snapshots" "[I" ∈ lw_tbl := List.mem_of_getElem? (i := 846) (by decide +kernel)
theorem gw_846 : Cond.laysFinal "LevelStoreModel" "LevelStoreModel" "snapshots" "[I" ∈ ga_G := List.mem_filter.mpr ⟨gl_846, rfl⟩
theorem gl_848 : Cond.laysFinal "LevelStoreModel" "LevelStoreModel" "pointer" "[I" ∈ lw_tbl := List.mem_of_getElem? (i := 848) (by decide +kernel)
theorem gw_848 : Cond.laysFinal "LevelStoreModel" "LevelStoreModel" "pointer" "[I" ∈ ga_G := List.mem_filter.mpr ⟨gl_848, rfl⟩
theorem gl_850 : Cond.lays "LevelStoreModel" "LevelStoreModel" "latest" "I" ∈ lw_tbl := List.mem_of_getElem? (i := 850) (by decide +kernel)
theorem gw_850 : Cond.lays "LevelStoreModel" "LevelStoreModel" "latest" "I" ∈ ga_G := List.mem_filter.mpr ⟨gl_850, rfl⟩
theorem gl_852 : Cond.lays "LevelStoreModel" "LevelStoreModel" "stuck" "Z" ∈ lw_tbl := List.mem_of_getElem? (i := 852) (by decide +kernel)
theorem gw_852 : Cond.lays "LevelStoreModel" "LevelStoreModel" "stuck" "Z" ∈ ga_G := List.mem_filter.mpr ⟨gl_852, rfl⟩
theorem gl_854 : Cond.lays "LevelStoreModel" "LevelStoreModel" "reads" "I" ∈ lw_tbl := List.mem_of_getElem? (i := 854) (by decide +kernel)
theorem gw_854 : Cond.lays "LevelStoreModel" "LevelStoreModel" "reads" "I" ∈ ga_G := List.mem_filter.mpr ⟨gl_854, rfl⟩
theorem gl_856 : Cond.lays "LevelStoreModel" "LevelStoreModel" "misses" "I" ∈ lw_tbl := List.mem_of_getElem? (i := 856) (by decide +kernel)
theorem gw_856 : Cond.lays "LevelStoreModel" "LevelStoreModel" "misses" "I" ∈ ga_G := List.mem_filter.mpr ⟨gl_856, rfl⟩
theorem gl_858 : Cond.lays "LevelStoreModel" "LevelStoreModel" "gets" "I" ∈ lw_tbl := List.mem_of_getElem? (i := 858) (by decide +kernel)
theorem gw_858 : Cond.lays "LevelStoreModel" "LevelStoreModel" "gets" "I" ∈ ga_G := List.mem_filter.mpr ⟨gl_858, rfl⟩
theorem gl_860 : Cond.lays "LevelStoreModel" "LevelStoreModel" "made" "I" ∈ lw_tbl := List.mem_of_getElem? (i := 860) (by decide +kernel)
theorem gw_860 : Cond.lays "LevelStoreModel" "LevelStoreModel" "made" "I" ∈ ga_G := List.mem_filter.mpr ⟨gl_860, rfl⟩
theorem gl_862 : Cond.lays "LevelStoreModel" "LevelStoreModel" "dropped" "I" ∈ lw_tbl := List.mem_of_getElem? (i := 862) (by decide +kernel)
theorem gw_862 : Cond.lays "LevelStoreModel" "LevelStoreModel" "dropped" "I" ∈ ga_G := List.mem_filter.mpr ⟨gl_862, rfl⟩
theorem gl_864 : Cond.laysFinal "LevelStoreModel" "LevelStoreModel" "wKey" "[I" ∈ lw_tbl := List.mem_of_getElem? (i := 864) (by decide +kernel)
theorem gw_864 : Cond.laysFinal "LevelStoreModel" "LevelStoreModel" "wKey" "[I" ∈ ga_G := List.mem_filter.mpr ⟨gl_864, rfl⟩
theorem gl_866 : Cond.laysFinal "LevelStoreModel" "LevelStoreModel" "wNumber" "[I" ∈ lw_tbl := List.mem_of_getElem? (i := 866) (by decide +kernel)
theorem gw_866 : Cond.laysFinal "LevelStoreModel" "LevelStoreModel" "wNumber" "[I" ∈ ga_G := List.mem_filter.mpr ⟨gl_866, rfl⟩
theorem gl_868 : Cond.laysFinal "LevelStoreModel" "LevelStoreModel" "wValue" "[I" ∈ lw_tbl := List.mem_of_getElem? (i := 868) (by decide +kernel)
theorem gw_868 : Cond.laysFinal "LevelStoreModel" "LevelStoreModel" "wValue" "[I" ∈ ga_G := List.mem_filter.mpr ⟨gl_868, rfl⟩
theorem gl_870 : Cond.laysFinal "LevelStoreModel" "LevelStoreModel" "wGone" "[Z" ∈ lw_tbl := List.mem_of_getElem? (i := 870) (by decide +kernel)
theorem gw_870 : Cond.laysFinal "LevelStoreModel" "LevelStoreModel" "wGone" "[Z" ∈ ga_G := List.mem_filter.mpr ⟨gl_870, rfl⟩
theorem gl_872 : Cond.lays "LevelStoreModel" "LevelStoreModel" "work" "I" ∈ lw_tbl := List.mem_of_getElem? (i := 872) (by decide +kernel)
theorem gw_872 : Cond.lays "LevelStoreModel" "LevelStoreModel" "work" "I" ∈ ga_G := List.mem_filter.mpr ⟨gl_872, rfl⟩
theorem gl_874 : Cond.laysFinal "LevelStoreModel" "LevelStoreModel" "goes" "[Z" ∈ lw_tbl := List.mem_of_getElem? (i := 874) (by decide +kernel)
theorem gw_874 : Cond.laysFinal "LevelStoreModel" "LevelStoreModel" "goes" "[Z" ∈ ga_G := List.mem_filter.mpr ⟨gl_874, rfl⟩
theorem gl_876 : Cond.lays "LevelStoreModel" "LevelStoreModel" "found" "I" ∈ lw_tbl := List.mem_of_getElem? (i := 876) (by decide +kernel)
theorem gw_876 : Cond.lays "LevelStoreModel" "LevelStoreModel" "found" "I" ∈ ga_G := List.mem_filter.mpr ⟨gl_876, rfl⟩
theorem gl_879 : Cond.arrayClass .long ∈ lw_tbl := List.mem_of_getElem? (i := 879) (by decide +kernel)
theorem gw_879 : Cond.arrayClass .long ∈ ga_G := List.mem_filter.mpr ⟨gl_879, rfl⟩
theorem gl_888 : Cond.methodLink "LevelStoreModel" 198 (⟨"LevelStoreModel", "write", "(IIZ)I"⟩ : MethodName) ∈ lw_tbl := List.mem_of_getElem? (i := 888) (by decide +kernel)
theorem gw_888 : Cond.methodLink "LevelStoreModel" 198 (⟨"LevelStoreModel", "write", "(IIZ)I"⟩ : MethodName) ∈ ga_G := List.mem_filter.mpr ⟨gl_888, rfl⟩
theorem gl_890 : Cond.instanceMethod (⟨"LevelStoreModel", "write", "(IIZ)I"⟩ : MethodName) ∈ lw_tbl := List.mem_of_getElem? (i := 890) (by decide +kernel)
theorem gw_890 : Cond.instanceMethod (⟨"LevelStoreModel", "write", "(IIZ)I"⟩ : MethodName) ∈ ga_G := List.mem_filter.mpr ⟨gl_890, rfl⟩
theorem gl_891 : Cond.code y_R_write c_R_write 5 (some .int) ∈ lw_tbl := List.mem_of_getElem? (i := 891) (by decide +kernel)
theorem gw_891 : Cond.code y_R_write c_R_write 5 (some .int) ∈ ga_G := List.mem_filter.mpr ⟨gl_891, rfl⟩
theorem gl_892 : Cond.methodLink "LevelStoreModel" 181 (⟨"LevelStoreModel", "in", "(III)Z"⟩ : MethodName) ∈ lw_tbl := List.mem_of_getElem? (i := 892) (by decide +kernel)
theorem gw_892 : Cond.methodLink "LevelStoreModel" 181 (⟨"LevelStoreModel", "in", "(III)Z"⟩ : MethodName) ∈ ga_G := List.mem_filter.mpr ⟨gl_892, rfl⟩
theorem gl_893 : Cond.static (⟨"LevelStoreModel", "in", "(III)Z"⟩ : MethodName) ∈ lw_tbl := List.mem_of_getElem? (i := 893) (by decide +kernel)
theorem gw_893 : Cond.static (⟨"LevelStoreModel", "in", "(III)Z"⟩ : MethodName) ∈ ga_G := List.mem_filter.mpr ⟨gl_893, rfl⟩
theorem gl_894 : Cond.code y_R_in c_R_in 3 (some .boolean) ∈ lw_tbl := List.mem_of_getElem? (i := 894) (by decide +kernel)
theorem gw_894 : Cond.code y_R_in c_R_in 3 (some .boolean) ∈ ga_G := List.mem_filter.mpr ⟨gl_894, rfl⟩
theorem gl_895 : Cond.methodLink "LevelStoreModel" 185 (⟨"LevelStoreModel", "raise", "(I)I"⟩ : MethodName) ∈ lw_tbl := List.mem_of_getElem? (i := 895) (by decide +kernel)
theorem gw_895 : Cond.methodLink "LevelStoreModel" 185 (⟨"LevelStoreModel", "raise", "(I)I"⟩ : MethodName) ∈ ga_G := List.mem_filter.mpr ⟨gl_895, rfl⟩
theorem gl_897 : Cond.instanceMethod (⟨"LevelStoreModel", "raise", "(I)I"⟩ : MethodName) ∈ lw_tbl := List.mem_of_getElem? (i := 897) (by decide +kernel)
theorem gw_897 : Cond.instanceMethod (⟨"LevelStoreModel", "raise", "(I)I"⟩ : MethodName) ∈ ga_G := List.mem_filter.mpr ⟨gl_897, rfl⟩
theorem gl_898 : Cond.code y_R_raise c_R_raise 2 (some .int) ∈ lw_tbl := List.mem_of_getElem? (i := 898) (by decide +kernel)
theorem gw_898 : Cond.code y_R_raise c_R_raise 2 (some .int) ∈ ga_G := List.mem_filter.mpr ⟨gl_898, rfl⟩
theorem gl_899 : Cond.methodLink "LevelStoreModel" 188 (⟨"LevelStoreModel", "full", "(I)Z"⟩ : MethodName) ∈ lw_tbl := List.mem_of_getElem? (i := 899) (by decide +kernel)
theorem gw_899 : Cond.methodLink "LevelStoreModel" 188 (⟨"LevelStoreModel", "full", "(I)Z"⟩ : MethodName) ∈ ga_G := List.mem_filter.mpr ⟨gl_899, rfl⟩
theorem gl_901 : Cond.instanceMethod (⟨"LevelStoreModel", "full", "(I)Z"⟩ : MethodName) ∈ lw_tbl := List.mem_of_getElem? (i := 901) (by decide +kernel)
theorem gw_901 : Cond.instanceMethod (⟨"LevelStoreModel", "full", "(I)Z"⟩ : MethodName) ∈ ga_G := List.mem_filter.mpr ⟨gl_901, rfl⟩
theorem gl_902 : Cond.code y_R_full c_R_full 2 (some .boolean) ∈ lw_tbl := List.mem_of_getElem? (i := 902) (by decide +kernel)
end
section
theorem gw_902 : Cond.code y_R_full c_R_full 2 (some .boolean) ∈ ga_G := List.mem_filter.mpr ⟨gl_902, rfl⟩
theorem gl_903 : Cond.methodLink "LevelStoreModel" 156 (⟨"LevelStoreModel", "onLevel", "(I)I"⟩ : MethodName) ∈ lw_tbl := List.mem_of_getElem? (i := 903) (by decide +kernel)
theorem gw_903 : Cond.methodLink "LevelStoreModel" 156 (⟨"LevelStoreModel", "onLevel", "(I)I"⟩ : MethodName) ∈ ga_G := List.mem_filter.mpr ⟨gl_903, rfl⟩
theorem gl_905 : Cond.instanceMethod (⟨"LevelStoreModel", "onLevel", "(I)I"⟩ : MethodName) ∈ lw_tbl := List.mem_of_getElem? (i := 905) (by decide +kernel)
theorem gw_905 : Cond.instanceMethod (⟨"LevelStoreModel", "onLevel", "(I)I"⟩ : MethodName) ∈ ga_G := List.mem_filter.mpr ⟨gl_905, rfl⟩
theorem gl_906 : Cond.code y_R_onLevel c_R_onLevel 4 (some .int) ∈ lw_tbl := List.mem_of_getElem? (i := 906) (by decide +kernel)
theorem gw_906 : Cond.code y_R_onLevel c_R_onLevel 4 (some .int) ∈ ga_G := List.mem_filter.mpr ⟨gl_906, rfl⟩
theorem gl_907 : Cond.methodLink "LevelStoreModel" 191 (⟨"LevelStoreModel", "remember", "(IIZ)V"⟩ : MethodName) ∈ lw_tbl := List.mem_of_getElem? (i := 907) (by decide +kernel)
theorem gw_907 : Cond.methodLink "LevelStoreModel" 191 (⟨"LevelStoreModel", "remember", "(IIZ)V"⟩ : MethodName) ∈ ga_G := List.mem_filter.mpr ⟨gl_907, rfl⟩
theorem gl_909 : Cond.instanceMethod (⟨"LevelStoreModel", "remember", "(IIZ)V"⟩ : MethodName) ∈ lw_tbl := List.mem_of_getElem? (i := 909) (by decide +kernel)
theorem gw_909 : Cond.instanceMethod (⟨"LevelStoreModel", "remember", "(IIZ)V"⟩ : MethodName) ∈ ga_G := List.mem_filter.mpr ⟨gl_909, rfl⟩
theorem gl_910 : Cond.code y_R_remember c_R_remember 4 none ∈ lw_tbl := List.mem_of_getElem? (i := 910) (by decide +kernel)
theorem gw_910 : Cond.code y_R_remember c_R_remember 4 none ∈ ga_G := List.mem_filter.mpr ⟨gl_910, rfl⟩
theorem gl_911 : Cond.methodLink "LevelStoreModel" 195 (⟨"LevelStoreModel", "logged", "(I)V"⟩ : MethodName) ∈ lw_tbl := List.mem_of_getElem? (i := 911) (by decide +kernel)
theorem gw_911 : Cond.methodLink "LevelStoreModel" 195 (⟨"LevelStoreModel", "logged", "(I)V"⟩ : MethodName) ∈ ga_G := List.mem_filter.mpr ⟨gl_911, rfl⟩
theorem gl_913 : Cond.instanceMethod (⟨"LevelStoreModel", "logged", "(I)V"⟩ : MethodName) ∈ lw_tbl := List.mem_of_getElem? (i := 913) (by decide +kernel)
theorem gw_913 : Cond.instanceMethod (⟨"LevelStoreModel", "logged", "(I)V"⟩ : MethodName) ∈ ga_G := List.mem_filter.mpr ⟨gl_913, rfl⟩
theorem gl_914 : Cond.code y_R_logged c_R_logged 2 none ∈ lw_tbl := List.mem_of_getElem? (i := 914) (by decide +kernel)
theorem gw_914 : Cond.code y_R_logged c_R_logged 2 none ∈ ga_G := List.mem_filter.mpr ⟨gl_914, rfl⟩
theorem gl_915 : Cond.methodLink "LevelStoreModel" 178 (⟨"LevelStoreModel", "flushAll", "()V"⟩ : MethodName) ∈ lw_tbl := List.mem_of_getElem? (i := 915) (by decide +kernel)
theorem gw_915 : Cond.methodLink "LevelStoreModel" 178 (⟨"LevelStoreModel", "flushAll", "()V"⟩ : MethodName) ∈ ga_G := List.mem_filter.mpr ⟨gl_915, rfl⟩
theorem gl_917 : Cond.instanceMethod (⟨"LevelStoreModel", "flushAll", "()V"⟩ : MethodName) ∈ lw_tbl := List.mem_of_getElem? (i := 917) (by decide +kernel)
theorem gw_917 : Cond.instanceMethod (⟨"LevelStoreModel", "flushAll", "()V"⟩ : MethodName) ∈ ga_G := List.mem_filter.mpr ⟨gl_917, rfl⟩
theorem gl_918 : Cond.code y_R_flushAll c_R_flushAll 2 none ∈ lw_tbl := List.mem_of_getElem? (i := 918) (by decide +kernel)
theorem gw_918 : Cond.code y_R_flushAll c_R_flushAll 2 none ∈ ga_G := List.mem_filter.mpr ⟨gl_918, rfl⟩
theorem gl_919 : Cond.methodLink "LevelStoreModel" 138 (⟨"LevelStoreModel", "enter", "(IIIZ)V"⟩ : MethodName) ∈ lw_tbl := List.mem_of_getElem? (i := 919) (by decide +kernel)
theorem gw_919 : Cond.methodLink "LevelStoreModel" 138 (⟨"LevelStoreModel", "enter", "(IIIZ)V"⟩ : MethodName) ∈ ga_G := List.mem_filter.mpr ⟨gl_919, rfl⟩
theorem gl_921 : Cond.instanceMethod (⟨"LevelStoreModel", "enter", "(IIIZ)V"⟩ : MethodName) ∈ lw_tbl := List.mem_of_getElem? (i := 921) (by decide +kernel)
theorem gw_921 : Cond.instanceMethod (⟨"LevelStoreModel", "enter", "(IIIZ)V"⟩ : MethodName) ∈ ga_G := List.mem_filter.mpr ⟨gl_921, rfl⟩
theorem gl_922 : Cond.code y_R_enter c_R_enter 6 none ∈ lw_tbl := List.mem_of_getElem? (i := 922) (by decide +kernel)
theorem gw_922 : Cond.code y_R_enter c_R_enter 6 none ∈ ga_G := List.mem_filter.mpr ⟨gl_922, rfl⟩
theorem gl_923 : Cond.methodLink "LevelStoreModel" 111 (⟨"LevelStoreModel", "copyWork", "(II)V"⟩ : MethodName) ∈ lw_tbl := List.mem_of_getElem? (i := 923) (by decide +kernel)
theorem gw_923 : Cond.methodLink "LevelStoreModel" 111 (⟨"LevelStoreModel", "copyWork", "(II)V"⟩ : MethodName) ∈ ga_G := List.mem_filter.mpr ⟨gl_923, rfl⟩
theorem gl_925 : Cond.instanceMethod (⟨"LevelStoreModel", "copyWork", "(II)V"⟩ : MethodName) ∈ lw_tbl := List.mem_of_getElem? (i := 925) (by decide +kernel)
theorem gw_925 : Cond.instanceMethod (⟨"LevelStoreModel", "copyWork", "(II)V"⟩ : MethodName) ∈ ga_G := List.mem_filter.mpr ⟨gl_925, rfl⟩
theorem gl_926 : Cond.code y_R_copyWork c_R_copyWork 3 none ∈ lw_tbl := List.mem_of_getElem? (i := 926) (by decide +kernel)
theorem gw_926 : Cond.code y_R_copyWork c_R_copyWork 3 none ∈ ga_G := List.mem_filter.mpr ⟨gl_926, rfl⟩
theorem gl_927 : Cond.methodLink "LevelStoreModel" 152 (⟨"LevelStoreModel", "insert", "(IIII)V"⟩ : MethodName) ∈ lw_tbl := List.mem_of_getElem? (i := 927) (by decide +kernel)
theorem gw_927 : Cond.methodLink "LevelStoreModel" 152 (⟨"LevelStoreModel", "insert", "(IIII)V"⟩ : MethodName) ∈ ga_G := List.mem_filter.mpr ⟨gl_927, rfl⟩
theorem gl_929 : Cond.instanceMethod (⟨"LevelStoreModel", "insert", "(IIII)V"⟩ : MethodName) ∈ lw_tbl := List.mem_of_getElem? (i := 929) (by decide +kernel)
theorem gw_929 : Cond.instanceMethod (⟨"LevelStoreModel", "insert", "(IIII)V"⟩ : MethodName) ∈ ga_G := List.mem_filter.mpr ⟨gl_929, rfl⟩
theorem gl_930 : Cond.code y_R_insert c_R_insert 7 none ∈ lw_tbl := List.mem_of_getElem? (i := 930) (by decide +kernel)
theorem gw_930 : Cond.code y_R_insert c_R_insert 7 none ∈ ga_G := List.mem_filter.mpr ⟨gl_930, rfl⟩
theorem gl_931 : Cond.methodLink "LevelStoreModel" 88 (⟨"LevelStoreModel", "start", "(I)I"⟩ : MethodName) ∈ lw_tbl := List.mem_of_getElem? (i := 931) (by decide +kernel)
theorem gw_931 : Cond.methodLink "LevelStoreModel" 88 (⟨"LevelStoreModel", "start", "(I)I"⟩ : MethodName) ∈ ga_G := List.mem_filter.mpr ⟨gl_931, rfl⟩
theorem gl_933 : Cond.instanceMethod (⟨"LevelStoreModel", "start", "(I)I"⟩ : MethodName) ∈ lw_tbl := List.mem_of_getElem? (i := 933) (by decide +kernel)
theorem gw_933 : Cond.instanceMethod (⟨"LevelStoreModel", "start", "(I)I"⟩ : MethodName) ∈ ga_G := List.mem_filter.mpr ⟨gl_933, rfl⟩
theorem gl_934 : Cond.code y_R_start c_R_start 4 (some .int) ∈ lw_tbl := List.mem_of_getElem? (i := 934) (by decide +kernel)
theorem gw_934 : Cond.code y_R_start c_R_start 4 (some .int) ∈ ga_G := List.mem_filter.mpr ⟨gl_934, rfl⟩
theorem gl_935 : Cond.methodLink "LevelStoreModel" 98 (⟨"LevelStoreModel", "moveEntry", "(II)V"⟩ : MethodName) ∈ lw_tbl := List.mem_of_getElem? (i := 935) (by decide +kernel)
theorem gw_935 : Cond.methodLink "LevelStoreModel" 98 (⟨"LevelStoreModel", "moveEntry", "(II)V"⟩ : MethodName) ∈ ga_G := List.mem_filter.mpr ⟨gl_935, rfl⟩
theorem gl_937 : Cond.instanceMethod (⟨"LevelStoreModel", "moveEntry", "(II)V"⟩ : MethodName) ∈ lw_tbl := List.mem_of_getElem? (i := 937) (by decide +kernel)
theorem gw_937 : Cond.instanceMethod (⟨"LevelStoreModel", "moveEntry", "(II)V"⟩ : MethodName) ∈ ga_G := List.mem_filter.mpr ⟨gl_937, rfl⟩
theorem gl_938 : Cond.code y_R_moveEntry c_R_moveEntry 3 none ∈ lw_tbl := List.mem_of_getElem? (i := 938) (by decide +kernel)
theorem gw_938 : Cond.code y_R_moveEntry c_R_moveEntry 3 none ∈ ga_G := List.mem_filter.mpr ⟨gl_938, rfl⟩
theorem gl_939 : Cond.methodLink "LevelStoreModel" 102 (⟨"LevelStoreModel", "moveTable", "(II)V"⟩ : MethodName) ∈ lw_tbl := List.mem_of_getElem? (i := 939) (by decide +kernel)
theorem gw_939 : Cond.methodLink "LevelStoreModel" 102 (⟨"LevelStoreModel", "moveTable", "(II)V"⟩ : MethodName) ∈ ga_G := List.mem_filter.mpr ⟨gl_939, rfl⟩
theorem gl_941 : Cond.instanceMethod (⟨"LevelStoreModel", "moveTable", "(II)V"⟩ : MethodName) ∈ lw_tbl := List.mem_of_getElem? (i := 941) (by decide +kernel)
theorem gw_941 : Cond.instanceMethod (⟨"LevelStoreModel", "moveTable", "(II)V"⟩ : MethodName) ∈ ga_G := List.mem_filter.mpr ⟨gl_941, rfl⟩
theorem gl_942 : Cond.code y_R_moveTable c_R_moveTable 3 none ∈ lw_tbl := List.mem_of_getElem? (i := 942) (by decide +kernel)
theorem gw_942 : Cond.code y_R_moveTable c_R_moveTable 3 none ∈ ga_G := List.mem_filter.mpr ⟨gl_942, rfl⟩
theorem gl_943 : Cond.methodLink "LevelStoreModel" 175 (⟨"LevelStoreModel", "tidy", "()V"⟩ : MethodName) ∈ lw_tbl := List.mem_of_getElem? (i := 943) (by decide +kernel)
theorem gw_943 : Cond.methodLink "LevelStoreModel" 175 (⟨"LevelStoreModel", "tidy", "()V"⟩ : MethodName) ∈ ga_G := List.mem_filter.mpr ⟨gl_943, rfl⟩
theorem gl_945 : Cond.instanceMethod (⟨"LevelStoreModel", "tidy", "()V"⟩ : MethodName) ∈ lw_tbl := List.mem_of_getElem? (i := 945) (by decide +kernel)
theorem gw_945 : Cond.instanceMethod (⟨"LevelStoreModel", "tidy", "()V"⟩ : MethodName) ∈ ga_G := List.mem_filter.mpr ⟨gl_945, rfl⟩
theorem gl_946 : Cond.code y_R_tidy c_R_tidy 4 none ∈ lw_tbl := List.mem_of_getElem? (i := 946) (by decide +kernel)
theorem gw_946 : Cond.code y_R_tidy c_R_tidy 4 none ∈ ga_G := List.mem_filter.mpr ⟨gl_946, rfl⟩
theorem gl_947 : Cond.methodLink "LevelStoreModel" 159 (⟨"LevelStoreModel", "merge", "(I)Z"⟩ : MethodName) ∈ lw_tbl := List.mem_of_getElem? (i := 947) (by decide +kernel)
theorem gw_947 : Cond.methodLink "LevelStoreModel" 159 (⟨"LevelStoreModel", "merge", "(I)Z"⟩ : MethodName) ∈ ga_G := List.mem_filter.mpr ⟨gl_947, rfl⟩
theorem gl_949 : Cond.instanceMethod (⟨"LevelStoreModel", "merge", "(I)Z"⟩ : MethodName) ∈ lw_tbl := List.mem_of_getElem? (i := 949) (by decide +kernel)
theorem gw_949 : Cond.instanceMethod (⟨"LevelStoreModel", "merge", "(I)Z"⟩ : MethodName) ∈ ga_G := List.mem_filter.mpr ⟨gl_949, rfl⟩
theorem gl_950 : Cond.code y_R_merge c_R_merge 7 (some .boolean) ∈ lw_tbl := List.mem_of_getElem? (i := 950) (by decide +kernel)
theorem gw_950 : Cond.code y_R_merge c_R_merge 7 (some .boolean) ∈ ga_G := List.mem_filter.mpr ⟨gl_950, rfl⟩
theorem gl_951 : Cond.methodLink "LevelStoreModel" 117 (⟨"LevelStoreModel", "low", "(I)I"⟩ : MethodName) ∈ lw_tbl := List.mem_of_getElem? (i := 951) (by decide +kernel)
theorem gw_951 : Cond.methodLink "LevelStoreModel" 117 (⟨"LevelStoreModel", "low", "(I)I"⟩ : MethodName) ∈ ga_G := List.mem_filter.mpr ⟨gl_951, rfl⟩
theorem gl_953 : Cond.instanceMethod (⟨"LevelStoreModel", "low", "(I)I"⟩ : MethodName) ∈ lw_tbl := List.mem_of_getElem? (i := 953) (by decide +kernel)
theorem gw_953 : Cond.instanceMethod (⟨"LevelStoreModel", "low", "(I)I"⟩ : MethodName) ∈ ga_G := List.mem_filter.mpr ⟨gl_953, rfl⟩
theorem gl_954 : Cond.code y_R_low c_R_low 2 (some .int) ∈ lw_tbl := List.mem_of_getElem? (i := 954) (by decide +kernel)
theorem gw_954 : Cond.code y_R_low c_R_low 2 (some .int) ∈ ga_G := List.mem_filter.mpr ⟨gl_954, rfl⟩
theorem gl_955 : Cond.methodLink "LevelStoreModel" 120 (⟨"LevelStoreModel", "high", "(I)I"⟩ : MethodName) ∈ lw_tbl := List.mem_of_getElem? (i := 955) (by decide +kernel)
theorem gw_955 : Cond.methodLink "LevelStoreModel" 120 (⟨"LevelStoreModel", "high", "(I)I"⟩ : MethodName) ∈ ga_G := List.mem_filter.mpr ⟨gl_955, rfl⟩
theorem gl_957 : Cond.instanceMethod (⟨"LevelStoreModel", "high", "(I)I"⟩ : MethodName) ∈ lw_tbl := List.mem_of_getElem? (i := 957) (by decide +kernel)
theorem gw_957 : Cond.instanceMethod (⟨"LevelStoreModel", "high", "(I)I"⟩ : MethodName) ∈ ga_G := List.mem_filter.mpr ⟨gl_957, rfl⟩
theorem gl_958 : Cond.code y_R_high c_R_high 2 (some .int) ∈ lw_tbl := List.mem_of_getElem? (i := 958) (by decide +kernel)
theorem gw_958 : Cond.code y_R_high c_R_high 2 (some .int) ∈ ga_G := List.mem_filter.mpr ⟨gl_958, rfl⟩
theorem gl_959 : Cond.methodLink "LevelStoreModel" 142 (⟨"LevelStoreModel", "dropAll", "(I)V"⟩ : MethodName) ∈ lw_tbl := List.mem_of_getElem? (i := 959) (by decide +kernel)
theorem gw_959 : Cond.methodLink "LevelStoreModel" 142 (⟨"LevelStoreModel", "dropAll", "(I)V"⟩ : MethodName) ∈ ga_G := List.mem_filter.mpr ⟨gl_959, rfl⟩
theorem gl_961 : Cond.instanceMethod (⟨"LevelStoreModel", "dropAll", "(I)V"⟩ : MethodName) ∈ lw_tbl := List.mem_of_getElem? (i := 961) (by decide +kernel)
theorem gw_961 : Cond.instanceMethod (⟨"LevelStoreModel", "dropAll", "(I)V"⟩ : MethodName) ∈ ga_G := List.mem_filter.mpr ⟨gl_961, rfl⟩
theorem gl_962 : Cond.code y_R_dropAll c_R_dropAll 8 none ∈ lw_tbl := List.mem_of_getElem? (i := 962) (by decide +kernel)
theorem gw_962 : Cond.code y_R_dropAll c_R_dropAll 8 none ∈ ga_G := List.mem_filter.mpr ⟨gl_962, rfl⟩
theorem gl_963 : Cond.methodLink "LevelStoreModel" 123 (⟨"LevelStoreModel", "oldest", "()I"⟩ : MethodName) ∈ lw_tbl := List.mem_of_getElem? (i := 963) (by decide +kernel)
theorem gw_963 : Cond.methodLink "LevelStoreModel" 123 (⟨"LevelStoreModel", "oldest", "()I"⟩ : MethodName) ∈ ga_G := List.mem_filter.mpr ⟨gl_963, rfl⟩
theorem gl_965 : Cond.instanceMethod (⟨"LevelStoreModel", "oldest", "()I"⟩ : MethodName) ∈ lw_tbl := List.mem_of_getElem? (i := 965) (by decide +kernel)
theorem gw_965 : Cond.instanceMethod (⟨"LevelStoreModel", "oldest", "()I"⟩ : MethodName) ∈ ga_G := List.mem_filter.mpr ⟨gl_965, rfl⟩
theorem gl_966 : Cond.code y_R_oldest c_R_oldest 3 (some .int) ∈ lw_tbl := List.mem_of_getElem? (i := 966) (by decide +kernel)
theorem gw_966 : Cond.code y_R_oldest c_R_oldest 3 (some .int) ∈ ga_G := List.mem_filter.mpr ⟨gl_966, rfl⟩
theorem gl_967 : Cond.methodLink "LevelStoreModel" 127 (⟨"LevelStoreModel", "deeper", "(II)Z"⟩ : MethodName) ∈ lw_tbl := List.mem_of_getElem? (i := 967) (by decide +kernel)
theorem gw_967 : Cond.methodLink "LevelStoreModel" 127 (⟨"LevelStoreModel", "deeper", "(II)Z"⟩ : MethodName) ∈ ga_G := List.mem_filter.mpr ⟨gl_967, rfl⟩
theorem gl_969 : Cond.instanceMethod (⟨"LevelStoreModel", "deeper", "(II)Z"⟩ : MethodName) ∈ lw_tbl := List.mem_of_getElem? (i := 969) (by decide +kernel)
theorem gw_969 : Cond.instanceMethod (⟨"LevelStoreModel", "deeper", "(II)Z"⟩ : MethodName) ∈ ga_G := List.mem_filter.mpr ⟨gl_969, rfl⟩
theorem gl_970 : Cond.code y_R_deeper c_R_deeper 4 (some .boolean) ∈ lw_tbl := List.mem_of_getElem? (i := 970) (by decide +kernel)
theorem gw_970 : Cond.code y_R_deeper c_R_deeper 4 (some .boolean) ∈ ga_G := List.mem_filter.mpr ⟨gl_970, rfl⟩
theorem gl_971 : Cond.methodLink "LevelStoreModel" 146 (⟨"LevelStoreModel", "takeOut", "(I)V"⟩ : MethodName) ∈ lw_tbl := List.mem_of_getElem? (i := 971) (by decide +kernel)
theorem gw_971 : Cond.methodLink "LevelStoreModel" 146 (⟨"LevelStoreModel", "takeOut", "(I)V"⟩ : MethodName) ∈ ga_G := List.mem_filter.mpr ⟨gl_971, rfl⟩
theorem gl_973 : Cond.instanceMethod (⟨"LevelStoreModel", "takeOut", "(I)V"⟩ : MethodName) ∈ lw_tbl := List.mem_of_getElem? (i := 973) (by decide +kernel)
theorem gw_973 : Cond.instanceMethod (⟨"LevelStoreModel", "takeOut", "(I)V"⟩ : MethodName) ∈ ga_G := List.mem_filter.mpr ⟨gl_973, rfl⟩
theorem gl_974 : Cond.code y_R_takeOut c_R_takeOut 5 none ∈ lw_tbl := List.mem_of_getElem? (i := 974) (by decide +kernel)
theorem gw_974 : Cond.code y_R_takeOut c_R_takeOut 5 none ∈ ga_G := List.mem_filter.mpr ⟨gl_974, rfl⟩
theorem gl_975 : Cond.methodLink "LevelStoreModel" 149 (⟨"LevelStoreModel", "place", "(I)V"⟩ : MethodName) ∈ lw_tbl := List.mem_of_getElem? (i := 975) (by decide +kernel)
theorem gw_975 : Cond.methodLink "LevelStoreModel" 149 (⟨"LevelStoreModel", "place", "(I)V"⟩ : MethodName) ∈ ga_G := List.mem_filter.mpr ⟨gl_975, rfl⟩
theorem gl_977 : Cond.instanceMethod (⟨"LevelStoreModel", "place", "(I)V"⟩ : MethodName) ∈ lw_tbl := List.mem_of_getElem? (i := 977) (by decide +kernel)
theorem gw_977 : Cond.instanceMethod (⟨"LevelStoreModel", "place", "(I)V"⟩ : MethodName) ∈ ga_G := List.mem_filter.mpr ⟨gl_977, rfl⟩
theorem gl_978 : Cond.code y_R_place c_R_place 6 none ∈ lw_tbl := List.mem_of_getElem? (i := 978) (by decide +kernel)
theorem gw_978 : Cond.code y_R_place c_R_place 6 none ∈ ga_G := List.mem_filter.mpr ⟨gl_978, rfl⟩
theorem gl_979 : Cond.methodLink "LevelStoreModel" 163 (⟨"LevelStoreModel", "pick", "(I)I"⟩ : MethodName) ∈ lw_tbl := List.mem_of_getElem? (i := 979) (by decide +kernel)
theorem gw_979 : Cond.methodLink "LevelStoreModel" 163 (⟨"LevelStoreModel", "pick", "(I)I"⟩ : MethodName) ∈ ga_G := List.mem_filter.mpr ⟨gl_979, rfl⟩
theorem gl_981 : Cond.instanceMethod (⟨"LevelStoreModel", "pick", "(I)I"⟩ : MethodName) ∈ lw_tbl := List.mem_of_getElem? (i := 981) (by decide +kernel)
theorem gw_981 : Cond.instanceMethod (⟨"LevelStoreModel", "pick", "(I)I"⟩ : MethodName) ∈ ga_G := List.mem_filter.mpr ⟨gl_981, rfl⟩
theorem gl_982 : Cond.code y_R_pick c_R_pick 5 (some .int) ∈ lw_tbl := List.mem_of_getElem? (i := 982) (by decide +kernel)
theorem gw_982 : Cond.code y_R_pick c_R_pick 5 (some .int) ∈ ga_G := List.mem_filter.mpr ⟨gl_982, rfl⟩
theorem gl_1011 : Cond.methodLink "LevelStoreModel" 230 (⟨"LevelStoreModel", "upTo", "(I)I"⟩ : MethodName) ∈ lw_tbl := List.mem_of_getElem? (i := 1011) (by decide +kernel)
theorem gw_1011 : Cond.methodLink "LevelStoreModel" 230 (⟨"LevelStoreModel", "upTo", "(I)I"⟩ : MethodName) ∈ ga_G := List.mem_filter.mpr ⟨gl_1011, rfl⟩
theorem gl_1013 : Cond.instanceMethod (⟨"LevelStoreModel", "upTo", "(I)I"⟩ : MethodName) ∈ lw_tbl := List.mem_of_getElem? (i := 1013) (by decide +kernel)
theorem gw_1013 : Cond.instanceMethod (⟨"LevelStoreModel", "upTo", "(I)I"⟩ : MethodName) ∈ ga_G := List.mem_filter.mpr ⟨gl_1013, rfl⟩
theorem gl_1014 : Cond.code y_R_upTo c_R_upTo 2 (some .int) ∈ lw_tbl := List.mem_of_getElem? (i := 1014) (by decide +kernel)
theorem gw_1014 : Cond.code y_R_upTo c_R_upTo 2 (some .int) ∈ ga_G := List.mem_filter.mpr ⟨gl_1014, rfl⟩
theorem gl_1015 : Cond.methodLink "LevelStoreModel" 233 (⟨"LevelStoreModel", "look", "(II)V"⟩ : MethodName) ∈ lw_tbl := List.mem_of_getElem? (i := 1015) (by decide +kernel)
theorem gw_1015 : Cond.methodLink "LevelStoreModel" 233 (⟨"LevelStoreModel", "look", "(II)V"⟩ : MethodName) ∈ ga_G := List.mem_filter.mpr ⟨gl_1015, rfl⟩
theorem gl_1017 : Cond.instanceMethod (⟨"LevelStoreModel", "look", "(II)V"⟩ : MethodName) ∈ lw_tbl := List.mem_of_getElem? (i := 1017) (by decide +kernel)
theorem gw_1017 : Cond.instanceMethod (⟨"LevelStoreModel", "look", "(II)V"⟩ : MethodName) ∈ ga_G := List.mem_filter.mpr ⟨gl_1017, rfl⟩
theorem gl_1018 : Cond.code y_R_look c_R_look 4 none ∈ lw_tbl := List.mem_of_getElem? (i := 1018) (by decide +kernel)
theorem gw_1018 : Cond.code y_R_look c_R_look 4 none ∈ ga_G := List.mem_filter.mpr ⟨gl_1018, rfl⟩
theorem gl_1019 : Cond.methodLink "LevelStoreModel" 214 (⟨"LevelStoreModel", "lookInMemory", "(II)V"⟩ : MethodName) ∈ lw_tbl := List.mem_of_getElem? (i := 1019) (by decide +kernel)
theorem gw_1019 : Cond.methodLink "LevelStoreModel" 214 (⟨"LevelStoreModel", "lookInMemory", "(II)V"⟩ : MethodName) ∈ ga_G := List.mem_filter.mpr ⟨gl_1019, rfl⟩
theorem gl_1021 : Cond.instanceMethod (⟨"LevelStoreModel", "lookInMemory", "(II)V"⟩ : MethodName) ∈ lw_tbl := List.mem_of_getElem? (i := 1021) (by decide +kernel)
theorem gw_1021 : Cond.instanceMethod (⟨"LevelStoreModel", "lookInMemory", "(II)V"⟩ : MethodName) ∈ ga_G := List.mem_filter.mpr ⟨gl_1021, rfl⟩
theorem gl_1022 : Cond.code y_R_lookInMemory c_R_lookInMemory 4 none ∈ lw_tbl := List.mem_of_getElem? (i := 1022) (by decide +kernel)
theorem gw_1022 : Cond.code y_R_lookInMemory c_R_lookInMemory 4 none ∈ ga_G := List.mem_filter.mpr ⟨gl_1022, rfl⟩
theorem gl_1023 : Cond.methodLink "LevelStoreModel" 217 (⟨"LevelStoreModel", "passes", "(II)Z"⟩ : MethodName) ∈ lw_tbl := List.mem_of_getElem? (i := 1023) (by decide +kernel)
theorem gw_1023 : Cond.methodLink "LevelStoreModel" 217 (⟨"LevelStoreModel", "passes", "(II)Z"⟩ : MethodName) ∈ ga_G := List.mem_filter.mpr ⟨gl_1023, rfl⟩
theorem gl_1025 : Cond.instanceMethod (⟨"LevelStoreModel", "passes", "(II)Z"⟩ : MethodName) ∈ lw_tbl := List.mem_of_getElem? (i := 1025) (by decide +kernel)
theorem gw_1025 : Cond.instanceMethod (⟨"LevelStoreModel", "passes", "(II)Z"⟩ : MethodName) ∈ ga_G := List.mem_filter.mpr ⟨gl_1025, rfl⟩
theorem gl_1026 : Cond.code y_R_passes c_R_passes 9 (some .boolean) ∈ lw_tbl := List.mem_of_getElem? (i := 1026) (by decide +kernel)
theorem gw_1026 : Cond.code y_R_passes c_R_passes 9 (some .boolean) ∈ ga_G := List.mem_filter.mpr ⟨gl_1026, rfl⟩
theorem gl_1027 : Cond.methodLink "LevelStoreModel" 202 (⟨"LevelStoreModel", "first", "(I)I"⟩ : MethodName) ∈ lw_tbl := List.mem_of_getElem? (i := 1027) (by decide +kernel)
theorem gw_1027 : Cond.methodLink "LevelStoreModel" 202 (⟨"LevelStoreModel", "first", "(I)I"⟩ : MethodName) ∈ ga_G := List.mem_filter.mpr ⟨gl_1027, rfl⟩
theorem gl_1028 : Cond.static (⟨"LevelStoreModel", "first", "(I)I"⟩ : MethodName) ∈ lw_tbl := List.mem_of_getElem? (i := 1028) (by decide +kernel)
theorem gw_1028 : Cond.static (⟨"LevelStoreModel", "first", "(I)I"⟩ : MethodName) ∈ ga_G := List.mem_filter.mpr ⟨gl_1028, rfl⟩
theorem gl_1029 : Cond.code y_R_first c_R_first 1 (some .int) ∈ lw_tbl := List.mem_of_getElem? (i := 1029) (by decide +kernel)
theorem gw_1029 : Cond.code y_R_first c_R_first 1 (some .int) ∈ ga_G := List.mem_filter.mpr ⟨gl_1029, rfl⟩
theorem gl_1030 : Cond.methodLink "LevelStoreModel" 205 (⟨"LevelStoreModel", "second", "(I)I"⟩ : MethodName) ∈ lw_tbl := List.mem_of_getElem? (i := 1030) (by decide +kernel)
theorem gw_1030 : Cond.methodLink "LevelStoreModel" 205 (⟨"LevelStoreModel", "second", "(I)I"⟩ : MethodName) ∈ ga_G := List.mem_filter.mpr ⟨gl_1030, rfl⟩
theorem gl_1031 : Cond.static (⟨"LevelStoreModel", "second", "(I)I"⟩ : MethodName) ∈ lw_tbl := List.mem_of_getElem? (i := 1031) (by decide +kernel)
theorem gw_1031 : Cond.static (⟨"LevelStoreModel", "second", "(I)I"⟩ : MethodName) ∈ ga_G := List.mem_filter.mpr ⟨gl_1031, rfl⟩
theorem gl_1032 : Cond.code y_R_second c_R_second 1 (some .int) ∈ lw_tbl := List.mem_of_getElem? (i := 1032) (by decide +kernel)
theorem gw_1032 : Cond.code y_R_second c_R_second 1 (some .int) ∈ ga_G := List.mem_filter.mpr ⟨gl_1032, rfl⟩
theorem gl_1033 : Cond.methodLink "LevelStoreModel" 220 (⟨"LevelStoreModel", "readBlocks", "(III)I"⟩ : MethodName) ∈ lw_tbl := List.mem_of_getElem? (i := 1033) (by decide +kernel)
theorem gw_1033 : Cond.methodLink "LevelStoreModel" 220 (⟨"LevelStoreModel", "readBlocks", "(III)I"⟩ : MethodName) ∈ ga_G := List.mem_filter.mpr ⟨gl_1033, rfl⟩
theorem gl_1035 : Cond.instanceMethod (⟨"LevelStoreModel", "readBlocks", "(III)I"⟩ : MethodName) ∈ lw_tbl := List.mem_of_getElem? (i := 1035) (by decide +kernel)
theorem gw_1035 : Cond.instanceMethod (⟨"LevelStoreModel", "readBlocks", "(III)I"⟩ : MethodName) ∈ ga_G := List.mem_filter.mpr ⟨gl_1035, rfl⟩
theorem gl_1036 : Cond.code y_R_readBlocks c_R_readBlocks 9 (some .int) ∈ lw_tbl := List.mem_of_getElem? (i := 1036) (by decide +kernel)
theorem gw_1036 : Cond.code y_R_readBlocks c_R_readBlocks 9 (some .int) ∈ ga_G := List.mem_filter.mpr ⟨gl_1036, rfl⟩
theorem gl_1037 : Cond.methodLink "LevelStoreModel" 236 (⟨"LevelStoreModel", "foundGone", "()Z"⟩ : MethodName) ∈ lw_tbl := List.mem_of_getElem? (i := 1037) (by decide +kernel)
theorem gw_1037 : Cond.methodLink "LevelStoreModel" 236 (⟨"LevelStoreModel", "foundGone", "()Z"⟩ : MethodName) ∈ ga_G := List.mem_filter.mpr ⟨gl_1037, rfl⟩
theorem gl_1039 : Cond.instanceMethod (⟨"LevelStoreModel", "foundGone", "()Z"⟩ : MethodName) ∈ lw_tbl := List.mem_of_getElem? (i := 1039) (by decide +kernel)
theorem gw_1039 : Cond.instanceMethod (⟨"LevelStoreModel", "foundGone", "()Z"⟩ : MethodName) ∈ ga_G := List.mem_filter.mpr ⟨gl_1039, rfl⟩
theorem gl_1040 : Cond.code y_R_foundGone c_R_foundGone 1 (some .boolean) ∈ lw_tbl := List.mem_of_getElem? (i := 1040) (by decide +kernel)
theorem gw_1040 : Cond.code y_R_foundGone c_R_foundGone 1 (some .boolean) ∈ ga_G := List.mem_filter.mpr ⟨gl_1040, rfl⟩
theorem gl_1045 : Cond.methodLink "LevelStoreModel" 240 (⟨"LevelStoreModel", "lookThrough", "(II)V"⟩ : MethodName) ∈ lw_tbl := List.mem_of_getElem? (i := 1045) (by decide +kernel)
theorem gw_1045 : Cond.methodLink "LevelStoreModel" 240 (⟨"LevelStoreModel", "lookThrough", "(II)V"⟩ : MethodName) ∈ ga_G := List.mem_filter.mpr ⟨gl_1045, rfl⟩
theorem gl_1047 : Cond.instanceMethod (⟨"LevelStoreModel", "lookThrough", "(II)V"⟩ : MethodName) ∈ lw_tbl := List.mem_of_getElem? (i := 1047) (by decide +kernel)
theorem gw_1047 : Cond.instanceMethod (⟨"LevelStoreModel", "lookThrough", "(II)V"⟩ : MethodName) ∈ ga_G := List.mem_filter.mpr ⟨gl_1047, rfl⟩
theorem gl_1048 : Cond.code y_R_lookThrough c_R_lookThrough 4 none ∈ lw_tbl := List.mem_of_getElem? (i := 1048) (by decide +kernel)
theorem gw_1048 : Cond.code y_R_lookThrough c_R_lookThrough 4 none ∈ ga_G := List.mem_filter.mpr ⟨gl_1048, rfl⟩
theorem gl_1061 : Cond.methodLink "LevelStoreModel" 243 (⟨"LevelStoreModel", "blockSize", "(II)I"⟩ : MethodName) ∈ lw_tbl := List.mem_of_getElem? (i := 1061) (by decide +kernel)
theorem gw_1061 : Cond.methodLink "LevelStoreModel" 243 (⟨"LevelStoreModel", "blockSize", "(II)I"⟩ : MethodName) ∈ ga_G := List.mem_filter.mpr ⟨gl_1061, rfl⟩
theorem gl_1063 : Cond.instanceMethod (⟨"LevelStoreModel", "blockSize", "(II)I"⟩ : MethodName) ∈ lw_tbl := List.mem_of_getElem? (i := 1063) (by decide +kernel)
theorem gw_1063 : Cond.instanceMethod (⟨"LevelStoreModel", "blockSize", "(II)I"⟩ : MethodName) ∈ ga_G := List.mem_filter.mpr ⟨gl_1063, rfl⟩
theorem gl_1064 : Cond.code y_R_blockSize c_R_blockSize 3 (some .int) ∈ lw_tbl := List.mem_of_getElem? (i := 1064) (by decide +kernel)
theorem gw_1064 : Cond.code y_R_blockSize c_R_blockSize 3 (some .int) ∈ ga_G := List.mem_filter.mpr ⟨gl_1064, rfl⟩
theorem gl_1069 : Cond.methodLink "LevelStoreModel" 247 (⟨"LevelStoreModel", "lose", "(I)I"⟩ : MethodName) ∈ lw_tbl := List.mem_of_getElem? (i := 1069) (by decide +kernel)
theorem gw_1069 : Cond.methodLink "LevelStoreModel" 247 (⟨"LevelStoreModel", "lose", "(I)I"⟩ : MethodName) ∈ ga_G := List.mem_filter.mpr ⟨gl_1069, rfl⟩
theorem gl_1071 : Cond.instanceMethod (⟨"LevelStoreModel", "lose", "(I)I"⟩ : MethodName) ∈ lw_tbl := List.mem_of_getElem? (i := 1071) (by decide +kernel)
theorem gw_1071 : Cond.instanceMethod (⟨"LevelStoreModel", "lose", "(I)I"⟩ : MethodName) ∈ ga_G := List.mem_filter.mpr ⟨gl_1071, rfl⟩
theorem gl_1072 : Cond.code y_R_lose c_R_lose 6 (some .int) ∈ lw_tbl := List.mem_of_getElem? (i := 1072) (by decide +kernel)
theorem gw_1072 : Cond.code y_R_lose c_R_lose 6 (some .int) ∈ ga_G := List.mem_filter.mpr ⟨gl_1072, rfl⟩
theorem gl_1081 : Cond.methodLink "LevelStoreModel" 250 (⟨"LevelStoreModel", "ones", "(J)I"⟩ : MethodName) ∈ lw_tbl := List.mem_of_getElem? (i := 1081) (by decide +kernel)
theorem gw_1081 : Cond.methodLink "LevelStoreModel" 250 (⟨"LevelStoreModel", "ones", "(J)I"⟩ : MethodName) ∈ ga_G := List.mem_filter.mpr ⟨gl_1081, rfl⟩
theorem gl_1082 : Cond.static (⟨"LevelStoreModel", "ones", "(J)I"⟩ : MethodName) ∈ lw_tbl := List.mem_of_getElem? (i := 1082) (by decide +kernel)
theorem gw_1082 : Cond.static (⟨"LevelStoreModel", "ones", "(J)I"⟩ : MethodName) ∈ ga_G := List.mem_filter.mpr ⟨gl_1082, rfl⟩
theorem gl_1083 : Cond.code y_R_ones c_R_ones 4 (some .int) ∈ lw_tbl := List.mem_of_getElem? (i := 1083) (by decide +kernel)
theorem gw_1083 : Cond.code y_R_ones c_R_ones 4 (some .int) ∈ ga_G := List.mem_filter.mpr ⟨gl_1083, rfl⟩
end
section
/-! FIELDS AND THROWS OUT OF THE WORDS -/
theorem iw_E : ∀ x ∈ u_ws "LevelStore$Entries" T_E 6, x ∈ ga_G := by
  intro x hx
  obtain ⟨k, hk, rfl⟩ := List.mem_map.mp hx
  have hk := List.mem_range.mp hk
  exact match k, hk with
  | 0, _ => gw_116
  | 1, _ => gw_118
  | 2, _ => gw_120
  | 3, _ => gw_122
  | 4, _ => gw_124
  | 5, _ => gw_126
  | k + 6, h => absurd h (by omega)
theorem il_E : ∀ x ∈ u_ws "LevelStore$Entries" T_E 6, x ∈ lw_tbl := fun x h => (List.mem_filter.mp (iw_E x h)).1
theorem iw_V : ∀ x ∈ u_ws "LevelStore$Levels" T_V 9, x ∈ ga_G := by
  intro x hx
  obtain ⟨k, hk, rfl⟩ := List.mem_map.mp hx
  have hk := List.mem_range.mp hk
  exact match k, hk with
  | 0, _ => gw_222
  | 1, _ => gw_224
  | 2, _ => gw_226
  | 3, _ => gw_228
  | 4, _ => gw_230
  | 5, _ => gw_232
  | 6, _ => gw_234
  | 7, _ => gw_236
  | 8, _ => gw_238
  | k + 9, h => absurd h (by omega)
theorem il_V : ∀ x ∈ u_ws "LevelStore$Levels" T_V 9, x ∈ lw_tbl := fun x h => (List.mem_filter.mp (iw_V x h)).1
theorem iw_M : ∀ x ∈ u_ws "LevelStore$Memory" T_M 4, x ∈ ga_G := by
  intro x hx
  obtain ⟨k, hk, rfl⟩ := List.mem_map.mp hx
  have hk := List.mem_range.mp hk
  exact match k, hk with
  | 0, _ => gw_138
  | 1, _ => gw_140
  | 2, _ => gw_142
  | 3, _ => gw_144
  | k + 4, h => absurd h (by omega)
theorem il_M : ∀ x ∈ u_ws "LevelStore$Memory" T_M 4, x ∈ lw_tbl := fun x h => (List.mem_filter.mp (iw_M x h)).1
theorem iw_S : ∀ x ∈ u_ws "LevelStore$Shelf" T_S 5, x ∈ ga_G := by
  intro x hx
  obtain ⟨k, hk, rfl⟩ := List.mem_map.mp hx
  have hk := List.mem_range.mp hk
  exact match k, hk with
  | 0, _ => gw_176
  | 1, _ => gw_178
  | 2, _ => gw_180
  | 3, _ => gw_182
  | 4, _ => gw_184
  | k + 5, h => absurd h (by omega)
theorem il_S : ∀ x ∈ u_ws "LevelStore$Shelf" T_S 5, x ∈ lw_tbl := fun x h => (List.mem_filter.mp (iw_S x h)).1
theorem iw_O : ∀ x ∈ u_ws "LevelStore$Sorter" T_O 3, x ∈ ga_G := by
  intro x hx
  obtain ⟨k, hk, rfl⟩ := List.mem_map.mp hx
  have hk := List.mem_range.mp hk
  exact match k, hk with
  | 0, _ => gw_199
  | 1, _ => gw_201
  | 2, _ => gw_203
  | k + 3, h => absurd h (by omega)
theorem il_O : ∀ x ∈ u_ws "LevelStore$Sorter" T_O 3, x ∈ lw_tbl := fun x h => (List.mem_filter.mp (iw_O x h)).1
theorem iw_L : ∀ x ∈ u_ws "LevelStore" T_L 9, x ∈ ga_G := by
  intro x hx
  obtain ⟨k, hk, rfl⟩ := List.mem_map.mp hx
  have hk := List.mem_range.mp hk
  exact match k, hk with
  | 0, _ => gw_255
  | 1, _ => gw_257
  | 2, _ => gw_259
  | 3, _ => gw_261
  | 4, _ => gw_263
  | 5, _ => gw_265
  | 6, _ => gw_267
  | 7, _ => gw_269
  | 8, _ => gw_271
  | k + 9, h => absurd h (by omega)
theorem il_L : ∀ x ∈ u_ws "LevelStore" T_L 9, x ∈ lw_tbl := fun x h => (List.mem_filter.mp (iw_L x h)).1
theorem iw_R : ∀ x ∈ u_ws "LevelStoreModel" T_R 39, x ∈ ga_G := by
  intro x hx
  obtain ⟨k, hk, rfl⟩ := List.mem_map.mp hx
  have hk := List.mem_range.mp hk
  exact match k, hk with
  | 0, _ => gw_800
  | 1, _ => gw_802
  | 2, _ => gw_804
  | 3, _ => gw_806
  | 4, _ => gw_808
  | 5, _ => gw_810
  | 6, _ => gw_812
  | 7, _ => gw_814
  | 8, _ => gw_816
  | 9, _ => gw_818
  | 10, _ => gw_820
  | 11, _ => gw_822
  | 12, _ => gw_824
  | 13, _ => gw_826
  | 14, _ => gw_828
  | 15, _ => gw_830
  | 16, _ => gw_832
  | 17, _ => gw_834
  | 18, _ => gw_836
  | 19, _ => gw_838
  | 20, _ => gw_840
  | 21, _ => gw_842
  | 22, _ => gw_844
  | 23, _ => gw_846
  | 24, _ => gw_848
  | 25, _ => gw_850
  | 26, _ => gw_852
  | 27, _ => gw_854
  | 28, _ => gw_856
  | 29, _ => gw_858
  | 30, _ => gw_860
  | 31, _ => gw_862
  | 32, _ => gw_864
  | 33, _ => gw_866
  | 34, _ => gw_868
  | 35, _ => gw_870
  | 36, _ => gw_872
  | 37, _ => gw_874
  | 38, _ => gw_876
  | k + 39, h => absurd h (by omega)
theorem il_R : ∀ x ∈ u_ws "LevelStoreModel" T_R 39, x ∈ lw_tbl := fun x h => (List.mem_filter.mp (iw_R x h)).1
def gz_chk (z : Cond) : Bool := ga_hw z || (decide (z ∈ lw_tbl) && ga_tw z)
theorem gz_chk_ok {z : Cond} (h : gz_chk z = true) : ga_hw z = true ∨ (z ∈ lw_tbl ∧ ga_tw z = true) := by
  simp only [gz_chk, Bool.or_eq_true, Bool.and_eq_true, decide_eq_true_eq] at h
  exact h
theorem gz_thr : Bundle.throwableAtoms.all gz_chk = true := by decide +kernel
theorem gz_ownOf {own X : String} {ic : Nat} (hl : Cond.methodLink own ic (Bundle.init0 X) ∈ lw_tbl) (h1 : (Bundle.chain0Atoms X gz_ch).all gz_chk = true) (h2 : (((Bundle.ownAtoms0 "" 0 X gz_ch).drop (Bundle.throwableAtoms ++ Bundle.chain0Atoms X gz_ch).length).drop 1).all gz_chk = true) : ∀ z ∈ Bundle.ownAtoms0 own ic X gz_ch, ga_hw z = true ∨ (z ∈ lw_tbl ∧ ga_tw z = true) := by
  intro z hz
  have e2 : ((Bundle.ownAtoms0 "" 0 X gz_ch).drop (Bundle.throwableAtoms ++ Bundle.chain0Atoms X gz_ch).length).drop 1 = ((Bundle.ownAtoms0 own ic X gz_ch).drop (Bundle.throwableAtoms ++ Bundle.chain0Atoms X gz_ch).length).drop 1 := by
    unfold Bundle.ownAtoms0
    rw [List.drop_left, List.drop_left]
    rfl
  rw [e2] at h2
  unfold Bundle.ownAtoms0 at hz h2
  rw [List.drop_left] at h2
  rcases List.mem_append.mp hz with hz | hz
  · rcases List.mem_append.mp hz with hz | hz
    · exact gz_chk_ok (List.all_eq_true.mp gz_thr z hz)
    · exact gz_chk_ok (List.all_eq_true.mp h1 z hz)
  · rcases List.mem_cons.mp hz with rfl | hz
    · exact Or.inr ⟨hl, rfl⟩
    · exact gz_chk_ok (List.all_eq_true.mp h2 z hz)
theorem gz_own0 {own : String} {ic : Nat} (hl : Cond.methodLink own ic ⟨"java/lang/IllegalArgumentException", "<init>", "()V"⟩ ∈ lw_tbl) : ∀ z ∈ Bundle.ownAtoms0 own ic (gz_xn 0) gz_ch, ga_hw z = true ∨ (z ∈ lw_tbl ∧ ga_tw z = true) := gz_ownOf (X := "java/lang/IllegalArgumentException") hl (by decide +kernel) (by decide +kernel)
theorem gz_own1 {own : String} {ic : Nat} (hl : Cond.methodLink own ic ⟨"java/lang/IllegalStateException", "<init>", "()V"⟩ ∈ lw_tbl) : ∀ z ∈ Bundle.ownAtoms0 own ic (gz_xn 1) gz_ch, ga_hw z = true ∨ (z ∈ lw_tbl ∧ ga_tw z = true) := gz_ownOf (X := "java/lang/IllegalStateException") hl (by decide +kernel) (by decide +kernel)
theorem gz_own2 {own : String} {ic : Nat} (hl : Cond.methodLink own ic ⟨"java/lang/UnsupportedOperationException", "<init>", "()V"⟩ ∈ lw_tbl) : ∀ z ∈ Bundle.ownAtoms0 own ic (gz_xn 2) gz_ch, ga_hw z = true ∨ (z ∈ lw_tbl ∧ ga_tw z = true) := gz_ownOf (X := "java/lang/UnsupportedOperationException") hl (by decide +kernel) (by decide +kernel)
theorem gz_own3 {own : String} {ic : Nat} (hl : Cond.methodLink own ic ⟨"java/util/NoSuchElementException", "<init>", "()V"⟩ ∈ lw_tbl) : ∀ z ∈ Bundle.ownAtoms0 own ic (gz_xn 3) gz_ch, ga_hw z = true ∨ (z ∈ lw_tbl ∧ ga_tw z = true) := gz_ownOf (X := "java/util/NoSuchElementException") hl (by decide +kernel) (by decide +kernel)
theorem gz_own4 {own : String} {ic : Nat} (hl : Cond.methodLink own ic ⟨"java/lang/IndexOutOfBoundsException", "<init>", "()V"⟩ ∈ lw_tbl) : ∀ z ∈ Bundle.ownAtoms0 own ic (gz_xn 4) gz_ch, ga_hw z = true ∨ (z ∈ lw_tbl ∧ ga_tw z = true) := gz_ownOf (X := "java/lang/IndexOutOfBoundsException") hl (by decide +kernel) (by decide +kernel)
theorem gz_own5 {own : String} {ic : Nat} (hl : Cond.methodLink own ic ⟨"java/lang/ArithmeticException", "<init>", "()V"⟩ ∈ lw_tbl) : ∀ z ∈ Bundle.ownAtoms0 own ic (gz_xn 5) gz_ch, ga_hw z = true ∨ (z ∈ lw_tbl ∧ ga_tw z = true) := gz_ownOf (X := "java/lang/ArithmeticException") hl (by decide +kernel) (by decide +kernel)
end
section
/-! DECODED INSTRUCTIONS -/
theorem d_E_init_0 : decode c_E_init 0 = .ok (.aload_n 0, 1) := by decide +kernel
theorem d_E_init_1 : decode c_E_init 1 = .ok (.invokespecial 3, 3) := by decide +kernel
theorem d_E_init_4 : decode c_E_init 4 = .ok (.aload_n 0, 1) := by decide +kernel
theorem d_E_init_5 : decode c_E_init 5 = .ok (.iload_n 1, 1) := by decide +kernel
theorem d_E_init_6 : decode c_E_init 6 = .ok (.newarray .int, 2) := by decide +kernel
theorem d_E_init_8 : decode c_E_init 8 = .ok (.putfield 9, 3) := by decide +kernel
theorem d_E_init_11 : decode c_E_init 11 = .ok (.aload_n 0, 1) := by decide +kernel
theorem d_E_init_12 : decode c_E_init 12 = .ok (.iload_n 1, 1) := by decide +kernel
theorem d_E_init_13 : decode c_E_init 13 = .ok (.newarray .int, 2) := by decide +kernel
theorem d_E_init_15 : decode c_E_init 15 = .ok (.putfield 15, 3) := by decide +kernel
theorem d_E_init_18 : decode c_E_init 18 = .ok (.aload_n 0, 1) := by decide +kernel
theorem d_E_init_19 : decode c_E_init 19 = .ok (.iload_n 1, 1) := by decide +kernel
theorem d_E_init_20 : decode c_E_init 20 = .ok (.newarray .int, 2) := by decide +kernel
theorem d_E_init_22 : decode c_E_init 22 = .ok (.putfield 18, 3) := by decide +kernel
theorem d_E_init_25 : decode c_E_init 25 = .ok (.aload_n 0, 1) := by decide +kernel
theorem d_E_init_26 : decode c_E_init 26 = .ok (.iload_n 1, 1) := by decide +kernel
theorem d_E_init_27 : decode c_E_init 27 = .ok (.newarray .boolean, 2) := by decide +kernel
theorem d_E_init_29 : decode c_E_init 29 = .ok (.putfield 21, 3) := by decide +kernel
theorem d_E_init_32 : decode c_E_init 32 = .ok (.aload_n 0, 1) := by decide +kernel
theorem d_E_init_33 : decode c_E_init 33 = .ok (.iload_n 1, 1) := by decide +kernel
theorem d_E_init_34 : decode c_E_init 34 = .ok (.newarray .boolean, 2) := by decide +kernel
theorem d_E_init_36 : decode c_E_init 36 = .ok (.putfield 25, 3) := by decide +kernel
theorem d_E_init_39 : decode c_E_init 39 = .ok (.return_, 1) := by decide +kernel
theorem d_M_init_0 : decode c_M_init 0 = .ok (.aload_n 0, 1) := by decide +kernel
theorem d_M_init_1 : decode c_M_init 1 = .ok (.invokespecial 3, 3) := by decide +kernel
theorem d_M_init_4 : decode c_M_init 4 = .ok (.aload_n 0, 1) := by decide +kernel
theorem d_M_init_5 : decode c_M_init 5 = .ok (.new 9, 3) := by decide +kernel
theorem d_M_init_8 : decode c_M_init 8 = .ok (.dup, 1) := by decide +kernel
theorem d_M_init_9 : decode c_M_init 9 = .ok (.bipush 12, 2) := by decide +kernel
theorem d_M_init_11 : decode c_M_init 11 = .ok (.invokespecial 11, 3) := by decide +kernel
theorem d_M_init_14 : decode c_M_init 14 = .ok (.putfield 14, 3) := by decide +kernel
theorem d_M_init_17 : decode c_M_init 17 = .ok (.aload_n 0, 1) := by decide +kernel
theorem d_M_init_18 : decode c_M_init 18 = .ok (.bipush 9, 2) := by decide +kernel
theorem d_M_init_20 : decode c_M_init 20 = .ok (.newarray .int, 2) := by decide +kernel
theorem d_M_init_22 : decode c_M_init 22 = .ok (.putfield 20, 3) := by decide +kernel
theorem d_M_init_25 : decode c_M_init 25 = .ok (.return_, 1) := by decide +kernel
theorem d_S_init_0 : decode c_S_init 0 = .ok (.aload_n 0, 1) := by decide +kernel
theorem d_S_init_1 : decode c_S_init 1 = .ok (.invokespecial 3, 3) := by decide +kernel
theorem d_S_init_4 : decode c_S_init 4 = .ok (.aload_n 0, 1) := by decide +kernel
theorem d_S_init_5 : decode c_S_init 5 = .ok (.new 9, 3) := by decide +kernel
theorem d_S_init_8 : decode c_S_init 8 = .ok (.dup, 1) := by decide +kernel
theorem d_S_init_9 : decode c_S_init 9 = .ok (.sipush 240, 3) := by decide +kernel
theorem d_S_init_12 : decode c_S_init 12 = .ok (.invokespecial 11, 3) := by decide +kernel
theorem d_S_init_15 : decode c_S_init 15 = .ok (.putfield 14, 3) := by decide +kernel
theorem d_S_init_18 : decode c_S_init 18 = .ok (.aload_n 0, 1) := by decide +kernel
theorem d_S_init_19 : decode c_S_init 19 = .ok (.sipush 240, 3) := by decide +kernel
theorem d_S_init_22 : decode c_S_init 22 = .ok (.newarray .int, 2) := by decide +kernel
theorem d_S_init_24 : decode c_S_init 24 = .ok (.putfield 20, 3) := by decide +kernel
theorem d_S_init_27 : decode c_S_init 27 = .ok (.aload_n 0, 1) := by decide +kernel
theorem d_S_init_28 : decode c_S_init 28 = .ok (.sipush 240, 3) := by decide +kernel
theorem d_S_init_31 : decode c_S_init 31 = .ok (.newarray .int, 2) := by decide +kernel
theorem d_S_init_33 : decode c_S_init 33 = .ok (.putfield 24, 3) := by decide +kernel
theorem d_S_init_36 : decode c_S_init 36 = .ok (.aload_n 0, 1) := by decide +kernel
theorem d_S_init_37 : decode c_S_init 37 = .ok (.sipush 241, 3) := by decide +kernel
theorem d_S_init_40 : decode c_S_init 40 = .ok (.newarray .int, 2) := by decide +kernel
theorem d_S_init_42 : decode c_S_init 42 = .ok (.putfield 27, 3) := by decide +kernel
theorem d_S_init_45 : decode c_S_init 45 = .ok (.return_, 1) := by decide +kernel
theorem d_O_init_0 : decode c_O_init 0 = .ok (.aload_n 0, 1) := by decide +kernel
theorem d_O_init_1 : decode c_O_init 1 = .ok (.invokespecial 3, 3) := by decide +kernel
theorem d_O_init_4 : decode c_O_init 4 = .ok (.aload_n 0, 1) := by decide +kernel
theorem d_O_init_5 : decode c_O_init 5 = .ok (.new 9, 3) := by decide +kernel
theorem d_O_init_8 : decode c_O_init 8 = .ok (.dup, 1) := by decide +kernel
theorem d_O_init_9 : decode c_O_init 9 = .ok (.sipush 240, 3) := by decide +kernel
theorem d_O_init_12 : decode c_O_init 12 = .ok (.invokespecial 11, 3) := by decide +kernel
theorem d_O_init_15 : decode c_O_init 15 = .ok (.putfield 14, 3) := by decide +kernel
theorem d_O_init_18 : decode c_O_init 18 = .ok (.aload_n 0, 1) := by decide +kernel
theorem d_O_init_19 : decode c_O_init 19 = .ok (.bipush 65, 2) := by decide +kernel
theorem d_O_init_21 : decode c_O_init 21 = .ok (.newarray .int, 2) := by decide +kernel
theorem d_O_init_23 : decode c_O_init 23 = .ok (.putfield 20, 3) := by decide +kernel
theorem d_O_init_26 : decode c_O_init 26 = .ok (.aload_n 0, 1) := by decide +kernel
theorem d_O_init_27 : decode c_O_init 27 = .ok (.sipush 240, 3) := by decide +kernel
theorem d_O_init_30 : decode c_O_init 30 = .ok (.newarray .int, 2) := by decide +kernel
theorem d_O_init_32 : decode c_O_init 32 = .ok (.putfield 24, 3) := by decide +kernel
theorem d_O_init_35 : decode c_O_init 35 = .ok (.return_, 1) := by decide +kernel
theorem d_V_init_0 : decode c_V_init 0 = .ok (.aload_n 0, 1) := by decide +kernel
theorem d_V_init_1 : decode c_V_init 1 = .ok (.invokespecial 3, 3) := by decide +kernel
theorem d_V_init_4 : decode c_V_init 4 = .ok (.aload_n 0, 1) := by decide +kernel
theorem d_V_init_5 : decode c_V_init 5 = .ok (.new 9, 3) := by decide +kernel
theorem d_V_init_8 : decode c_V_init 8 = .ok (.dup, 1) := by decide +kernel
theorem d_V_init_9 : decode c_V_init 9 = .ok (.invokespecial 11, 3) := by decide +kernel
theorem d_V_init_12 : decode c_V_init 12 = .ok (.putfield 12, 3) := by decide +kernel
theorem d_V_init_15 : decode c_V_init 15 = .ok (.aload_n 0, 1) := by decide +kernel
theorem d_V_init_16 : decode c_V_init 16 = .ok (.new 9, 3) := by decide +kernel
theorem d_V_init_19 : decode c_V_init 19 = .ok (.dup, 1) := by decide +kernel
theorem d_V_init_20 : decode c_V_init 20 = .ok (.invokespecial 11, 3) := by decide +kernel
theorem d_V_init_23 : decode c_V_init 23 = .ok (.putfield 18, 3) := by decide +kernel
theorem d_V_init_26 : decode c_V_init 26 = .ok (.aload_n 0, 1) := by decide +kernel
theorem d_V_init_27 : decode c_V_init 27 = .ok (.new 21, 3) := by decide +kernel
theorem d_V_init_30 : decode c_V_init 30 = .ok (.dup, 1) := by decide +kernel
theorem d_V_init_31 : decode c_V_init 31 = .ok (.invokespecial 23, 3) := by decide +kernel
theorem d_V_init_34 : decode c_V_init 34 = .ok (.putfield 24, 3) := by decide +kernel
theorem d_V_init_37 : decode c_V_init 37 = .ok (.aload_n 0, 1) := by decide +kernel
theorem d_V_init_38 : decode c_V_init 38 = .ok (.new 28, 3) := by decide +kernel
theorem d_V_init_41 : decode c_V_init 41 = .ok (.dup, 1) := by decide +kernel
theorem d_V_init_42 : decode c_V_init 42 = .ok (.sipush 240, 3) := by decide +kernel
theorem d_V_init_45 : decode c_V_init 45 = .ok (.invokespecial 30, 3) := by decide +kernel
theorem d_V_init_48 : decode c_V_init 48 = .ok (.putfield 33, 3) := by decide +kernel
theorem d_V_init_51 : decode c_V_init 51 = .ok (.aload_n 0, 1) := by decide +kernel
theorem d_V_init_52 : decode c_V_init 52 = .ok (.sipush 240, 3) := by decide +kernel
theorem d_V_init_55 : decode c_V_init 55 = .ok (.newarray .boolean, 2) := by decide +kernel
theorem d_V_init_57 : decode c_V_init 57 = .ok (.putfield 37, 3) := by decide +kernel
theorem d_V_init_60 : decode c_V_init 60 = .ok (.aload_n 0, 1) := by decide +kernel
theorem d_V_init_61 : decode c_V_init 61 = .ok (.iconst 3, 1) := by decide +kernel
theorem d_V_init_62 : decode c_V_init 62 = .ok (.newarray .int, 2) := by decide +kernel
theorem d_V_init_64 : decode c_V_init 64 = .ok (.dup, 1) := by decide +kernel
theorem d_V_init_65 : decode c_V_init 65 = .ok (.iconst 0, 1) := by decide +kernel
theorem d_V_init_66 : decode c_V_init 66 = .ok (.iconst (-1), 1) := by decide +kernel
theorem d_V_init_67 : decode c_V_init 67 = .ok (.iastore, 1) := by decide +kernel
theorem d_V_init_68 : decode c_V_init 68 = .ok (.dup, 1) := by decide +kernel
theorem d_V_init_69 : decode c_V_init 69 = .ok (.iconst 1, 1) := by decide +kernel
theorem d_V_init_70 : decode c_V_init 70 = .ok (.iconst (-1), 1) := by decide +kernel
theorem d_V_init_71 : decode c_V_init 71 = .ok (.iastore, 1) := by decide +kernel
theorem d_V_init_72 : decode c_V_init 72 = .ok (.dup, 1) := by decide +kernel
theorem d_V_init_73 : decode c_V_init 73 = .ok (.iconst 2, 1) := by decide +kernel
theorem d_V_init_74 : decode c_V_init 74 = .ok (.iconst (-1), 1) := by decide +kernel
theorem d_V_init_75 : decode c_V_init 75 = .ok (.iastore, 1) := by decide +kernel
theorem d_V_init_76 : decode c_V_init 76 = .ok (.putfield 41, 3) := by decide +kernel
theorem d_V_init_79 : decode c_V_init 79 = .ok (.return_, 1) := by decide +kernel
theorem d_J_fill_0 : decode c_J_fill 0 = .ok (.iconst 0, 1) := by decide +kernel
theorem d_J_fill_1 : decode c_J_fill 1 = .ok (.istore_n 2, 1) := by decide +kernel
theorem d_J_fill_2 : decode c_J_fill 2 = .ok (.aload_n 0, 1) := by decide +kernel
theorem d_J_fill_3 : decode c_J_fill 3 = .ok (.arraylength, 1) := by decide +kernel
theorem d_J_fill_4 : decode c_J_fill 4 = .ok (.istore_n 3, 1) := by decide +kernel
theorem d_J_fill_5 : decode c_J_fill 5 = .ok (.iload_n 2, 1) := by decide +kernel
theorem d_J_fill_6 : decode c_J_fill 6 = .ok (.iload_n 3, 1) := by decide +kernel
theorem d_J_fill_7 : decode c_J_fill 7 = .ok (.if_icmp .ge 13, 3) := by decide +kernel
theorem d_J_fill_10 : decode c_J_fill 10 = .ok (.aload_n 0, 1) := by decide +kernel
theorem d_J_fill_11 : decode c_J_fill 11 = .ok (.iload_n 2, 1) := by decide +kernel
theorem d_J_fill_12 : decode c_J_fill 12 = .ok (.iload_n 1, 1) := by decide +kernel
theorem d_J_fill_13 : decode c_J_fill 13 = .ok (.iastore, 1) := by decide +kernel
theorem d_J_fill_14 : decode c_J_fill 14 = .ok (.iinc 2 1, 3) := by decide +kernel
theorem d_J_fill_17 : decode c_J_fill 17 = .ok (.goto (-12), 3) := by decide +kernel
theorem d_J_fill_20 : decode c_J_fill 20 = .ok (.return_, 1) := by decide +kernel
theorem d_L_init_0 : decode c_L_init 0 = .ok (.aload_n 0, 1) := by decide +kernel
theorem d_L_init_1 : decode c_L_init 1 = .ok (.invokespecial 1, 3) := by decide +kernel
theorem d_L_init_4 : decode c_L_init 4 = .ok (.aload_n 0, 1) := by decide +kernel
theorem d_L_init_5 : decode c_L_init 5 = .ok (.new 7, 3) := by decide +kernel
theorem d_L_init_8 : decode c_L_init 8 = .ok (.dup, 1) := by decide +kernel
theorem d_L_init_9 : decode c_L_init 9 = .ok (.invokespecial 9, 3) := by decide +kernel
theorem d_L_init_12 : decode c_L_init 12 = .ok (.putfield 10, 3) := by decide +kernel
theorem d_L_init_15 : decode c_L_init 15 = .ok (.aload_n 0, 1) := by decide +kernel
theorem d_L_init_16 : decode c_L_init 16 = .ok (.new 16, 3) := by decide +kernel
theorem d_L_init_19 : decode c_L_init 19 = .ok (.dup, 1) := by decide +kernel
theorem d_L_init_20 : decode c_L_init 20 = .ok (.invokespecial 18, 3) := by decide +kernel
theorem d_L_init_23 : decode c_L_init 23 = .ok (.putfield 19, 3) := by decide +kernel
theorem d_L_init_26 : decode c_L_init 26 = .ok (.aload_n 0, 1) := by decide +kernel
theorem d_L_init_27 : decode c_L_init 27 = .ok (.new 23, 3) := by decide +kernel
theorem d_L_init_30 : decode c_L_init 30 = .ok (.dup, 1) := by decide +kernel
theorem d_L_init_31 : decode c_L_init 31 = .ok (.iconst 4, 1) := by decide +kernel
theorem d_L_init_32 : decode c_L_init 32 = .ok (.invokespecial 25, 3) := by decide +kernel
theorem d_L_init_35 : decode c_L_init 35 = .ok (.putfield 28, 3) := by decide +kernel
theorem d_L_init_38 : decode c_L_init 38 = .ok (.aload_n 0, 1) := by decide +kernel
theorem d_L_init_39 : decode c_L_init 39 = .ok (.iconst 4, 1) := by decide +kernel
theorem d_L_init_40 : decode c_L_init 40 = .ok (.newarray .int, 2) := by decide +kernel
theorem d_L_init_42 : decode c_L_init 42 = .ok (.putfield 32, 3) := by decide +kernel
theorem d_L_init_45 : decode c_L_init 45 = .ok (.aload_n 0, 1) := by decide +kernel
theorem d_L_init_46 : decode c_L_init 46 = .ok (.getfield 32, 3) := by decide +kernel
theorem d_L_init_49 : decode c_L_init 49 = .ok (.iconst (-1), 1) := by decide +kernel
theorem d_L_init_50 : decode c_L_init 50 = .ok (.invokestatic 36, 3) := by decide +kernel
theorem d_L_init_53 : decode c_L_init 53 = .ok (.return_, 1) := by decide +kernel
theorem d_L_sync_0 : decode c_L_sync 0 = .ok (.aload_n 0, 1) := by decide +kernel
theorem d_L_sync_1 : decode c_L_sync 1 = .ok (.getfield 10, 3) := by decide +kernel
theorem d_L_sync_4 : decode c_L_sync 4 = .ok (.aload_n 0, 1) := by decide +kernel
theorem d_L_sync_5 : decode c_L_sync 5 = .ok (.getfield 10, 3) := by decide +kernel
theorem d_L_sync_8 : decode c_L_sync 8 = .ok (.getfield 67, 3) := by decide +kernel
theorem d_L_sync_11 : decode c_L_sync 11 = .ok (.putfield 70, 3) := by decide +kernel
theorem d_L_sync_14 : decode c_L_sync 14 = .ok (.aload_n 0, 1) := by decide +kernel
theorem d_L_sync_15 : decode c_L_sync 15 = .ok (.getfield 10, 3) := by decide +kernel
theorem d_L_sync_18 : decode c_L_sync 18 = .ok (.getfield 70, 3) := by decide +kernel
theorem d_L_sync_21 : decode c_L_sync 21 = .ok (.ireturn, 1) := by decide +kernel
theorem d_S_clear_0 : decode c_S_clear 0 = .ok (.aload_n 0, 1) := by decide +kernel
theorem d_S_clear_1 : decode c_S_clear 1 = .ok (.getfield 14, 3) := by decide +kernel
theorem d_S_clear_4 : decode c_S_clear 4 = .ok (.iconst 0, 1) := by decide +kernel
theorem d_S_clear_5 : decode c_S_clear 5 = .ok (.putfield 30, 3) := by decide +kernel
theorem d_S_clear_8 : decode c_S_clear 8 = .ok (.aload_n 0, 1) := by decide +kernel
theorem d_S_clear_9 : decode c_S_clear 9 = .ok (.iconst 0, 1) := by decide +kernel
theorem d_S_clear_10 : decode c_S_clear 10 = .ok (.putfield 34, 3) := by decide +kernel
theorem d_S_clear_13 : decode c_S_clear 13 = .ok (.return_, 1) := by decide +kernel
theorem d_E_addFrom_0 : decode c_E_addFrom 0 = .ok (.aload_n 0, 1) := by decide +kernel
theorem d_E_addFrom_1 : decode c_E_addFrom 1 = .ok (.getfield 9, 3) := by decide +kernel
theorem d_E_addFrom_4 : decode c_E_addFrom 4 = .ok (.aload_n 0, 1) := by decide +kernel
theorem d_E_addFrom_5 : decode c_E_addFrom 5 = .ok (.getfield 28, 3) := by decide +kernel
theorem d_E_addFrom_8 : decode c_E_addFrom 8 = .ok (.aload_n 1, 1) := by decide +kernel
theorem d_E_addFrom_9 : decode c_E_addFrom 9 = .ok (.getfield 9, 3) := by decide +kernel
theorem d_E_addFrom_12 : decode c_E_addFrom 12 = .ok (.iload_n 2, 1) := by decide +kernel
theorem d_E_addFrom_13 : decode c_E_addFrom 13 = .ok (.iaload, 1) := by decide +kernel
theorem d_E_addFrom_14 : decode c_E_addFrom 14 = .ok (.iastore, 1) := by decide +kernel
theorem d_E_addFrom_15 : decode c_E_addFrom 15 = .ok (.aload_n 0, 1) := by decide +kernel
theorem d_E_addFrom_16 : decode c_E_addFrom 16 = .ok (.getfield 15, 3) := by decide +kernel
theorem d_E_addFrom_19 : decode c_E_addFrom 19 = .ok (.aload_n 0, 1) := by decide +kernel
theorem d_E_addFrom_20 : decode c_E_addFrom 20 = .ok (.getfield 28, 3) := by decide +kernel
theorem d_E_addFrom_23 : decode c_E_addFrom 23 = .ok (.aload_n 1, 1) := by decide +kernel
theorem d_E_addFrom_24 : decode c_E_addFrom 24 = .ok (.getfield 15, 3) := by decide +kernel
theorem d_E_addFrom_27 : decode c_E_addFrom 27 = .ok (.iload_n 2, 1) := by decide +kernel
theorem d_E_addFrom_28 : decode c_E_addFrom 28 = .ok (.iaload, 1) := by decide +kernel
theorem d_E_addFrom_29 : decode c_E_addFrom 29 = .ok (.iastore, 1) := by decide +kernel
theorem d_E_addFrom_30 : decode c_E_addFrom 30 = .ok (.aload_n 0, 1) := by decide +kernel
theorem d_E_addFrom_31 : decode c_E_addFrom 31 = .ok (.getfield 18, 3) := by decide +kernel
theorem d_E_addFrom_34 : decode c_E_addFrom 34 = .ok (.aload_n 0, 1) := by decide +kernel
theorem d_E_addFrom_35 : decode c_E_addFrom 35 = .ok (.getfield 28, 3) := by decide +kernel
theorem d_E_addFrom_38 : decode c_E_addFrom 38 = .ok (.aload_n 1, 1) := by decide +kernel
theorem d_E_addFrom_39 : decode c_E_addFrom 39 = .ok (.getfield 18, 3) := by decide +kernel
theorem d_E_addFrom_42 : decode c_E_addFrom 42 = .ok (.iload_n 2, 1) := by decide +kernel
theorem d_E_addFrom_43 : decode c_E_addFrom 43 = .ok (.iaload, 1) := by decide +kernel
theorem d_E_addFrom_44 : decode c_E_addFrom 44 = .ok (.iastore, 1) := by decide +kernel
theorem d_E_addFrom_45 : decode c_E_addFrom 45 = .ok (.aload_n 0, 1) := by decide +kernel
theorem d_E_addFrom_46 : decode c_E_addFrom 46 = .ok (.getfield 21, 3) := by decide +kernel
theorem d_E_addFrom_49 : decode c_E_addFrom 49 = .ok (.aload_n 0, 1) := by decide +kernel
theorem d_E_addFrom_50 : decode c_E_addFrom 50 = .ok (.getfield 28, 3) := by decide +kernel
theorem d_E_addFrom_53 : decode c_E_addFrom 53 = .ok (.aload_n 1, 1) := by decide +kernel
theorem d_E_addFrom_54 : decode c_E_addFrom 54 = .ok (.getfield 21, 3) := by decide +kernel
theorem d_E_addFrom_57 : decode c_E_addFrom 57 = .ok (.iload_n 2, 1) := by decide +kernel
theorem d_E_addFrom_58 : decode c_E_addFrom 58 = .ok (.baload, 1) := by decide +kernel
theorem d_E_addFrom_59 : decode c_E_addFrom 59 = .ok (.bastore, 1) := by decide +kernel
theorem d_E_addFrom_60 : decode c_E_addFrom 60 = .ok (.aload_n 0, 1) := by decide +kernel
theorem d_E_addFrom_61 : decode c_E_addFrom 61 = .ok (.getfield 25, 3) := by decide +kernel
theorem d_E_addFrom_64 : decode c_E_addFrom 64 = .ok (.aload_n 0, 1) := by decide +kernel
theorem d_E_addFrom_65 : decode c_E_addFrom 65 = .ok (.getfield 28, 3) := by decide +kernel
theorem d_E_addFrom_68 : decode c_E_addFrom 68 = .ok (.aload_n 1, 1) := by decide +kernel
theorem d_E_addFrom_69 : decode c_E_addFrom 69 = .ok (.getfield 25, 3) := by decide +kernel
theorem d_E_addFrom_72 : decode c_E_addFrom 72 = .ok (.iload_n 2, 1) := by decide +kernel
theorem d_E_addFrom_73 : decode c_E_addFrom 73 = .ok (.baload, 1) := by decide +kernel
theorem d_E_addFrom_74 : decode c_E_addFrom 74 = .ok (.bastore, 1) := by decide +kernel
theorem d_E_addFrom_75 : decode c_E_addFrom 75 = .ok (.aload_n 0, 1) := by decide +kernel
theorem d_E_addFrom_76 : decode c_E_addFrom 76 = .ok (.dup, 1) := by decide +kernel
theorem d_E_addFrom_77 : decode c_E_addFrom 77 = .ok (.getfield 28, 3) := by decide +kernel
theorem d_E_addFrom_80 : decode c_E_addFrom 80 = .ok (.iconst 1, 1) := by decide +kernel
theorem d_E_addFrom_81 : decode c_E_addFrom 81 = .ok (.iadd, 1) := by decide +kernel
theorem d_E_addFrom_82 : decode c_E_addFrom 82 = .ok (.putfield 28, 3) := by decide +kernel
theorem d_E_addFrom_85 : decode c_E_addFrom 85 = .ok (.return_, 1) := by decide +kernel
theorem d_S_hasLooseRows_0 : decode c_S_hasLooseRows 0 = .ok (.aload_n 0, 1) := by decide +kernel
theorem d_S_hasLooseRows_1 : decode c_S_hasLooseRows 1 = .ok (.getfield 14, 3) := by decide +kernel
theorem d_S_hasLooseRows_4 : decode c_S_hasLooseRows 4 = .ok (.getfield 30, 3) := by decide +kernel
theorem d_S_hasLooseRows_7 : decode c_S_hasLooseRows 7 = .ok (.aload_n 0, 1) := by decide +kernel
theorem d_S_hasLooseRows_8 : decode c_S_hasLooseRows 8 = .ok (.getfield 27, 3) := by decide +kernel
theorem d_S_hasLooseRows_11 : decode c_S_hasLooseRows 11 = .ok (.aload_n 0, 1) := by decide +kernel
theorem d_S_hasLooseRows_12 : decode c_S_hasLooseRows 12 = .ok (.getfield 34, 3) := by decide +kernel
theorem d_S_hasLooseRows_15 : decode c_S_hasLooseRows 15 = .ok (.iaload, 1) := by decide +kernel
theorem d_S_hasLooseRows_16 : decode c_S_hasLooseRows 16 = .ok (.if_icmp .le 7, 3) := by decide +kernel
theorem d_S_hasLooseRows_19 : decode c_S_hasLooseRows 19 = .ok (.iconst 1, 1) := by decide +kernel
theorem d_S_hasLooseRows_20 : decode c_S_hasLooseRows 20 = .ok (.goto 4, 3) := by decide +kernel
theorem d_S_hasLooseRows_23 : decode c_S_hasLooseRows 23 = .ok (.iconst 0, 1) := by decide +kernel
theorem d_S_hasLooseRows_24 : decode c_S_hasLooseRows 24 = .ok (.ireturn, 1) := by decide +kernel
theorem d_S_endTable_0 : decode c_S_endTable 0 = .ok (.aload_n 0, 1) := by decide +kernel
theorem d_S_endTable_1 : decode c_S_endTable 1 = .ok (.getfield 20, 3) := by decide +kernel
theorem d_S_endTable_4 : decode c_S_endTable 4 = .ok (.aload_n 0, 1) := by decide +kernel
theorem d_S_endTable_5 : decode c_S_endTable 5 = .ok (.getfield 34, 3) := by decide +kernel
theorem d_S_endTable_8 : decode c_S_endTable 8 = .ok (.iload_n 1, 1) := by decide +kernel
theorem d_S_endTable_9 : decode c_S_endTable 9 = .ok (.iastore, 1) := by decide +kernel
theorem d_S_endTable_10 : decode c_S_endTable 10 = .ok (.aload_n 0, 1) := by decide +kernel
theorem d_S_endTable_11 : decode c_S_endTable 11 = .ok (.getfield 24, 3) := by decide +kernel
theorem d_S_endTable_14 : decode c_S_endTable 14 = .ok (.aload_n 0, 1) := by decide +kernel
theorem d_S_endTable_15 : decode c_S_endTable 15 = .ok (.getfield 34, 3) := by decide +kernel
theorem d_S_endTable_18 : decode c_S_endTable 18 = .ok (.iload_n 2, 1) := by decide +kernel
theorem d_S_endTable_19 : decode c_S_endTable 19 = .ok (.iastore, 1) := by decide +kernel
theorem d_S_endTable_20 : decode c_S_endTable 20 = .ok (.aload_n 0, 1) := by decide +kernel
theorem d_S_endTable_21 : decode c_S_endTable 21 = .ok (.dup, 1) := by decide +kernel
theorem d_S_endTable_22 : decode c_S_endTable 22 = .ok (.getfield 34, 3) := by decide +kernel
theorem d_S_endTable_25 : decode c_S_endTable 25 = .ok (.iconst 1, 1) := by decide +kernel
theorem d_S_endTable_26 : decode c_S_endTable 26 = .ok (.iadd, 1) := by decide +kernel
theorem d_S_endTable_27 : decode c_S_endTable 27 = .ok (.putfield 34, 3) := by decide +kernel
theorem d_S_endTable_30 : decode c_S_endTable 30 = .ok (.aload_n 0, 1) := by decide +kernel
theorem d_S_endTable_31 : decode c_S_endTable 31 = .ok (.getfield 27, 3) := by decide +kernel
theorem d_S_endTable_34 : decode c_S_endTable 34 = .ok (.aload_n 0, 1) := by decide +kernel
theorem d_S_endTable_35 : decode c_S_endTable 35 = .ok (.getfield 34, 3) := by decide +kernel
theorem d_S_endTable_38 : decode c_S_endTable 38 = .ok (.aload_n 0, 1) := by decide +kernel
theorem d_S_endTable_39 : decode c_S_endTable 39 = .ok (.getfield 14, 3) := by decide +kernel
theorem d_S_endTable_42 : decode c_S_endTable 42 = .ok (.getfield 30, 3) := by decide +kernel
theorem d_S_endTable_45 : decode c_S_endTable 45 = .ok (.iastore, 1) := by decide +kernel
theorem d_S_endTable_46 : decode c_S_endTable 46 = .ok (.return_, 1) := by decide +kernel
theorem d_V_changeShelf_0 : decode c_V_changeShelf 0 = .ok (.aload_n 0, 1) := by decide +kernel
theorem d_V_changeShelf_1 : decode c_V_changeShelf 1 = .ok (.getfield 12, 3) := by decide +kernel
theorem d_V_changeShelf_4 : decode c_V_changeShelf 4 = .ok (.astore_n 1, 1) := by decide +kernel
theorem d_V_changeShelf_5 : decode c_V_changeShelf 5 = .ok (.aload_n 0, 1) := by decide +kernel
theorem d_V_changeShelf_6 : decode c_V_changeShelf 6 = .ok (.aload_n 0, 1) := by decide +kernel
theorem d_V_changeShelf_7 : decode c_V_changeShelf 7 = .ok (.getfield 18, 3) := by decide +kernel
theorem d_V_changeShelf_10 : decode c_V_changeShelf 10 = .ok (.putfield 12, 3) := by decide +kernel
theorem d_V_changeShelf_13 : decode c_V_changeShelf 13 = .ok (.aload_n 0, 1) := by decide +kernel
theorem d_V_changeShelf_14 : decode c_V_changeShelf 14 = .ok (.aload_n 1, 1) := by decide +kernel
theorem d_V_changeShelf_15 : decode c_V_changeShelf 15 = .ok (.putfield 18, 3) := by decide +kernel
theorem d_V_changeShelf_18 : decode c_V_changeShelf 18 = .ok (.return_, 1) := by decide +kernel
theorem d_V_loseSpoiled_0 : decode c_V_loseSpoiled 0 = .ok (.aload_n 0, 1) := by decide +kernel
theorem d_V_loseSpoiled_1 : decode c_V_loseSpoiled 1 = .ok (.getfield 18, 3) := by decide +kernel
theorem d_V_loseSpoiled_4 : decode c_V_loseSpoiled 4 = .ok (.invokevirtual 64, 3) := by decide +kernel
theorem d_V_loseSpoiled_7 : decode c_V_loseSpoiled 7 = .ok (.iconst 0, 1) := by decide +kernel
theorem d_V_loseSpoiled_8 : decode c_V_loseSpoiled 8 = .ok (.istore_n 1, 1) := by decide +kernel
theorem d_V_loseSpoiled_9 : decode c_V_loseSpoiled 9 = .ok (.iload_n 1, 1) := by decide +kernel
theorem d_V_loseSpoiled_10 : decode c_V_loseSpoiled 10 = .ok (.aload_n 0, 1) := by decide +kernel
theorem d_V_loseSpoiled_11 : decode c_V_loseSpoiled 11 = .ok (.getfield 12, 3) := by decide +kernel
theorem d_V_loseSpoiled_14 : decode c_V_loseSpoiled 14 = .ok (.getfield 77, 3) := by decide +kernel
theorem d_V_loseSpoiled_17 : decode c_V_loseSpoiled 17 = .ok (.if_icmp .ge 108, 3) := by decide +kernel
theorem d_V_loseSpoiled_20 : decode c_V_loseSpoiled 20 = .ok (.aload_n 0, 1) := by decide +kernel
theorem d_V_loseSpoiled_21 : decode c_V_loseSpoiled 21 = .ok (.getfield 12, 3) := by decide +kernel
theorem d_V_loseSpoiled_24 : decode c_V_loseSpoiled 24 = .ok (.getfield 87, 3) := by decide +kernel
theorem d_V_loseSpoiled_27 : decode c_V_loseSpoiled 27 = .ok (.iload_n 1, 1) := by decide +kernel
theorem d_V_loseSpoiled_28 : decode c_V_loseSpoiled 28 = .ok (.iaload, 1) := by decide +kernel
theorem d_V_loseSpoiled_29 : decode c_V_loseSpoiled 29 = .ok (.istore_n 2, 1) := by decide +kernel
theorem d_V_loseSpoiled_30 : decode c_V_loseSpoiled 30 = .ok (.iload_n 2, 1) := by decide +kernel
theorem d_V_loseSpoiled_31 : decode c_V_loseSpoiled 31 = .ok (.aload_n 0, 1) := by decide +kernel
theorem d_V_loseSpoiled_32 : decode c_V_loseSpoiled 32 = .ok (.getfield 12, 3) := by decide +kernel
theorem d_V_loseSpoiled_35 : decode c_V_loseSpoiled 35 = .ok (.getfield 87, 3) := by decide +kernel
theorem d_V_loseSpoiled_38 : decode c_V_loseSpoiled 38 = .ok (.iload_n 1, 1) := by decide +kernel
theorem d_V_loseSpoiled_39 : decode c_V_loseSpoiled 39 = .ok (.iconst 1, 1) := by decide +kernel
theorem d_V_loseSpoiled_40 : decode c_V_loseSpoiled 40 = .ok (.iadd, 1) := by decide +kernel
theorem d_V_loseSpoiled_41 : decode c_V_loseSpoiled 41 = .ok (.iaload, 1) := by decide +kernel
theorem d_V_loseSpoiled_42 : decode c_V_loseSpoiled 42 = .ok (.if_icmp .ge 42, 3) := by decide +kernel
theorem d_V_loseSpoiled_45 : decode c_V_loseSpoiled 45 = .ok (.aload_n 0, 1) := by decide +kernel
theorem d_V_loseSpoiled_46 : decode c_V_loseSpoiled 46 = .ok (.getfield 12, 3) := by decide +kernel
theorem d_V_loseSpoiled_49 : decode c_V_loseSpoiled 49 = .ok (.getfield 67, 3) := by decide +kernel
theorem d_V_loseSpoiled_52 : decode c_V_loseSpoiled 52 = .ok (.getfield 90, 3) := by decide +kernel
theorem d_V_loseSpoiled_55 : decode c_V_loseSpoiled 55 = .ok (.iload_n 2, 1) := by decide +kernel
theorem d_V_loseSpoiled_56 : decode c_V_loseSpoiled 56 = .ok (.baload, 1) := by decide +kernel
theorem d_V_loseSpoiled_57 : decode c_V_loseSpoiled 57 = .ok (.ifCond .ne 21, 3) := by decide +kernel
theorem d_V_loseSpoiled_60 : decode c_V_loseSpoiled 60 = .ok (.aload_n 0, 1) := by decide +kernel
theorem d_V_loseSpoiled_61 : decode c_V_loseSpoiled 61 = .ok (.getfield 18, 3) := by decide +kernel
theorem d_V_loseSpoiled_64 : decode c_V_loseSpoiled 64 = .ok (.getfield 67, 3) := by decide +kernel
theorem d_V_loseSpoiled_67 : decode c_V_loseSpoiled 67 = .ok (.aload_n 0, 1) := by decide +kernel
theorem d_V_loseSpoiled_68 : decode c_V_loseSpoiled 68 = .ok (.getfield 12, 3) := by decide +kernel
theorem d_V_loseSpoiled_71 : decode c_V_loseSpoiled 71 = .ok (.getfield 67, 3) := by decide +kernel
theorem d_V_loseSpoiled_74 : decode c_V_loseSpoiled 74 = .ok (.iload_n 2, 1) := by decide +kernel
theorem d_V_loseSpoiled_75 : decode c_V_loseSpoiled 75 = .ok (.invokevirtual 60, 3) := by decide +kernel
theorem d_V_loseSpoiled_78 : decode c_V_loseSpoiled 78 = .ok (.iinc 2 1, 3) := by decide +kernel
theorem d_V_loseSpoiled_81 : decode c_V_loseSpoiled 81 = .ok (.goto (-51), 3) := by decide +kernel
theorem d_V_loseSpoiled_84 : decode c_V_loseSpoiled 84 = .ok (.aload_n 0, 1) := by decide +kernel
theorem d_V_loseSpoiled_85 : decode c_V_loseSpoiled 85 = .ok (.getfield 18, 3) := by decide +kernel
theorem d_V_loseSpoiled_88 : decode c_V_loseSpoiled 88 = .ok (.invokevirtual 93, 3) := by decide +kernel
theorem d_V_loseSpoiled_91 : decode c_V_loseSpoiled 91 = .ok (.ifCond .eq 28, 3) := by decide +kernel
theorem d_V_loseSpoiled_94 : decode c_V_loseSpoiled 94 = .ok (.aload_n 0, 1) := by decide +kernel
theorem d_V_loseSpoiled_95 : decode c_V_loseSpoiled 95 = .ok (.getfield 18, 3) := by decide +kernel
theorem d_V_loseSpoiled_98 : decode c_V_loseSpoiled 98 = .ok (.aload_n 0, 1) := by decide +kernel
theorem d_V_loseSpoiled_99 : decode c_V_loseSpoiled 99 = .ok (.getfield 12, 3) := by decide +kernel
theorem d_V_loseSpoiled_102 : decode c_V_loseSpoiled 102 = .ok (.getfield 97, 3) := by decide +kernel
theorem d_V_loseSpoiled_105 : decode c_V_loseSpoiled 105 = .ok (.iload_n 1, 1) := by decide +kernel
theorem d_V_loseSpoiled_106 : decode c_V_loseSpoiled 106 = .ok (.iaload, 1) := by decide +kernel
theorem d_V_loseSpoiled_107 : decode c_V_loseSpoiled 107 = .ok (.aload_n 0, 1) := by decide +kernel
theorem d_V_loseSpoiled_108 : decode c_V_loseSpoiled 108 = .ok (.getfield 12, 3) := by decide +kernel
theorem d_V_loseSpoiled_111 : decode c_V_loseSpoiled 111 = .ok (.getfield 100, 3) := by decide +kernel
theorem d_V_loseSpoiled_114 : decode c_V_loseSpoiled 114 = .ok (.iload_n 1, 1) := by decide +kernel
theorem d_V_loseSpoiled_115 : decode c_V_loseSpoiled 115 = .ok (.iaload, 1) := by decide +kernel
theorem d_V_loseSpoiled_116 : decode c_V_loseSpoiled 116 = .ok (.invokevirtual 103, 3) := by decide +kernel
theorem d_V_loseSpoiled_119 : decode c_V_loseSpoiled 119 = .ok (.iinc 1 1, 3) := by decide +kernel
theorem d_V_loseSpoiled_122 : decode c_V_loseSpoiled 122 = .ok (.goto (-113), 3) := by decide +kernel
theorem d_V_loseSpoiled_125 : decode c_V_loseSpoiled 125 = .ok (.aload_n 0, 1) := by decide +kernel
theorem d_V_loseSpoiled_126 : decode c_V_loseSpoiled 126 = .ok (.getfield 12, 3) := by decide +kernel
theorem d_V_loseSpoiled_129 : decode c_V_loseSpoiled 129 = .ok (.getfield 67, 3) := by decide +kernel
theorem d_V_loseSpoiled_132 : decode c_V_loseSpoiled 132 = .ok (.getfield 56, 3) := by decide +kernel
theorem d_V_loseSpoiled_135 : decode c_V_loseSpoiled 135 = .ok (.aload_n 0, 1) := by decide +kernel
theorem d_V_loseSpoiled_136 : decode c_V_loseSpoiled 136 = .ok (.getfield 18, 3) := by decide +kernel
theorem d_V_loseSpoiled_139 : decode c_V_loseSpoiled 139 = .ok (.getfield 67, 3) := by decide +kernel
theorem d_V_loseSpoiled_142 : decode c_V_loseSpoiled 142 = .ok (.getfield 56, 3) := by decide +kernel
theorem d_V_loseSpoiled_145 : decode c_V_loseSpoiled 145 = .ok (.isub, 1) := by decide +kernel
theorem d_V_loseSpoiled_146 : decode c_V_loseSpoiled 146 = .ok (.istore_n 1, 1) := by decide +kernel
theorem d_V_loseSpoiled_147 : decode c_V_loseSpoiled 147 = .ok (.aload_n 0, 1) := by decide +kernel
theorem d_V_loseSpoiled_148 : decode c_V_loseSpoiled 148 = .ok (.invokevirtual 84, 3) := by decide +kernel
theorem d_V_loseSpoiled_151 : decode c_V_loseSpoiled 151 = .ok (.aload_n 0, 1) := by decide +kernel
theorem d_V_loseSpoiled_152 : decode c_V_loseSpoiled 152 = .ok (.iconst 0, 1) := by decide +kernel
theorem d_V_loseSpoiled_153 : decode c_V_loseSpoiled 153 = .ok (.putfield 45, 3) := by decide +kernel
theorem d_V_loseSpoiled_156 : decode c_V_loseSpoiled 156 = .ok (.iload_n 1, 1) := by decide +kernel
theorem d_V_loseSpoiled_157 : decode c_V_loseSpoiled 157 = .ok (.ireturn, 1) := by decide +kernel
theorem d_L_oldest_0 : decode c_L_oldest 0 = .ok (.aload_n 0, 1) := by decide +kernel
theorem d_L_oldest_1 : decode c_L_oldest 1 = .ok (.getfield 61, 3) := by decide +kernel
theorem d_L_oldest_4 : decode c_L_oldest 4 = .ok (.istore_n 1, 1) := by decide +kernel
theorem d_L_oldest_5 : decode c_L_oldest 5 = .ok (.iconst 0, 1) := by decide +kernel
theorem d_L_oldest_6 : decode c_L_oldest 6 = .ok (.istore_n 2, 1) := by decide +kernel
theorem d_L_oldest_7 : decode c_L_oldest 7 = .ok (.iload_n 2, 1) := by decide +kernel
theorem d_L_oldest_8 : decode c_L_oldest 8 = .ok (.iconst 4, 1) := by decide +kernel
theorem d_L_oldest_9 : decode c_L_oldest 9 = .ok (.if_icmp .ge 30, 3) := by decide +kernel
theorem d_L_oldest_12 : decode c_L_oldest 12 = .ok (.aload_n 0, 1) := by decide +kernel
theorem d_L_oldest_13 : decode c_L_oldest 13 = .ok (.getfield 32, 3) := by decide +kernel
theorem d_L_oldest_16 : decode c_L_oldest 16 = .ok (.iload_n 2, 1) := by decide +kernel
theorem d_L_oldest_17 : decode c_L_oldest 17 = .ok (.iaload, 1) := by decide +kernel
theorem d_L_oldest_18 : decode c_L_oldest 18 = .ok (.iconst (-1), 1) := by decide +kernel
theorem d_L_oldest_19 : decode c_L_oldest 19 = .ok (.if_icmp .eq 14, 3) := by decide +kernel
theorem d_L_oldest_22 : decode c_L_oldest 22 = .ok (.iload_n 1, 1) := by decide +kernel
theorem d_L_oldest_23 : decode c_L_oldest 23 = .ok (.aload_n 0, 1) := by decide +kernel
theorem d_L_oldest_24 : decode c_L_oldest 24 = .ok (.getfield 32, 3) := by decide +kernel
theorem d_L_oldest_27 : decode c_L_oldest 27 = .ok (.iload_n 2, 1) := by decide +kernel
theorem d_L_oldest_28 : decode c_L_oldest 28 = .ok (.iaload, 1) := by decide +kernel
theorem d_L_oldest_29 : decode c_L_oldest 29 = .ok (.invokestatic 199, 3) := by decide +kernel
theorem d_L_oldest_32 : decode c_L_oldest 32 = .ok (.istore_n 1, 1) := by decide +kernel
theorem d_L_oldest_33 : decode c_L_oldest 33 = .ok (.iinc 2 1, 3) := by decide +kernel
theorem d_L_oldest_36 : decode c_L_oldest 36 = .ok (.goto (-29), 3) := by decide +kernel
theorem d_L_oldest_39 : decode c_L_oldest 39 = .ok (.iload_n 1, 1) := by decide +kernel
theorem d_L_oldest_40 : decode c_L_oldest 40 = .ok (.ireturn, 1) := by decide +kernel
theorem d_S_tablesOn_0 : decode c_S_tablesOn 0 = .ok (.iconst 0, 1) := by decide +kernel
theorem d_S_tablesOn_1 : decode c_S_tablesOn 1 = .ok (.istore_n 2, 1) := by decide +kernel
theorem d_S_tablesOn_2 : decode c_S_tablesOn 2 = .ok (.iconst 0, 1) := by decide +kernel
theorem d_S_tablesOn_3 : decode c_S_tablesOn 3 = .ok (.istore_n 3, 1) := by decide +kernel
theorem d_S_tablesOn_4 : decode c_S_tablesOn 4 = .ok (.iload_n 3, 1) := by decide +kernel
theorem d_S_tablesOn_5 : decode c_S_tablesOn 5 = .ok (.aload_n 0, 1) := by decide +kernel
theorem d_S_tablesOn_6 : decode c_S_tablesOn 6 = .ok (.getfield 34, 3) := by decide +kernel
theorem d_S_tablesOn_9 : decode c_S_tablesOn 9 = .ok (.if_icmp .ge 22, 3) := by decide +kernel
theorem d_S_tablesOn_12 : decode c_S_tablesOn 12 = .ok (.aload_n 0, 1) := by decide +kernel
theorem d_S_tablesOn_13 : decode c_S_tablesOn 13 = .ok (.getfield 24, 3) := by decide +kernel
theorem d_S_tablesOn_16 : decode c_S_tablesOn 16 = .ok (.iload_n 3, 1) := by decide +kernel
theorem d_S_tablesOn_17 : decode c_S_tablesOn 17 = .ok (.iaload, 1) := by decide +kernel
theorem d_S_tablesOn_18 : decode c_S_tablesOn 18 = .ok (.iload_n 1, 1) := by decide +kernel
theorem d_S_tablesOn_19 : decode c_S_tablesOn 19 = .ok (.if_icmp .ne 6, 3) := by decide +kernel
theorem d_S_tablesOn_22 : decode c_S_tablesOn 22 = .ok (.iinc 2 1, 3) := by decide +kernel
theorem d_S_tablesOn_25 : decode c_S_tablesOn 25 = .ok (.iinc 3 1, 3) := by decide +kernel
theorem d_S_tablesOn_28 : decode c_S_tablesOn 28 = .ok (.goto (-24), 3) := by decide +kernel
theorem d_S_tablesOn_31 : decode c_S_tablesOn 31 = .ok (.iload_n 2, 1) := by decide +kernel
theorem d_S_tablesOn_32 : decode c_S_tablesOn 32 = .ok (.ireturn, 1) := by decide +kernel
theorem d_V_fullLevel_0 : decode c_V_fullLevel 0 = .ok (.aload_n 0, 1) := by decide +kernel
theorem d_V_fullLevel_1 : decode c_V_fullLevel 1 = .ok (.getfield 12, 3) := by decide +kernel
theorem d_V_fullLevel_4 : decode c_V_fullLevel 4 = .ok (.iconst 0, 1) := by decide +kernel
theorem d_V_fullLevel_5 : decode c_V_fullLevel 5 = .ok (.invokevirtual 49, 3) := by decide +kernel
theorem d_V_fullLevel_8 : decode c_V_fullLevel 8 = .ok (.iconst 4, 1) := by decide +kernel
theorem d_V_fullLevel_9 : decode c_V_fullLevel 9 = .ok (.if_icmp .lt 5, 3) := by decide +kernel
theorem d_V_fullLevel_12 : decode c_V_fullLevel 12 = .ok (.iconst 0, 1) := by decide +kernel
theorem d_V_fullLevel_13 : decode c_V_fullLevel 13 = .ok (.ireturn, 1) := by decide +kernel
theorem d_V_fullLevel_14 : decode c_V_fullLevel 14 = .ok (.iconst 1, 1) := by decide +kernel
theorem d_V_fullLevel_15 : decode c_V_fullLevel 15 = .ok (.istore_n 1, 1) := by decide +kernel
theorem d_V_fullLevel_16 : decode c_V_fullLevel 16 = .ok (.iload_n 1, 1) := by decide +kernel
theorem d_V_fullLevel_17 : decode c_V_fullLevel 17 = .ok (.iconst 3, 1) := by decide +kernel
theorem d_V_fullLevel_18 : decode c_V_fullLevel 18 = .ok (.if_icmp .ge 27, 3) := by decide +kernel
theorem d_V_fullLevel_21 : decode c_V_fullLevel 21 = .ok (.aload_n 0, 1) := by decide +kernel
theorem d_V_fullLevel_22 : decode c_V_fullLevel 22 = .ok (.getfield 12, 3) := by decide +kernel
theorem d_V_fullLevel_25 : decode c_V_fullLevel 25 = .ok (.iload_n 1, 1) := by decide +kernel
theorem d_V_fullLevel_26 : decode c_V_fullLevel 26 = .ok (.invokevirtual 49, 3) := by decide +kernel
theorem d_V_fullLevel_29 : decode c_V_fullLevel 29 = .ok (.iconst 2, 1) := by decide +kernel
theorem d_V_fullLevel_30 : decode c_V_fullLevel 30 = .ok (.iload_n 1, 1) := by decide +kernel
theorem d_V_fullLevel_31 : decode c_V_fullLevel 31 = .ok (.imul, 1) := by decide +kernel
theorem d_V_fullLevel_32 : decode c_V_fullLevel 32 = .ok (.iconst 1, 1) := by decide +kernel
theorem d_V_fullLevel_33 : decode c_V_fullLevel 33 = .ok (.iadd, 1) := by decide +kernel
theorem d_V_fullLevel_34 : decode c_V_fullLevel 34 = .ok (.if_icmp .le 5, 3) := by decide +kernel
theorem d_V_fullLevel_37 : decode c_V_fullLevel 37 = .ok (.iload_n 1, 1) := by decide +kernel
theorem d_V_fullLevel_38 : decode c_V_fullLevel 38 = .ok (.ireturn, 1) := by decide +kernel
theorem d_V_fullLevel_39 : decode c_V_fullLevel 39 = .ok (.iinc 1 1, 3) := by decide +kernel
theorem d_V_fullLevel_42 : decode c_V_fullLevel 42 = .ok (.goto (-26), 3) := by decide +kernel
theorem d_V_fullLevel_45 : decode c_V_fullLevel 45 = .ok (.iconst (-1), 1) := by decide +kernel
theorem d_V_fullLevel_46 : decode c_V_fullLevel 46 = .ok (.ireturn, 1) := by decide +kernel
theorem d_S_leastKey_0 : decode c_S_leastKey 0 = .ok (.aload_n 0, 1) := by decide +kernel
theorem d_S_leastKey_1 : decode c_S_leastKey 1 = .ok (.getfield 14, 3) := by decide +kernel
theorem d_S_leastKey_4 : decode c_S_leastKey 4 = .ok (.getfield 45, 3) := by decide +kernel
theorem d_S_leastKey_7 : decode c_S_leastKey 7 = .ok (.aload_n 0, 1) := by decide +kernel
theorem d_S_leastKey_8 : decode c_S_leastKey 8 = .ok (.getfield 27, 3) := by decide +kernel
theorem d_S_leastKey_11 : decode c_S_leastKey 11 = .ok (.iload_n 1, 1) := by decide +kernel
theorem d_S_leastKey_12 : decode c_S_leastKey 12 = .ok (.iaload, 1) := by decide +kernel
theorem d_S_leastKey_13 : decode c_S_leastKey 13 = .ok (.iaload, 1) := by decide +kernel
theorem d_S_leastKey_14 : decode c_S_leastKey 14 = .ok (.ireturn, 1) := by decide +kernel
theorem d_S_firstAbove_0 : decode c_S_firstAbove 0 = .ok (.iconst (-1), 1) := by decide +kernel
theorem d_S_firstAbove_1 : decode c_S_firstAbove 1 = .ok (.istore_n 3, 1) := by decide +kernel
theorem d_S_firstAbove_2 : decode c_S_firstAbove 2 = .ok (.iconst 0, 1) := by decide +kernel
theorem d_S_firstAbove_3 : decode c_S_firstAbove 3 = .ok (.istore 4, 2) := by decide +kernel
theorem d_S_firstAbove_5 : decode c_S_firstAbove 5 = .ok (.iload 4, 2) := by decide +kernel
theorem d_S_firstAbove_7 : decode c_S_firstAbove 7 = .ok (.aload_n 0, 1) := by decide +kernel
theorem d_S_firstAbove_8 : decode c_S_firstAbove 8 = .ok (.getfield 34, 3) := by decide +kernel
theorem d_S_firstAbove_11 : decode c_S_firstAbove 11 = .ok (.if_icmp .ge 45, 3) := by decide +kernel
theorem d_S_firstAbove_14 : decode c_S_firstAbove 14 = .ok (.aload_n 0, 1) := by decide +kernel
theorem d_S_firstAbove_15 : decode c_S_firstAbove 15 = .ok (.getfield 24, 3) := by decide +kernel
theorem d_S_firstAbove_18 : decode c_S_firstAbove 18 = .ok (.iload 4, 2) := by decide +kernel
theorem d_S_firstAbove_20 : decode c_S_firstAbove 20 = .ok (.iaload, 1) := by decide +kernel
theorem d_S_firstAbove_21 : decode c_S_firstAbove 21 = .ok (.iload_n 1, 1) := by decide +kernel
theorem d_S_firstAbove_22 : decode c_S_firstAbove 22 = .ok (.if_icmp .ne 28, 3) := by decide +kernel
theorem d_S_firstAbove_25 : decode c_S_firstAbove 25 = .ok (.aload_n 0, 1) := by decide +kernel
theorem d_S_firstAbove_26 : decode c_S_firstAbove 26 = .ok (.iload 4, 2) := by decide +kernel
theorem d_S_firstAbove_28 : decode c_S_firstAbove 28 = .ok (.invokevirtual 48, 3) := by decide +kernel
theorem d_S_firstAbove_31 : decode c_S_firstAbove 31 = .ok (.iload_n 2, 1) := by decide +kernel
theorem d_S_firstAbove_32 : decode c_S_firstAbove 32 = .ok (.if_icmp .le 6, 3) := by decide +kernel
theorem d_S_firstAbove_35 : decode c_S_firstAbove 35 = .ok (.iload 4, 2) := by decide +kernel
theorem d_S_firstAbove_37 : decode c_S_firstAbove 37 = .ok (.ireturn, 1) := by decide +kernel
theorem d_S_firstAbove_38 : decode c_S_firstAbove 38 = .ok (.iload_n 3, 1) := by decide +kernel
theorem d_S_firstAbove_39 : decode c_S_firstAbove 39 = .ok (.iconst (-1), 1) := by decide +kernel
theorem d_S_firstAbove_40 : decode c_S_firstAbove 40 = .ok (.if_icmp .ne 8, 3) := by decide +kernel
theorem d_S_firstAbove_43 : decode c_S_firstAbove 43 = .ok (.iload 4, 2) := by decide +kernel
theorem d_S_firstAbove_45 : decode c_S_firstAbove 45 = .ok (.goto 4, 3) := by decide +kernel
theorem d_S_firstAbove_48 : decode c_S_firstAbove 48 = .ok (.iload_n 3, 1) := by decide +kernel
theorem d_S_firstAbove_49 : decode c_S_firstAbove 49 = .ok (.istore_n 3, 1) := by decide +kernel
theorem d_S_firstAbove_50 : decode c_S_firstAbove 50 = .ok (.iinc 4 1, 3) := by decide +kernel
theorem d_S_firstAbove_53 : decode c_S_firstAbove 53 = .ok (.goto (-48), 3) := by decide +kernel
theorem d_S_firstAbove_56 : decode c_S_firstAbove 56 = .ok (.iload_n 3, 1) := by decide +kernel
theorem d_S_firstAbove_57 : decode c_S_firstAbove 57 = .ok (.ireturn, 1) := by decide +kernel
theorem d_S_greatestKey_0 : decode c_S_greatestKey 0 = .ok (.aload_n 0, 1) := by decide +kernel
theorem d_S_greatestKey_1 : decode c_S_greatestKey 1 = .ok (.getfield 14, 3) := by decide +kernel
theorem d_S_greatestKey_4 : decode c_S_greatestKey 4 = .ok (.getfield 45, 3) := by decide +kernel
theorem d_S_greatestKey_7 : decode c_S_greatestKey 7 = .ok (.aload_n 0, 1) := by decide +kernel
theorem d_S_greatestKey_8 : decode c_S_greatestKey 8 = .ok (.getfield 27, 3) := by decide +kernel
theorem d_S_greatestKey_11 : decode c_S_greatestKey 11 = .ok (.iload_n 1, 1) := by decide +kernel
theorem d_S_greatestKey_12 : decode c_S_greatestKey 12 = .ok (.iconst 1, 1) := by decide +kernel
theorem d_S_greatestKey_13 : decode c_S_greatestKey 13 = .ok (.iadd, 1) := by decide +kernel
theorem d_S_greatestKey_14 : decode c_S_greatestKey 14 = .ok (.iaload, 1) := by decide +kernel
theorem d_S_greatestKey_15 : decode c_S_greatestKey 15 = .ok (.iconst 1, 1) := by decide +kernel
theorem d_S_greatestKey_16 : decode c_S_greatestKey 16 = .ok (.isub, 1) := by decide +kernel
theorem d_S_greatestKey_17 : decode c_S_greatestKey 17 = .ok (.iaload, 1) := by decide +kernel
theorem d_S_greatestKey_18 : decode c_S_greatestKey 18 = .ok (.ireturn, 1) := by decide +kernel
theorem d_S_meets_0 : decode c_S_meets 0 = .ok (.aload_n 0, 1) := by decide +kernel
theorem d_S_meets_1 : decode c_S_meets 1 = .ok (.iload_n 1, 1) := by decide +kernel
theorem d_S_meets_2 : decode c_S_meets 2 = .ok (.invokevirtual 48, 3) := by decide +kernel
theorem d_S_meets_5 : decode c_S_meets 5 = .ok (.iload_n 3, 1) := by decide +kernel
theorem d_S_meets_6 : decode c_S_meets 6 = .ok (.if_icmp .gt 16, 3) := by decide +kernel
theorem d_S_meets_9 : decode c_S_meets 9 = .ok (.aload_n 0, 1) := by decide +kernel
theorem d_S_meets_10 : decode c_S_meets 10 = .ok (.iload_n 1, 1) := by decide +kernel
theorem d_S_meets_11 : decode c_S_meets 11 = .ok (.invokevirtual 52, 3) := by decide +kernel
theorem d_S_meets_14 : decode c_S_meets 14 = .ok (.iload_n 2, 1) := by decide +kernel
theorem d_S_meets_15 : decode c_S_meets 15 = .ok (.if_icmp .lt 7, 3) := by decide +kernel
theorem d_S_meets_18 : decode c_S_meets 18 = .ok (.iconst 1, 1) := by decide +kernel
theorem d_S_meets_19 : decode c_S_meets 19 = .ok (.goto 4, 3) := by decide +kernel
theorem d_S_meets_22 : decode c_S_meets 22 = .ok (.iconst 0, 1) := by decide +kernel
theorem d_S_meets_23 : decode c_S_meets 23 = .ok (.ireturn, 1) := by decide +kernel
theorem d_S_spoiledBlocksOf_0 : decode c_S_spoiledBlocksOf 0 = .ok (.iconst 0, 1) := by decide +kernel
theorem d_S_spoiledBlocksOf_1 : decode c_S_spoiledBlocksOf 1 = .ok (.istore_n 2, 1) := by decide +kernel
theorem d_S_spoiledBlocksOf_2 : decode c_S_spoiledBlocksOf 2 = .ok (.aload_n 0, 1) := by decide +kernel
theorem d_S_spoiledBlocksOf_3 : decode c_S_spoiledBlocksOf 3 = .ok (.getfield 27, 3) := by decide +kernel
theorem d_S_spoiledBlocksOf_6 : decode c_S_spoiledBlocksOf 6 = .ok (.iload_n 1, 1) := by decide +kernel
theorem d_S_spoiledBlocksOf_7 : decode c_S_spoiledBlocksOf 7 = .ok (.iaload, 1) := by decide +kernel
theorem d_S_spoiledBlocksOf_8 : decode c_S_spoiledBlocksOf 8 = .ok (.istore_n 3, 1) := by decide +kernel
theorem d_S_spoiledBlocksOf_9 : decode c_S_spoiledBlocksOf 9 = .ok (.iload_n 3, 1) := by decide +kernel
theorem d_S_spoiledBlocksOf_10 : decode c_S_spoiledBlocksOf 10 = .ok (.aload_n 0, 1) := by decide +kernel
theorem d_S_spoiledBlocksOf_11 : decode c_S_spoiledBlocksOf 11 = .ok (.getfield 27, 3) := by decide +kernel
theorem d_S_spoiledBlocksOf_14 : decode c_S_spoiledBlocksOf 14 = .ok (.iload_n 1, 1) := by decide +kernel
theorem d_S_spoiledBlocksOf_15 : decode c_S_spoiledBlocksOf 15 = .ok (.iconst 1, 1) := by decide +kernel
theorem d_S_spoiledBlocksOf_16 : decode c_S_spoiledBlocksOf 16 = .ok (.iadd, 1) := by decide +kernel
theorem d_S_spoiledBlocksOf_17 : decode c_S_spoiledBlocksOf 17 = .ok (.iaload, 1) := by decide +kernel
theorem d_S_spoiledBlocksOf_18 : decode c_S_spoiledBlocksOf 18 = .ok (.if_icmp .ge 24, 3) := by decide +kernel
theorem d_S_spoiledBlocksOf_21 : decode c_S_spoiledBlocksOf 21 = .ok (.aload_n 0, 1) := by decide +kernel
theorem d_S_spoiledBlocksOf_22 : decode c_S_spoiledBlocksOf 22 = .ok (.getfield 14, 3) := by decide +kernel
theorem d_S_spoiledBlocksOf_25 : decode c_S_spoiledBlocksOf 25 = .ok (.getfield 59, 3) := by decide +kernel
theorem d_S_spoiledBlocksOf_28 : decode c_S_spoiledBlocksOf 28 = .ok (.iload_n 3, 1) := by decide +kernel
theorem d_S_spoiledBlocksOf_29 : decode c_S_spoiledBlocksOf 29 = .ok (.baload, 1) := by decide +kernel
theorem d_S_spoiledBlocksOf_30 : decode c_S_spoiledBlocksOf 30 = .ok (.ifCond .eq 6, 3) := by decide +kernel
theorem d_S_spoiledBlocksOf_33 : decode c_S_spoiledBlocksOf 33 = .ok (.iinc 2 1, 3) := by decide +kernel
theorem d_S_spoiledBlocksOf_36 : decode c_S_spoiledBlocksOf 36 = .ok (.iinc 3 4, 3) := by decide +kernel
theorem d_S_spoiledBlocksOf_39 : decode c_S_spoiledBlocksOf 39 = .ok (.goto (-30), 3) := by decide +kernel
theorem d_S_spoiledBlocksOf_42 : decode c_S_spoiledBlocksOf 42 = .ok (.iload_n 2, 1) := by decide +kernel
theorem d_S_spoiledBlocksOf_43 : decode c_S_spoiledBlocksOf 43 = .ok (.ireturn, 1) := by decide +kernel
theorem d_O_addSorted_0 : decode c_O_addSorted 0 = .ok (.aload_n 0, 1) := by decide +kernel
theorem d_O_addSorted_1 : decode c_O_addSorted 1 = .ok (.getfield 20, 3) := by decide +kernel
theorem d_O_addSorted_4 : decode c_O_addSorted 4 = .ok (.iconst 0, 1) := by decide +kernel
theorem d_O_addSorted_5 : decode c_O_addSorted 5 = .ok (.invokestatic 27, 3) := by decide +kernel
theorem d_O_addSorted_8 : decode c_O_addSorted 8 = .ok (.iconst 0, 1) := by decide +kernel
theorem d_O_addSorted_9 : decode c_O_addSorted 9 = .ok (.istore_n 2, 1) := by decide +kernel
theorem d_O_addSorted_10 : decode c_O_addSorted 10 = .ok (.iload_n 2, 1) := by decide +kernel
theorem d_O_addSorted_11 : decode c_O_addSorted 11 = .ok (.aload_n 0, 1) := by decide +kernel
theorem d_O_addSorted_12 : decode c_O_addSorted 12 = .ok (.getfield 14, 3) := by decide +kernel
theorem d_O_addSorted_15 : decode c_O_addSorted 15 = .ok (.getfield 33, 3) := by decide +kernel
theorem d_O_addSorted_18 : decode c_O_addSorted 18 = .ok (.if_icmp .ge 29, 3) := by decide +kernel
theorem d_O_addSorted_21 : decode c_O_addSorted 21 = .ok (.aload_n 0, 1) := by decide +kernel
theorem d_O_addSorted_22 : decode c_O_addSorted 22 = .ok (.getfield 20, 3) := by decide +kernel
theorem d_O_addSorted_25 : decode c_O_addSorted 25 = .ok (.aload_n 0, 1) := by decide +kernel
theorem d_O_addSorted_26 : decode c_O_addSorted 26 = .ok (.getfield 14, 3) := by decide +kernel
theorem d_O_addSorted_29 : decode c_O_addSorted 29 = .ok (.getfield 37, 3) := by decide +kernel
theorem d_O_addSorted_32 : decode c_O_addSorted 32 = .ok (.iload_n 2, 1) := by decide +kernel
theorem d_O_addSorted_33 : decode c_O_addSorted 33 = .ok (.iaload, 1) := by decide +kernel
theorem d_O_addSorted_34 : decode c_O_addSorted 34 = .ok (.iconst 1, 1) := by decide +kernel
theorem d_O_addSorted_35 : decode c_O_addSorted 35 = .ok (.iadd, 1) := by decide +kernel
theorem d_O_addSorted_36 : decode c_O_addSorted 36 = .ok (.dup2, 1) := by decide +kernel
theorem d_O_addSorted_37 : decode c_O_addSorted 37 = .ok (.iaload, 1) := by decide +kernel
theorem d_O_addSorted_38 : decode c_O_addSorted 38 = .ok (.iconst 1, 1) := by decide +kernel
theorem d_O_addSorted_39 : decode c_O_addSorted 39 = .ok (.iadd, 1) := by decide +kernel
theorem d_O_addSorted_40 : decode c_O_addSorted 40 = .ok (.iastore, 1) := by decide +kernel
theorem d_O_addSorted_41 : decode c_O_addSorted 41 = .ok (.iinc 2 1, 3) := by decide +kernel
theorem d_O_addSorted_44 : decode c_O_addSorted 44 = .ok (.goto (-34), 3) := by decide +kernel
theorem d_O_addSorted_47 : decode c_O_addSorted 47 = .ok (.iconst 0, 1) := by decide +kernel
theorem d_O_addSorted_48 : decode c_O_addSorted 48 = .ok (.istore_n 2, 1) := by decide +kernel
theorem d_O_addSorted_49 : decode c_O_addSorted 49 = .ok (.iload_n 2, 1) := by decide +kernel
theorem d_O_addSorted_50 : decode c_O_addSorted 50 = .ok (.bipush 64, 2) := by decide +kernel
theorem d_O_addSorted_52 : decode c_O_addSorted 52 = .ok (.if_icmp .ge 26, 3) := by decide +kernel
theorem d_O_addSorted_55 : decode c_O_addSorted 55 = .ok (.aload_n 0, 1) := by decide +kernel
theorem d_O_addSorted_56 : decode c_O_addSorted 56 = .ok (.getfield 20, 3) := by decide +kernel
theorem d_O_addSorted_59 : decode c_O_addSorted 59 = .ok (.iload_n 2, 1) := by decide +kernel
theorem d_O_addSorted_60 : decode c_O_addSorted 60 = .ok (.iconst 1, 1) := by decide +kernel
theorem d_O_addSorted_61 : decode c_O_addSorted 61 = .ok (.iadd, 1) := by decide +kernel
theorem d_O_addSorted_62 : decode c_O_addSorted 62 = .ok (.dup2, 1) := by decide +kernel
theorem d_O_addSorted_63 : decode c_O_addSorted 63 = .ok (.iaload, 1) := by decide +kernel
theorem d_O_addSorted_64 : decode c_O_addSorted 64 = .ok (.aload_n 0, 1) := by decide +kernel
theorem d_O_addSorted_65 : decode c_O_addSorted 65 = .ok (.getfield 20, 3) := by decide +kernel
theorem d_O_addSorted_68 : decode c_O_addSorted 68 = .ok (.iload_n 2, 1) := by decide +kernel
theorem d_O_addSorted_69 : decode c_O_addSorted 69 = .ok (.iaload, 1) := by decide +kernel
theorem d_O_addSorted_70 : decode c_O_addSorted 70 = .ok (.iadd, 1) := by decide +kernel
theorem d_O_addSorted_71 : decode c_O_addSorted 71 = .ok (.iastore, 1) := by decide +kernel
theorem d_O_addSorted_72 : decode c_O_addSorted 72 = .ok (.iinc 2 1, 3) := by decide +kernel
theorem d_O_addSorted_75 : decode c_O_addSorted 75 = .ok (.goto (-26), 3) := by decide +kernel
theorem d_O_addSorted_78 : decode c_O_addSorted 78 = .ok (.iconst 0, 1) := by decide +kernel
theorem d_O_addSorted_79 : decode c_O_addSorted 79 = .ok (.istore_n 2, 1) := by decide +kernel
theorem d_O_addSorted_80 : decode c_O_addSorted 80 = .ok (.iload_n 2, 1) := by decide +kernel
theorem d_O_addSorted_81 : decode c_O_addSorted 81 = .ok (.aload_n 0, 1) := by decide +kernel
theorem d_O_addSorted_82 : decode c_O_addSorted 82 = .ok (.getfield 14, 3) := by decide +kernel
theorem d_O_addSorted_85 : decode c_O_addSorted 85 = .ok (.getfield 33, 3) := by decide +kernel
theorem d_O_addSorted_88 : decode c_O_addSorted 88 = .ok (.if_icmp .ge 41, 3) := by decide +kernel
theorem d_O_addSorted_91 : decode c_O_addSorted 91 = .ok (.aload_n 0, 1) := by decide +kernel
theorem d_O_addSorted_92 : decode c_O_addSorted 92 = .ok (.getfield 14, 3) := by decide +kernel
theorem d_O_addSorted_95 : decode c_O_addSorted 95 = .ok (.getfield 37, 3) := by decide +kernel
theorem d_O_addSorted_98 : decode c_O_addSorted 98 = .ok (.iload_n 2, 1) := by decide +kernel
theorem d_O_addSorted_99 : decode c_O_addSorted 99 = .ok (.iaload, 1) := by decide +kernel
theorem d_O_addSorted_100 : decode c_O_addSorted 100 = .ok (.istore_n 3, 1) := by decide +kernel
theorem d_O_addSorted_101 : decode c_O_addSorted 101 = .ok (.aload_n 0, 1) := by decide +kernel
theorem d_O_addSorted_102 : decode c_O_addSorted 102 = .ok (.getfield 24, 3) := by decide +kernel
theorem d_O_addSorted_105 : decode c_O_addSorted 105 = .ok (.aload_n 0, 1) := by decide +kernel
theorem d_O_addSorted_106 : decode c_O_addSorted 106 = .ok (.getfield 20, 3) := by decide +kernel
theorem d_O_addSorted_109 : decode c_O_addSorted 109 = .ok (.iload_n 3, 1) := by decide +kernel
theorem d_O_addSorted_110 : decode c_O_addSorted 110 = .ok (.iaload, 1) := by decide +kernel
theorem d_O_addSorted_111 : decode c_O_addSorted 111 = .ok (.iload_n 2, 1) := by decide +kernel
theorem d_O_addSorted_112 : decode c_O_addSorted 112 = .ok (.iastore, 1) := by decide +kernel
theorem d_O_addSorted_113 : decode c_O_addSorted 113 = .ok (.aload_n 0, 1) := by decide +kernel
theorem d_O_addSorted_114 : decode c_O_addSorted 114 = .ok (.getfield 20, 3) := by decide +kernel
theorem d_O_addSorted_117 : decode c_O_addSorted 117 = .ok (.iload_n 3, 1) := by decide +kernel
theorem d_O_addSorted_118 : decode c_O_addSorted 118 = .ok (.dup2, 1) := by decide +kernel
theorem d_O_addSorted_119 : decode c_O_addSorted 119 = .ok (.iaload, 1) := by decide +kernel
theorem d_O_addSorted_120 : decode c_O_addSorted 120 = .ok (.iconst 1, 1) := by decide +kernel
end
section
/-! DECODED INSTRUCTIONS -/
theorem d_O_addSorted_121 : decode c_O_addSorted 121 = .ok (.iadd, 1) := by decide +kernel
theorem d_O_addSorted_122 : decode c_O_addSorted 122 = .ok (.iastore, 1) := by decide +kernel
theorem d_O_addSorted_123 : decode c_O_addSorted 123 = .ok (.iinc 2 1, 3) := by decide +kernel
theorem d_O_addSorted_126 : decode c_O_addSorted 126 = .ok (.goto (-46), 3) := by decide +kernel
theorem d_O_addSorted_129 : decode c_O_addSorted 129 = .ok (.iconst 0, 1) := by decide +kernel
theorem d_O_addSorted_130 : decode c_O_addSorted 130 = .ok (.istore_n 2, 1) := by decide +kernel
theorem d_O_addSorted_131 : decode c_O_addSorted 131 = .ok (.iload_n 2, 1) := by decide +kernel
theorem d_O_addSorted_132 : decode c_O_addSorted 132 = .ok (.aload_n 0, 1) := by decide +kernel
theorem d_O_addSorted_133 : decode c_O_addSorted 133 = .ok (.getfield 14, 3) := by decide +kernel
theorem d_O_addSorted_136 : decode c_O_addSorted 136 = .ok (.getfield 33, 3) := by decide +kernel
theorem d_O_addSorted_139 : decode c_O_addSorted 139 = .ok (.if_icmp .ge 23, 3) := by decide +kernel
theorem d_O_addSorted_142 : decode c_O_addSorted 142 = .ok (.aload_n 1, 1) := by decide +kernel
theorem d_O_addSorted_143 : decode c_O_addSorted 143 = .ok (.aload_n 0, 1) := by decide +kernel
theorem d_O_addSorted_144 : decode c_O_addSorted 144 = .ok (.getfield 14, 3) := by decide +kernel
theorem d_O_addSorted_147 : decode c_O_addSorted 147 = .ok (.aload_n 0, 1) := by decide +kernel
theorem d_O_addSorted_148 : decode c_O_addSorted 148 = .ok (.getfield 24, 3) := by decide +kernel
theorem d_O_addSorted_151 : decode c_O_addSorted 151 = .ok (.iload_n 2, 1) := by decide +kernel
theorem d_O_addSorted_152 : decode c_O_addSorted 152 = .ok (.iaload, 1) := by decide +kernel
theorem d_O_addSorted_153 : decode c_O_addSorted 153 = .ok (.invokevirtual 40, 3) := by decide +kernel
theorem d_O_addSorted_156 : decode c_O_addSorted 156 = .ok (.iinc 2 1, 3) := by decide +kernel
theorem d_O_addSorted_159 : decode c_O_addSorted 159 = .ok (.goto (-28), 3) := by decide +kernel
theorem d_O_addSorted_162 : decode c_O_addSorted 162 = .ok (.return_, 1) := by decide +kernel
theorem d_V_sortJoining_0 : decode c_V_sortJoining 0 = .ok (.aload_n 0, 1) := by decide +kernel
theorem d_V_sortJoining_1 : decode c_V_sortJoining 1 = .ok (.getfield 24, 3) := by decide +kernel
theorem d_V_sortJoining_4 : decode c_V_sortJoining 4 = .ok (.getfield 53, 3) := by decide +kernel
theorem d_V_sortJoining_7 : decode c_V_sortJoining 7 = .ok (.iconst 0, 1) := by decide +kernel
theorem d_V_sortJoining_8 : decode c_V_sortJoining 8 = .ok (.putfield 56, 3) := by decide +kernel
theorem d_V_sortJoining_11 : decode c_V_sortJoining 11 = .ok (.iconst 0, 1) := by decide +kernel
theorem d_V_sortJoining_12 : decode c_V_sortJoining 12 = .ok (.istore_n 1, 1) := by decide +kernel
theorem d_V_sortJoining_13 : decode c_V_sortJoining 13 = .ok (.iload_n 1, 1) := by decide +kernel
theorem d_V_sortJoining_14 : decode c_V_sortJoining 14 = .ok (.aload_n 0, 1) := by decide +kernel
theorem d_V_sortJoining_15 : decode c_V_sortJoining 15 = .ok (.getfield 12, 3) := by decide +kernel
theorem d_V_sortJoining_18 : decode c_V_sortJoining 18 = .ok (.getfield 77, 3) := by decide +kernel
theorem d_V_sortJoining_21 : decode c_V_sortJoining 21 = .ok (.if_icmp .ge 67, 3) := by decide +kernel
theorem d_V_sortJoining_24 : decode c_V_sortJoining 24 = .ok (.aload_n 0, 1) := by decide +kernel
theorem d_V_sortJoining_25 : decode c_V_sortJoining 25 = .ok (.getfield 12, 3) := by decide +kernel
theorem d_V_sortJoining_28 : decode c_V_sortJoining 28 = .ok (.getfield 87, 3) := by decide +kernel
theorem d_V_sortJoining_31 : decode c_V_sortJoining 31 = .ok (.iload_n 1, 1) := by decide +kernel
theorem d_V_sortJoining_32 : decode c_V_sortJoining 32 = .ok (.iaload, 1) := by decide +kernel
theorem d_V_sortJoining_33 : decode c_V_sortJoining 33 = .ok (.istore_n 2, 1) := by decide +kernel
theorem d_V_sortJoining_34 : decode c_V_sortJoining 34 = .ok (.aload_n 0, 1) := by decide +kernel
theorem d_V_sortJoining_35 : decode c_V_sortJoining 35 = .ok (.getfield 37, 3) := by decide +kernel
theorem d_V_sortJoining_38 : decode c_V_sortJoining 38 = .ok (.iload_n 1, 1) := by decide +kernel
theorem d_V_sortJoining_39 : decode c_V_sortJoining 39 = .ok (.baload, 1) := by decide +kernel
theorem d_V_sortJoining_40 : decode c_V_sortJoining 40 = .ok (.ifCond .eq 42, 3) := by decide +kernel
theorem d_V_sortJoining_43 : decode c_V_sortJoining 43 = .ok (.iload_n 2, 1) := by decide +kernel
theorem d_V_sortJoining_44 : decode c_V_sortJoining 44 = .ok (.aload_n 0, 1) := by decide +kernel
theorem d_V_sortJoining_45 : decode c_V_sortJoining 45 = .ok (.getfield 12, 3) := by decide +kernel
theorem d_V_sortJoining_48 : decode c_V_sortJoining 48 = .ok (.getfield 87, 3) := by decide +kernel
theorem d_V_sortJoining_51 : decode c_V_sortJoining 51 = .ok (.iload_n 1, 1) := by decide +kernel
theorem d_V_sortJoining_52 : decode c_V_sortJoining 52 = .ok (.iconst 1, 1) := by decide +kernel
theorem d_V_sortJoining_53 : decode c_V_sortJoining 53 = .ok (.iadd, 1) := by decide +kernel
theorem d_V_sortJoining_54 : decode c_V_sortJoining 54 = .ok (.iaload, 1) := by decide +kernel
theorem d_V_sortJoining_55 : decode c_V_sortJoining 55 = .ok (.if_icmp .ge 27, 3) := by decide +kernel
theorem d_V_sortJoining_58 : decode c_V_sortJoining 58 = .ok (.aload_n 0, 1) := by decide +kernel
theorem d_V_sortJoining_59 : decode c_V_sortJoining 59 = .ok (.getfield 24, 3) := by decide +kernel
theorem d_V_sortJoining_62 : decode c_V_sortJoining 62 = .ok (.getfield 53, 3) := by decide +kernel
theorem d_V_sortJoining_65 : decode c_V_sortJoining 65 = .ok (.aload_n 0, 1) := by decide +kernel
theorem d_V_sortJoining_66 : decode c_V_sortJoining 66 = .ok (.getfield 12, 3) := by decide +kernel
theorem d_V_sortJoining_69 : decode c_V_sortJoining 69 = .ok (.getfield 67, 3) := by decide +kernel
theorem d_V_sortJoining_72 : decode c_V_sortJoining 72 = .ok (.iload_n 2, 1) := by decide +kernel
theorem d_V_sortJoining_73 : decode c_V_sortJoining 73 = .ok (.invokevirtual 60, 3) := by decide +kernel
theorem d_V_sortJoining_76 : decode c_V_sortJoining 76 = .ok (.iinc 2 1, 3) := by decide +kernel
theorem d_V_sortJoining_79 : decode c_V_sortJoining 79 = .ok (.goto (-45), 3) := by decide +kernel
theorem d_V_sortJoining_82 : decode c_V_sortJoining 82 = .ok (.iinc 1 1, 3) := by decide +kernel
theorem d_V_sortJoining_85 : decode c_V_sortJoining 85 = .ok (.goto (-72), 3) := by decide +kernel
theorem d_V_sortJoining_88 : decode c_V_sortJoining 88 = .ok (.aload_n 0, 1) := by decide +kernel
theorem d_V_sortJoining_89 : decode c_V_sortJoining 89 = .ok (.getfield 33, 3) := by decide +kernel
theorem d_V_sortJoining_92 : decode c_V_sortJoining 92 = .ok (.iconst 0, 1) := by decide +kernel
theorem d_V_sortJoining_93 : decode c_V_sortJoining 93 = .ok (.putfield 56, 3) := by decide +kernel
theorem d_V_sortJoining_96 : decode c_V_sortJoining 96 = .ok (.aload_n 0, 1) := by decide +kernel
theorem d_V_sortJoining_97 : decode c_V_sortJoining 97 = .ok (.getfield 24, 3) := by decide +kernel
theorem d_V_sortJoining_100 : decode c_V_sortJoining 100 = .ok (.aload_n 0, 1) := by decide +kernel
theorem d_V_sortJoining_101 : decode c_V_sortJoining 101 = .ok (.getfield 33, 3) := by decide +kernel
theorem d_V_sortJoining_104 : decode c_V_sortJoining 104 = .ok (.invokevirtual 70, 3) := by decide +kernel
theorem d_V_sortJoining_107 : decode c_V_sortJoining 107 = .ok (.return_, 1) := by decide +kernel
theorem d_S_placeBehind_0 : decode c_S_placeBehind 0 = .ok (.iconst 0, 1) := by decide +kernel
theorem d_S_placeBehind_1 : decode c_S_placeBehind 1 = .ok (.istore_n 3, 1) := by decide +kernel
theorem d_S_placeBehind_2 : decode c_S_placeBehind 2 = .ok (.iload_n 3, 1) := by decide +kernel
theorem d_S_placeBehind_3 : decode c_S_placeBehind 3 = .ok (.aload_n 0, 1) := by decide +kernel
theorem d_S_placeBehind_4 : decode c_S_placeBehind 4 = .ok (.getfield 34, 3) := by decide +kernel
theorem d_S_placeBehind_7 : decode c_S_placeBehind 7 = .ok (.if_icmp .ge 38, 3) := by decide +kernel
theorem d_S_placeBehind_10 : decode c_S_placeBehind 10 = .ok (.aload_n 0, 1) := by decide +kernel
theorem d_S_placeBehind_11 : decode c_S_placeBehind 11 = .ok (.getfield 24, 3) := by decide +kernel
theorem d_S_placeBehind_14 : decode c_S_placeBehind 14 = .ok (.iload_n 3, 1) := by decide +kernel
theorem d_S_placeBehind_15 : decode c_S_placeBehind 15 = .ok (.iaload, 1) := by decide +kernel
theorem d_S_placeBehind_16 : decode c_S_placeBehind 16 = .ok (.iload_n 1, 1) := by decide +kernel
theorem d_S_placeBehind_17 : decode c_S_placeBehind 17 = .ok (.if_icmp .lt 22, 3) := by decide +kernel
theorem d_S_placeBehind_20 : decode c_S_placeBehind 20 = .ok (.aload_n 0, 1) := by decide +kernel
theorem d_S_placeBehind_21 : decode c_S_placeBehind 21 = .ok (.getfield 24, 3) := by decide +kernel
theorem d_S_placeBehind_24 : decode c_S_placeBehind 24 = .ok (.iload_n 3, 1) := by decide +kernel
theorem d_S_placeBehind_25 : decode c_S_placeBehind 25 = .ok (.iaload, 1) := by decide +kernel
theorem d_S_placeBehind_26 : decode c_S_placeBehind 26 = .ok (.iload_n 1, 1) := by decide +kernel
theorem d_S_placeBehind_27 : decode c_S_placeBehind 27 = .ok (.if_icmp .ne 18, 3) := by decide +kernel
theorem d_S_placeBehind_30 : decode c_S_placeBehind 30 = .ok (.aload_n 0, 1) := by decide +kernel
theorem d_S_placeBehind_31 : decode c_S_placeBehind 31 = .ok (.iload_n 3, 1) := by decide +kernel
theorem d_S_placeBehind_32 : decode c_S_placeBehind 32 = .ok (.invokevirtual 48, 3) := by decide +kernel
theorem d_S_placeBehind_35 : decode c_S_placeBehind 35 = .ok (.iload_n 2, 1) := by decide +kernel
theorem d_S_placeBehind_36 : decode c_S_placeBehind 36 = .ok (.if_icmp .gt 9, 3) := by decide +kernel
theorem d_S_placeBehind_39 : decode c_S_placeBehind 39 = .ok (.iinc 3 1, 3) := by decide +kernel
theorem d_S_placeBehind_42 : decode c_S_placeBehind 42 = .ok (.goto (-40), 3) := by decide +kernel
theorem d_S_placeBehind_45 : decode c_S_placeBehind 45 = .ok (.iload_n 3, 1) := by decide +kernel
theorem d_S_placeBehind_46 : decode c_S_placeBehind 46 = .ok (.ireturn, 1) := by decide +kernel
theorem d_S_addTable_0 : decode c_S_addTable 0 = .ok (.aload_n 1, 1) := by decide +kernel
theorem d_S_addTable_1 : decode c_S_addTable 1 = .ok (.getfield 27, 3) := by decide +kernel
theorem d_S_addTable_4 : decode c_S_addTable 4 = .ok (.iload_n 2, 1) := by decide +kernel
theorem d_S_addTable_5 : decode c_S_addTable 5 = .ok (.iaload, 1) := by decide +kernel
theorem d_S_addTable_6 : decode c_S_addTable 6 = .ok (.istore_n 3, 1) := by decide +kernel
theorem d_S_addTable_7 : decode c_S_addTable 7 = .ok (.iload_n 3, 1) := by decide +kernel
theorem d_S_addTable_8 : decode c_S_addTable 8 = .ok (.aload_n 1, 1) := by decide +kernel
theorem d_S_addTable_9 : decode c_S_addTable 9 = .ok (.getfield 27, 3) := by decide +kernel
theorem d_S_addTable_12 : decode c_S_addTable 12 = .ok (.iload_n 2, 1) := by decide +kernel
theorem d_S_addTable_13 : decode c_S_addTable 13 = .ok (.iconst 1, 1) := by decide +kernel
theorem d_S_addTable_14 : decode c_S_addTable 14 = .ok (.iadd, 1) := by decide +kernel
theorem d_S_addTable_15 : decode c_S_addTable 15 = .ok (.iaload, 1) := by decide +kernel
theorem d_S_addTable_16 : decode c_S_addTable 16 = .ok (.if_icmp .ge 21, 3) := by decide +kernel
theorem d_S_addTable_19 : decode c_S_addTable 19 = .ok (.aload_n 0, 1) := by decide +kernel
theorem d_S_addTable_20 : decode c_S_addTable 20 = .ok (.getfield 14, 3) := by decide +kernel
theorem d_S_addTable_23 : decode c_S_addTable 23 = .ok (.aload_n 1, 1) := by decide +kernel
theorem d_S_addTable_24 : decode c_S_addTable 24 = .ok (.getfield 14, 3) := by decide +kernel
theorem d_S_addTable_27 : decode c_S_addTable 27 = .ok (.iload_n 3, 1) := by decide +kernel
theorem d_S_addTable_28 : decode c_S_addTable 28 = .ok (.invokevirtual 37, 3) := by decide +kernel
theorem d_S_addTable_31 : decode c_S_addTable 31 = .ok (.iinc 3 1, 3) := by decide +kernel
theorem d_S_addTable_34 : decode c_S_addTable 34 = .ok (.goto (-27), 3) := by decide +kernel
theorem d_S_addTable_37 : decode c_S_addTable 37 = .ok (.aload_n 0, 1) := by decide +kernel
theorem d_S_addTable_38 : decode c_S_addTable 38 = .ok (.aload_n 1, 1) := by decide +kernel
theorem d_S_addTable_39 : decode c_S_addTable 39 = .ok (.getfield 20, 3) := by decide +kernel
theorem d_S_addTable_42 : decode c_S_addTable 42 = .ok (.iload_n 2, 1) := by decide +kernel
theorem d_S_addTable_43 : decode c_S_addTable 43 = .ok (.iaload, 1) := by decide +kernel
theorem d_S_addTable_44 : decode c_S_addTable 44 = .ok (.aload_n 1, 1) := by decide +kernel
theorem d_S_addTable_45 : decode c_S_addTable 45 = .ok (.getfield 24, 3) := by decide +kernel
theorem d_S_addTable_48 : decode c_S_addTable 48 = .ok (.iload_n 2, 1) := by decide +kernel
theorem d_S_addTable_49 : decode c_S_addTable 49 = .ok (.iaload, 1) := by decide +kernel
theorem d_S_addTable_50 : decode c_S_addTable 50 = .ok (.invokevirtual 41, 3) := by decide +kernel
theorem d_S_addTable_53 : decode c_S_addTable 53 = .ok (.return_, 1) := by decide +kernel
theorem d_V_addStaying_0 : decode c_V_addStaying 0 = .ok (.iload_n 1, 1) := by decide +kernel
theorem d_V_addStaying_1 : decode c_V_addStaying 1 = .ok (.istore_n 3, 1) := by decide +kernel
theorem d_V_addStaying_2 : decode c_V_addStaying 2 = .ok (.iload_n 3, 1) := by decide +kernel
theorem d_V_addStaying_3 : decode c_V_addStaying 3 = .ok (.iload_n 2, 1) := by decide +kernel
theorem d_V_addStaying_4 : decode c_V_addStaying 4 = .ok (.if_icmp .ge 30, 3) := by decide +kernel
theorem d_V_addStaying_7 : decode c_V_addStaying 7 = .ok (.aload_n 0, 1) := by decide +kernel
theorem d_V_addStaying_8 : decode c_V_addStaying 8 = .ok (.getfield 37, 3) := by decide +kernel
theorem d_V_addStaying_11 : decode c_V_addStaying 11 = .ok (.iload_n 3, 1) := by decide +kernel
theorem d_V_addStaying_12 : decode c_V_addStaying 12 = .ok (.baload, 1) := by decide +kernel
theorem d_V_addStaying_13 : decode c_V_addStaying 13 = .ok (.ifCond .ne 15, 3) := by decide +kernel
theorem d_V_addStaying_16 : decode c_V_addStaying 16 = .ok (.aload_n 0, 1) := by decide +kernel
theorem d_V_addStaying_17 : decode c_V_addStaying 17 = .ok (.getfield 18, 3) := by decide +kernel
theorem d_V_addStaying_20 : decode c_V_addStaying 20 = .ok (.aload_n 0, 1) := by decide +kernel
theorem d_V_addStaying_21 : decode c_V_addStaying 21 = .ok (.getfield 12, 3) := by decide +kernel
theorem d_V_addStaying_24 : decode c_V_addStaying 24 = .ok (.iload_n 3, 1) := by decide +kernel
theorem d_V_addStaying_25 : decode c_V_addStaying 25 = .ok (.invokevirtual 80, 3) := by decide +kernel
theorem d_V_addStaying_28 : decode c_V_addStaying 28 = .ok (.iinc 3 1, 3) := by decide +kernel
theorem d_V_addStaying_31 : decode c_V_addStaying 31 = .ok (.goto (-29), 3) := by decide +kernel
theorem d_V_addStaying_34 : decode c_V_addStaying 34 = .ok (.return_, 1) := by decide +kernel
theorem d_V_isOutdated_0 : decode c_V_isOutdated 0 = .ok (.iload_n 1, 1) := by decide +kernel
theorem d_V_isOutdated_1 : decode c_V_isOutdated 1 = .ok (.ifCond .le 45, 3) := by decide +kernel
theorem d_V_isOutdated_4 : decode c_V_isOutdated 4 = .ok (.aload_n 0, 1) := by decide +kernel
theorem d_V_isOutdated_5 : decode c_V_isOutdated 5 = .ok (.getfield 33, 3) := by decide +kernel
theorem d_V_isOutdated_8 : decode c_V_isOutdated 8 = .ok (.getfield 152, 3) := by decide +kernel
theorem d_V_isOutdated_11 : decode c_V_isOutdated 11 = .ok (.iload_n 1, 1) := by decide +kernel
theorem d_V_isOutdated_12 : decode c_V_isOutdated 12 = .ok (.iconst 1, 1) := by decide +kernel
theorem d_V_isOutdated_13 : decode c_V_isOutdated 13 = .ok (.isub, 1) := by decide +kernel
theorem d_V_isOutdated_14 : decode c_V_isOutdated 14 = .ok (.iaload, 1) := by decide +kernel
theorem d_V_isOutdated_15 : decode c_V_isOutdated 15 = .ok (.aload_n 0, 1) := by decide +kernel
theorem d_V_isOutdated_16 : decode c_V_isOutdated 16 = .ok (.getfield 33, 3) := by decide +kernel
theorem d_V_isOutdated_19 : decode c_V_isOutdated 19 = .ok (.getfield 152, 3) := by decide +kernel
theorem d_V_isOutdated_22 : decode c_V_isOutdated 22 = .ok (.iload_n 1, 1) := by decide +kernel
theorem d_V_isOutdated_23 : decode c_V_isOutdated 23 = .ok (.iaload, 1) := by decide +kernel
theorem d_V_isOutdated_24 : decode c_V_isOutdated 24 = .ok (.if_icmp .ne 22, 3) := by decide +kernel
theorem d_V_isOutdated_27 : decode c_V_isOutdated 27 = .ok (.aload_n 0, 1) := by decide +kernel
theorem d_V_isOutdated_28 : decode c_V_isOutdated 28 = .ok (.getfield 33, 3) := by decide +kernel
theorem d_V_isOutdated_31 : decode c_V_isOutdated 31 = .ok (.getfield 165, 3) := by decide +kernel
theorem d_V_isOutdated_34 : decode c_V_isOutdated 34 = .ok (.iload_n 1, 1) := by decide +kernel
theorem d_V_isOutdated_35 : decode c_V_isOutdated 35 = .ok (.iconst 1, 1) := by decide +kernel
theorem d_V_isOutdated_36 : decode c_V_isOutdated 36 = .ok (.isub, 1) := by decide +kernel
theorem d_V_isOutdated_37 : decode c_V_isOutdated 37 = .ok (.iaload, 1) := by decide +kernel
theorem d_V_isOutdated_38 : decode c_V_isOutdated 38 = .ok (.iload_n 2, 1) := by decide +kernel
theorem d_V_isOutdated_39 : decode c_V_isOutdated 39 = .ok (.if_icmp .gt 7, 3) := by decide +kernel
theorem d_V_isOutdated_42 : decode c_V_isOutdated 42 = .ok (.iconst 1, 1) := by decide +kernel
theorem d_V_isOutdated_43 : decode c_V_isOutdated 43 = .ok (.goto 4, 3) := by decide +kernel
theorem d_V_isOutdated_46 : decode c_V_isOutdated 46 = .ok (.iconst 0, 1) := by decide +kernel
theorem d_V_isOutdated_47 : decode c_V_isOutdated 47 = .ok (.ireturn, 1) := by decide +kernel
theorem d_S_spans_0 : decode c_S_spans 0 = .ok (.aload_n 0, 1) := by decide +kernel
theorem d_S_spans_1 : decode c_S_spans 1 = .ok (.getfield 14, 3) := by decide +kernel
theorem d_S_spans_4 : decode c_S_spans 4 = .ok (.getfield 45, 3) := by decide +kernel
theorem d_S_spans_7 : decode c_S_spans 7 = .ok (.aload_n 0, 1) := by decide +kernel
theorem d_S_spans_8 : decode c_S_spans 8 = .ok (.getfield 27, 3) := by decide +kernel
theorem d_S_spans_11 : decode c_S_spans 11 = .ok (.iload_n 1, 1) := by decide +kernel
theorem d_S_spans_12 : decode c_S_spans 12 = .ok (.iaload, 1) := by decide +kernel
theorem d_S_spans_13 : decode c_S_spans 13 = .ok (.iaload, 1) := by decide +kernel
theorem d_S_spans_14 : decode c_S_spans 14 = .ok (.iload_n 2, 1) := by decide +kernel
theorem d_S_spans_15 : decode c_S_spans 15 = .ok (.if_icmp .gt 29, 3) := by decide +kernel
theorem d_S_spans_18 : decode c_S_spans 18 = .ok (.aload_n 0, 1) := by decide +kernel
theorem d_S_spans_19 : decode c_S_spans 19 = .ok (.getfield 14, 3) := by decide +kernel
theorem d_S_spans_22 : decode c_S_spans 22 = .ok (.getfield 45, 3) := by decide +kernel
theorem d_S_spans_25 : decode c_S_spans 25 = .ok (.aload_n 0, 1) := by decide +kernel
theorem d_S_spans_26 : decode c_S_spans 26 = .ok (.getfield 27, 3) := by decide +kernel
theorem d_S_spans_29 : decode c_S_spans 29 = .ok (.iload_n 1, 1) := by decide +kernel
theorem d_S_spans_30 : decode c_S_spans 30 = .ok (.iconst 1, 1) := by decide +kernel
theorem d_S_spans_31 : decode c_S_spans 31 = .ok (.iadd, 1) := by decide +kernel
theorem d_S_spans_32 : decode c_S_spans 32 = .ok (.iaload, 1) := by decide +kernel
theorem d_S_spans_33 : decode c_S_spans 33 = .ok (.iconst 1, 1) := by decide +kernel
theorem d_S_spans_34 : decode c_S_spans 34 = .ok (.isub, 1) := by decide +kernel
theorem d_S_spans_35 : decode c_S_spans 35 = .ok (.iaload, 1) := by decide +kernel
theorem d_S_spans_36 : decode c_S_spans 36 = .ok (.iload_n 2, 1) := by decide +kernel
theorem d_S_spans_37 : decode c_S_spans 37 = .ok (.if_icmp .lt 7, 3) := by decide +kernel
theorem d_S_spans_40 : decode c_S_spans 40 = .ok (.iconst 1, 1) := by decide +kernel
theorem d_S_spans_41 : decode c_S_spans 41 = .ok (.goto 4, 3) := by decide +kernel
theorem d_S_spans_44 : decode c_S_spans 44 = .ok (.iconst 0, 1) := by decide +kernel
theorem d_S_spans_45 : decode c_S_spans 45 = .ok (.ireturn, 1) := by decide +kernel
theorem d_V_isNeedless_0 : decode c_V_isNeedless 0 = .ok (.aload_n 0, 1) := by decide +kernel
theorem d_V_isNeedless_1 : decode c_V_isNeedless 1 = .ok (.getfield 33, 3) := by decide +kernel
theorem d_V_isNeedless_4 : decode c_V_isNeedless 4 = .ok (.getfield 166, 3) := by decide +kernel
theorem d_V_isNeedless_7 : decode c_V_isNeedless 7 = .ok (.iload_n 1, 1) := by decide +kernel
theorem d_V_isNeedless_8 : decode c_V_isNeedless 8 = .ok (.baload, 1) := by decide +kernel
theorem d_V_isNeedless_9 : decode c_V_isNeedless 9 = .ok (.ifCond .eq 16, 3) := by decide +kernel
theorem d_V_isNeedless_12 : decode c_V_isNeedless 12 = .ok (.aload_n 0, 1) := by decide +kernel
theorem d_V_isNeedless_13 : decode c_V_isNeedless 13 = .ok (.getfield 33, 3) := by decide +kernel
theorem d_V_isNeedless_16 : decode c_V_isNeedless 16 = .ok (.getfield 165, 3) := by decide +kernel
theorem d_V_isNeedless_19 : decode c_V_isNeedless 19 = .ok (.iload_n 1, 1) := by decide +kernel
theorem d_V_isNeedless_20 : decode c_V_isNeedless 20 = .ok (.iaload, 1) := by decide +kernel
theorem d_V_isNeedless_21 : decode c_V_isNeedless 21 = .ok (.iload_n 3, 1) := by decide +kernel
theorem d_V_isNeedless_22 : decode c_V_isNeedless 22 = .ok (.if_icmp .le 5, 3) := by decide +kernel
theorem d_V_isNeedless_25 : decode c_V_isNeedless 25 = .ok (.iconst 0, 1) := by decide +kernel
theorem d_V_isNeedless_26 : decode c_V_isNeedless 26 = .ok (.ireturn, 1) := by decide +kernel
theorem d_V_isNeedless_27 : decode c_V_isNeedless 27 = .ok (.iconst 0, 1) := by decide +kernel
theorem d_V_isNeedless_28 : decode c_V_isNeedless 28 = .ok (.istore 4, 2) := by decide +kernel
theorem d_V_isNeedless_30 : decode c_V_isNeedless 30 = .ok (.iload 4, 2) := by decide +kernel
theorem d_V_isNeedless_32 : decode c_V_isNeedless 32 = .ok (.aload_n 0, 1) := by decide +kernel
theorem d_V_isNeedless_33 : decode c_V_isNeedless 33 = .ok (.getfield 12, 3) := by decide +kernel
theorem d_V_isNeedless_36 : decode c_V_isNeedless 36 = .ok (.getfield 77, 3) := by decide +kernel
theorem d_V_isNeedless_39 : decode c_V_isNeedless 39 = .ok (.if_icmp .ge 46, 3) := by decide +kernel
theorem d_V_isNeedless_42 : decode c_V_isNeedless 42 = .ok (.aload_n 0, 1) := by decide +kernel
theorem d_V_isNeedless_43 : decode c_V_isNeedless 43 = .ok (.getfield 12, 3) := by decide +kernel
theorem d_V_isNeedless_46 : decode c_V_isNeedless 46 = .ok (.getfield 100, 3) := by decide +kernel
theorem d_V_isNeedless_49 : decode c_V_isNeedless 49 = .ok (.iload 4, 2) := by decide +kernel
theorem d_V_isNeedless_51 : decode c_V_isNeedless 51 = .ok (.iaload, 1) := by decide +kernel
theorem d_V_isNeedless_52 : decode c_V_isNeedless 52 = .ok (.iload_n 2, 1) := by decide +kernel
theorem d_V_isNeedless_53 : decode c_V_isNeedless 53 = .ok (.if_icmp .le 26, 3) := by decide +kernel
theorem d_V_isNeedless_56 : decode c_V_isNeedless 56 = .ok (.aload_n 0, 1) := by decide +kernel
theorem d_V_isNeedless_57 : decode c_V_isNeedless 57 = .ok (.getfield 12, 3) := by decide +kernel
theorem d_V_isNeedless_60 : decode c_V_isNeedless 60 = .ok (.iload 4, 2) := by decide +kernel
theorem d_V_isNeedless_62 : decode c_V_isNeedless 62 = .ok (.aload_n 0, 1) := by decide +kernel
theorem d_V_isNeedless_63 : decode c_V_isNeedless 63 = .ok (.getfield 33, 3) := by decide +kernel
theorem d_V_isNeedless_66 : decode c_V_isNeedless 66 = .ok (.getfield 152, 3) := by decide +kernel
theorem d_V_isNeedless_69 : decode c_V_isNeedless 69 = .ok (.iload_n 1, 1) := by decide +kernel
theorem d_V_isNeedless_70 : decode c_V_isNeedless 70 = .ok (.iaload, 1) := by decide +kernel
theorem d_V_isNeedless_71 : decode c_V_isNeedless 71 = .ok (.invokevirtual 169, 3) := by decide +kernel
theorem d_V_isNeedless_74 : decode c_V_isNeedless 74 = .ok (.ifCond .eq 5, 3) := by decide +kernel
theorem d_V_isNeedless_77 : decode c_V_isNeedless 77 = .ok (.iconst 0, 1) := by decide +kernel
theorem d_V_isNeedless_78 : decode c_V_isNeedless 78 = .ok (.ireturn, 1) := by decide +kernel
theorem d_V_isNeedless_79 : decode c_V_isNeedless 79 = .ok (.iinc 4 1, 3) := by decide +kernel
theorem d_V_isNeedless_82 : decode c_V_isNeedless 82 = .ok (.goto (-52), 3) := by decide +kernel
theorem d_V_isNeedless_85 : decode c_V_isNeedless 85 = .ok (.iconst 1, 1) := by decide +kernel
theorem d_V_isNeedless_86 : decode c_V_isNeedless 86 = .ok (.ireturn, 1) := by decide +kernel
theorem d_V_endNewTable_0 : decode c_V_endNewTable 0 = .ok (.aload_n 0, 1) := by decide +kernel
theorem d_V_endNewTable_1 : decode c_V_endNewTable 1 = .ok (.getfield 18, 3) := by decide +kernel
theorem d_V_endNewTable_4 : decode c_V_endNewTable 4 = .ok (.aload_n 0, 1) := by decide +kernel
theorem d_V_endNewTable_5 : decode c_V_endNewTable 5 = .ok (.getfield 172, 3) := by decide +kernel
theorem d_V_endNewTable_8 : decode c_V_endNewTable 8 = .ok (.iload_n 1, 1) := by decide +kernel
theorem d_V_endNewTable_9 : decode c_V_endNewTable 9 = .ok (.invokevirtual 103, 3) := by decide +kernel
theorem d_V_endNewTable_12 : decode c_V_endNewTable 12 = .ok (.aload_n 0, 1) := by decide +kernel
theorem d_V_endNewTable_13 : decode c_V_endNewTable 13 = .ok (.dup, 1) := by decide +kernel
theorem d_V_endNewTable_14 : decode c_V_endNewTable 14 = .ok (.getfield 172, 3) := by decide +kernel
theorem d_V_endNewTable_17 : decode c_V_endNewTable 17 = .ok (.iconst 1, 1) := by decide +kernel
theorem d_V_endNewTable_18 : decode c_V_endNewTable 18 = .ok (.iadd, 1) := by decide +kernel
theorem d_V_endNewTable_19 : decode c_V_endNewTable 19 = .ok (.putfield 172, 3) := by decide +kernel
theorem d_V_endNewTable_22 : decode c_V_endNewTable 22 = .ok (.return_, 1) := by decide +kernel
theorem d_V_addMerged_0 : decode c_V_addMerged 0 = .ok (.iconst (-1), 1) := by decide +kernel
theorem d_V_addMerged_1 : decode c_V_addMerged 1 = .ok (.istore_n 3, 1) := by decide +kernel
theorem d_V_addMerged_2 : decode c_V_addMerged 2 = .ok (.iconst 0, 1) := by decide +kernel
theorem d_V_addMerged_3 : decode c_V_addMerged 3 = .ok (.istore 4, 2) := by decide +kernel
theorem d_V_addMerged_5 : decode c_V_addMerged 5 = .ok (.iload 4, 2) := by decide +kernel
theorem d_V_addMerged_7 : decode c_V_addMerged 7 = .ok (.aload_n 0, 1) := by decide +kernel
theorem d_V_addMerged_8 : decode c_V_addMerged 8 = .ok (.getfield 33, 3) := by decide +kernel
theorem d_V_addMerged_11 : decode c_V_addMerged 11 = .ok (.getfield 56, 3) := by decide +kernel
theorem d_V_addMerged_14 : decode c_V_addMerged 14 = .ok (.if_icmp .ge 120, 3) := by decide +kernel
theorem d_V_addMerged_17 : decode c_V_addMerged 17 = .ok (.aload_n 0, 1) := by decide +kernel
theorem d_V_addMerged_18 : decode c_V_addMerged 18 = .ok (.getfield 33, 3) := by decide +kernel
theorem d_V_addMerged_21 : decode c_V_addMerged 21 = .ok (.getfield 152, 3) := by decide +kernel
theorem d_V_addMerged_24 : decode c_V_addMerged 24 = .ok (.iload 4, 2) := by decide +kernel
theorem d_V_addMerged_26 : decode c_V_addMerged 26 = .ok (.iaload, 1) := by decide +kernel
theorem d_V_addMerged_27 : decode c_V_addMerged 27 = .ok (.istore 5, 2) := by decide +kernel
theorem d_V_addMerged_29 : decode c_V_addMerged 29 = .ok (.aload_n 0, 1) := by decide +kernel
theorem d_V_addMerged_30 : decode c_V_addMerged 30 = .ok (.iload 4, 2) := by decide +kernel
theorem d_V_addMerged_32 : decode c_V_addMerged 32 = .ok (.iload_n 2, 1) := by decide +kernel
theorem d_V_addMerged_33 : decode c_V_addMerged 33 = .ok (.invokevirtual 155, 3) := by decide +kernel
theorem d_V_addMerged_36 : decode c_V_addMerged 36 = .ok (.ifCond .ne 14, 3) := by decide +kernel
theorem d_V_addMerged_39 : decode c_V_addMerged 39 = .ok (.aload_n 0, 1) := by decide +kernel
theorem d_V_addMerged_40 : decode c_V_addMerged 40 = .ok (.iload 4, 2) := by decide +kernel
theorem d_V_addMerged_42 : decode c_V_addMerged 42 = .ok (.iload_n 1, 1) := by decide +kernel
theorem d_V_addMerged_43 : decode c_V_addMerged 43 = .ok (.iload_n 2, 1) := by decide +kernel
theorem d_V_addMerged_44 : decode c_V_addMerged 44 = .ok (.invokevirtual 159, 3) := by decide +kernel
theorem d_V_addMerged_47 : decode c_V_addMerged 47 = .ok (.ifCond .eq 16, 3) := by decide +kernel
theorem d_V_addMerged_50 : decode c_V_addMerged 50 = .ok (.aload_n 0, 1) := by decide +kernel
theorem d_V_addMerged_51 : decode c_V_addMerged 51 = .ok (.dup, 1) := by decide +kernel
theorem d_V_addMerged_52 : decode c_V_addMerged 52 = .ok (.getfield 162, 3) := by decide +kernel
theorem d_V_addMerged_55 : decode c_V_addMerged 55 = .ok (.iconst 1, 1) := by decide +kernel
theorem d_V_addMerged_56 : decode c_V_addMerged 56 = .ok (.iadd, 1) := by decide +kernel
theorem d_V_addMerged_57 : decode c_V_addMerged 57 = .ok (.putfield 162, 3) := by decide +kernel
theorem d_V_addMerged_60 : decode c_V_addMerged 60 = .ok (.goto 68, 3) := by decide +kernel
theorem d_V_addMerged_63 : decode c_V_addMerged 63 = .ok (.aload_n 0, 1) := by decide +kernel
theorem d_V_addMerged_64 : decode c_V_addMerged 64 = .ok (.getfield 18, 3) := by decide +kernel
theorem d_V_addMerged_67 : decode c_V_addMerged 67 = .ok (.getfield 67, 3) := by decide +kernel
theorem d_V_addMerged_70 : decode c_V_addMerged 70 = .ok (.getfield 56, 3) := by decide +kernel
theorem d_V_addMerged_73 : decode c_V_addMerged 73 = .ok (.aload_n 0, 1) := by decide +kernel
theorem d_V_addMerged_74 : decode c_V_addMerged 74 = .ok (.getfield 18, 3) := by decide +kernel
theorem d_V_addMerged_77 : decode c_V_addMerged 77 = .ok (.getfield 87, 3) := by decide +kernel
theorem d_V_addMerged_80 : decode c_V_addMerged 80 = .ok (.aload_n 0, 1) := by decide +kernel
theorem d_V_addMerged_81 : decode c_V_addMerged 81 = .ok (.getfield 18, 3) := by decide +kernel
theorem d_V_addMerged_84 : decode c_V_addMerged 84 = .ok (.getfield 77, 3) := by decide +kernel
theorem d_V_addMerged_87 : decode c_V_addMerged 87 = .ok (.iaload, 1) := by decide +kernel
theorem d_V_addMerged_88 : decode c_V_addMerged 88 = .ok (.isub, 1) := by decide +kernel
theorem d_V_addMerged_89 : decode c_V_addMerged 89 = .ok (.istore 6, 2) := by decide +kernel
theorem d_V_addMerged_91 : decode c_V_addMerged 91 = .ok (.iload 6, 2) := by decide +kernel
theorem d_V_addMerged_93 : decode c_V_addMerged 93 = .ok (.bipush 6, 2) := by decide +kernel
theorem d_V_addMerged_95 : decode c_V_addMerged 95 = .ok (.if_icmp .lt 14, 3) := by decide +kernel
theorem d_V_addMerged_98 : decode c_V_addMerged 98 = .ok (.iload 5, 2) := by decide +kernel
theorem d_V_addMerged_100 : decode c_V_addMerged 100 = .ok (.iload_n 3, 1) := by decide +kernel
theorem d_V_addMerged_101 : decode c_V_addMerged 101 = .ok (.if_icmp .eq 8, 3) := by decide +kernel
theorem d_V_addMerged_104 : decode c_V_addMerged 104 = .ok (.aload_n 0, 1) := by decide +kernel
theorem d_V_addMerged_105 : decode c_V_addMerged 105 = .ok (.iload_n 1, 1) := by decide +kernel
theorem d_V_addMerged_106 : decode c_V_addMerged 106 = .ok (.invokevirtual 74, 3) := by decide +kernel
theorem d_V_addMerged_109 : decode c_V_addMerged 109 = .ok (.aload_n 0, 1) := by decide +kernel
theorem d_V_addMerged_110 : decode c_V_addMerged 110 = .ok (.getfield 18, 3) := by decide +kernel
theorem d_V_addMerged_113 : decode c_V_addMerged 113 = .ok (.getfield 67, 3) := by decide +kernel
theorem d_V_addMerged_116 : decode c_V_addMerged 116 = .ok (.aload_n 0, 1) := by decide +kernel
theorem d_V_addMerged_117 : decode c_V_addMerged 117 = .ok (.getfield 33, 3) := by decide +kernel
theorem d_V_addMerged_120 : decode c_V_addMerged 120 = .ok (.iload 4, 2) := by decide +kernel
theorem d_V_addMerged_122 : decode c_V_addMerged 122 = .ok (.invokevirtual 60, 3) := by decide +kernel
theorem d_V_addMerged_125 : decode c_V_addMerged 125 = .ok (.iload 5, 2) := by decide +kernel
theorem d_V_addMerged_127 : decode c_V_addMerged 127 = .ok (.istore_n 3, 1) := by decide +kernel
theorem d_V_addMerged_128 : decode c_V_addMerged 128 = .ok (.iinc 4 1, 3) := by decide +kernel
theorem d_V_addMerged_131 : decode c_V_addMerged 131 = .ok (.goto (-126), 3) := by decide +kernel
theorem d_V_addMerged_134 : decode c_V_addMerged 134 = .ok (.aload_n 0, 1) := by decide +kernel
theorem d_V_addMerged_135 : decode c_V_addMerged 135 = .ok (.getfield 18, 3) := by decide +kernel
theorem d_V_addMerged_138 : decode c_V_addMerged 138 = .ok (.invokevirtual 93, 3) := by decide +kernel
theorem d_V_addMerged_141 : decode c_V_addMerged 141 = .ok (.ifCond .eq 8, 3) := by decide +kernel
theorem d_V_addMerged_144 : decode c_V_addMerged 144 = .ok (.aload_n 0, 1) := by decide +kernel
theorem d_V_addMerged_145 : decode c_V_addMerged 145 = .ok (.iload_n 1, 1) := by decide +kernel
theorem d_V_addMerged_146 : decode c_V_addMerged 146 = .ok (.invokevirtual 74, 3) := by decide +kernel
theorem d_V_addMerged_149 : decode c_V_addMerged 149 = .ok (.return_, 1) := by decide +kernel
theorem d_V_merge_0 : decode c_V_merge 0 = .ok (.bipush 64, 2) := by decide +kernel
theorem d_V_merge_2 : decode c_V_merge 2 = .ok (.istore 5, 2) := by decide +kernel
theorem d_V_merge_4 : decode c_V_merge 4 = .ok (.iconst (-1), 1) := by decide +kernel
theorem d_V_merge_5 : decode c_V_merge 5 = .ok (.istore 6, 2) := by decide +kernel
theorem d_V_merge_7 : decode c_V_merge 7 = .ok (.iload_n 1, 1) := by decide +kernel
theorem d_V_merge_8 : decode c_V_merge 8 = .ok (.istore 7, 2) := by decide +kernel
theorem d_V_merge_10 : decode c_V_merge 10 = .ok (.iload 7, 2) := by decide +kernel
theorem d_V_merge_12 : decode c_V_merge 12 = .ok (.iload_n 2, 1) := by decide +kernel
theorem d_V_merge_13 : decode c_V_merge 13 = .ok (.if_icmp .ge 41, 3) := by decide +kernel
theorem d_V_merge_16 : decode c_V_merge 16 = .ok (.iload 5, 2) := by decide +kernel
theorem d_V_merge_18 : decode c_V_merge 18 = .ok (.aload_n 0, 1) := by decide +kernel
theorem d_V_merge_19 : decode c_V_merge 19 = .ok (.getfield 12, 3) := by decide +kernel
theorem d_V_merge_22 : decode c_V_merge 22 = .ok (.iload 7, 2) := by decide +kernel
theorem d_V_merge_24 : decode c_V_merge 24 = .ok (.invokevirtual 119, 3) := by decide +kernel
theorem d_V_merge_27 : decode c_V_merge 27 = .ok (.invokestatic 122, 3) := by decide +kernel
theorem d_V_merge_30 : decode c_V_merge 30 = .ok (.istore 5, 2) := by decide +kernel
theorem d_V_merge_32 : decode c_V_merge 32 = .ok (.iload 6, 2) := by decide +kernel
theorem d_V_merge_34 : decode c_V_merge 34 = .ok (.aload_n 0, 1) := by decide +kernel
theorem d_V_merge_35 : decode c_V_merge 35 = .ok (.getfield 12, 3) := by decide +kernel
theorem d_V_merge_38 : decode c_V_merge 38 = .ok (.iload 7, 2) := by decide +kernel
theorem d_V_merge_40 : decode c_V_merge 40 = .ok (.invokevirtual 127, 3) := by decide +kernel
theorem d_V_merge_43 : decode c_V_merge 43 = .ok (.invokestatic 130, 3) := by decide +kernel
theorem d_V_merge_46 : decode c_V_merge 46 = .ok (.istore 6, 2) := by decide +kernel
theorem d_V_merge_48 : decode c_V_merge 48 = .ok (.iinc 7 1, 3) := by decide +kernel
theorem d_V_merge_51 : decode c_V_merge 51 = .ok (.goto (-41), 3) := by decide +kernel
theorem d_V_merge_54 : decode c_V_merge 54 = .ok (.iconst 0, 1) := by decide +kernel
theorem d_V_merge_55 : decode c_V_merge 55 = .ok (.istore 7, 2) := by decide +kernel
theorem d_V_merge_57 : decode c_V_merge 57 = .ok (.iload 7, 2) := by decide +kernel
theorem d_V_merge_59 : decode c_V_merge 59 = .ok (.aload_n 0, 1) := by decide +kernel
theorem d_V_merge_60 : decode c_V_merge 60 = .ok (.getfield 12, 3) := by decide +kernel
theorem d_V_merge_63 : decode c_V_merge 63 = .ok (.getfield 77, 3) := by decide +kernel
theorem d_V_merge_66 : decode c_V_merge 66 = .ok (.if_icmp .ge 113, 3) := by decide +kernel
theorem d_V_merge_69 : decode c_V_merge 69 = .ok (.aload_n 0, 1) := by decide +kernel
theorem d_V_merge_70 : decode c_V_merge 70 = .ok (.getfield 12, 3) := by decide +kernel
theorem d_V_merge_73 : decode c_V_merge 73 = .ok (.getfield 100, 3) := by decide +kernel
theorem d_V_merge_76 : decode c_V_merge 76 = .ok (.iload 7, 2) := by decide +kernel
theorem d_V_merge_78 : decode c_V_merge 78 = .ok (.iaload, 1) := by decide +kernel
theorem d_V_merge_79 : decode c_V_merge 79 = .ok (.iload_n 3, 1) := by decide +kernel
theorem d_V_merge_80 : decode c_V_merge 80 = .ok (.if_icmp .ne 23, 3) := by decide +kernel
theorem d_V_merge_83 : decode c_V_merge 83 = .ok (.aload_n 0, 1) := by decide +kernel
theorem d_V_merge_84 : decode c_V_merge 84 = .ok (.getfield 12, 3) := by decide +kernel
theorem d_V_merge_87 : decode c_V_merge 87 = .ok (.iload 7, 2) := by decide +kernel
theorem d_V_merge_89 : decode c_V_merge 89 = .ok (.iload 5, 2) := by decide +kernel
theorem d_V_merge_91 : decode c_V_merge 91 = .ok (.iload 6, 2) := by decide +kernel
theorem d_V_merge_93 : decode c_V_merge 93 = .ok (.invokevirtual 133, 3) := by decide +kernel
theorem d_V_merge_96 : decode c_V_merge 96 = .ok (.ifCond .eq 7, 3) := by decide +kernel
theorem d_V_merge_99 : decode c_V_merge 99 = .ok (.iconst 1, 1) := by decide +kernel
theorem d_V_merge_100 : decode c_V_merge 100 = .ok (.goto 4, 3) := by decide +kernel
theorem d_V_merge_103 : decode c_V_merge 103 = .ok (.iconst 0, 1) := by decide +kernel
theorem d_V_merge_104 : decode c_V_merge 104 = .ok (.istore 8, 2) := by decide +kernel
theorem d_V_merge_106 : decode c_V_merge 106 = .ok (.aload_n 0, 1) := by decide +kernel
theorem d_V_merge_107 : decode c_V_merge 107 = .ok (.getfield 37, 3) := by decide +kernel
theorem d_V_merge_110 : decode c_V_merge 110 = .ok (.iload 7, 2) := by decide +kernel
theorem d_V_merge_112 : decode c_V_merge 112 = .ok (.iload 8, 2) := by decide +kernel
theorem d_V_merge_114 : decode c_V_merge 114 = .ok (.ifCond .ne 15, 3) := by decide +kernel
theorem d_V_merge_117 : decode c_V_merge 117 = .ok (.iload 7, 2) := by decide +kernel
theorem d_V_merge_119 : decode c_V_merge 119 = .ok (.iload_n 1, 1) := by decide +kernel
theorem d_V_merge_120 : decode c_V_merge 120 = .ok (.if_icmp .lt 13, 3) := by decide +kernel
theorem d_V_merge_123 : decode c_V_merge 123 = .ok (.iload 7, 2) := by decide +kernel
theorem d_V_merge_125 : decode c_V_merge 125 = .ok (.iload_n 2, 1) := by decide +kernel
theorem d_V_merge_126 : decode c_V_merge 126 = .ok (.if_icmp .ge 7, 3) := by decide +kernel
theorem d_V_merge_129 : decode c_V_merge 129 = .ok (.iconst 1, 1) := by decide +kernel
theorem d_V_merge_130 : decode c_V_merge 130 = .ok (.goto 4, 3) := by decide +kernel
theorem d_V_merge_133 : decode c_V_merge 133 = .ok (.iconst 0, 1) := by decide +kernel
theorem d_V_merge_134 : decode c_V_merge 134 = .ok (.bastore, 1) := by decide +kernel
theorem d_V_merge_135 : decode c_V_merge 135 = .ok (.aload_n 0, 1) := by decide +kernel
theorem d_V_merge_136 : decode c_V_merge 136 = .ok (.aload_n 0, 1) := by decide +kernel
theorem d_V_merge_137 : decode c_V_merge 137 = .ok (.getfield 45, 3) := by decide +kernel
theorem d_V_merge_140 : decode c_V_merge 140 = .ok (.ifCond .ne 25, 3) := by decide +kernel
theorem d_V_merge_143 : decode c_V_merge 143 = .ok (.aload_n 0, 1) := by decide +kernel
theorem d_V_merge_144 : decode c_V_merge 144 = .ok (.getfield 37, 3) := by decide +kernel
theorem d_V_merge_147 : decode c_V_merge 147 = .ok (.iload 7, 2) := by decide +kernel
theorem d_V_merge_149 : decode c_V_merge 149 = .ok (.baload, 1) := by decide +kernel
theorem d_V_merge_150 : decode c_V_merge 150 = .ok (.ifCond .eq 19, 3) := by decide +kernel
theorem d_V_merge_153 : decode c_V_merge 153 = .ok (.aload_n 0, 1) := by decide +kernel
theorem d_V_merge_154 : decode c_V_merge 154 = .ok (.getfield 12, 3) := by decide +kernel
theorem d_V_merge_157 : decode c_V_merge 157 = .ok (.iload 7, 2) := by decide +kernel
theorem d_V_merge_159 : decode c_V_merge 159 = .ok (.invokevirtual 137, 3) := by decide +kernel
theorem d_V_merge_162 : decode c_V_merge 162 = .ok (.ifCond .le 7, 3) := by decide +kernel
theorem d_V_merge_165 : decode c_V_merge 165 = .ok (.iconst 1, 1) := by decide +kernel
theorem d_V_merge_166 : decode c_V_merge 166 = .ok (.goto 4, 3) := by decide +kernel
theorem d_V_merge_169 : decode c_V_merge 169 = .ok (.iconst 0, 1) := by decide +kernel
theorem d_V_merge_170 : decode c_V_merge 170 = .ok (.putfield 45, 3) := by decide +kernel
theorem d_V_merge_173 : decode c_V_merge 173 = .ok (.iinc 7 1, 3) := by decide +kernel
theorem d_V_merge_176 : decode c_V_merge 176 = .ok (.goto (-119), 3) := by decide +kernel
theorem d_V_merge_179 : decode c_V_merge 179 = .ok (.aload_n 0, 1) := by decide +kernel
theorem d_V_merge_180 : decode c_V_merge 180 = .ok (.getfield 45, 3) := by decide +kernel
theorem d_V_merge_183 : decode c_V_merge 183 = .ok (.ifCond .eq 4, 3) := by decide +kernel
theorem d_V_merge_186 : decode c_V_merge 186 = .ok (.return_, 1) := by decide +kernel
theorem d_V_merge_187 : decode c_V_merge 187 = .ok (.aload_n 0, 1) := by decide +kernel
theorem d_V_merge_188 : decode c_V_merge 188 = .ok (.invokevirtual 140, 3) := by decide +kernel
theorem d_V_merge_191 : decode c_V_merge 191 = .ok (.aload_n 0, 1) := by decide +kernel
theorem d_V_merge_192 : decode c_V_merge 192 = .ok (.getfield 12, 3) := by decide +kernel
theorem d_V_merge_195 : decode c_V_merge 195 = .ok (.iload_n 3, 1) := by decide +kernel
theorem d_V_merge_196 : decode c_V_merge 196 = .ok (.iload 6, 2) := by decide +kernel
theorem d_V_merge_198 : decode c_V_merge 198 = .ok (.invokevirtual 143, 3) := by decide +kernel
theorem d_V_merge_201 : decode c_V_merge 201 = .ok (.istore 7, 2) := by decide +kernel
theorem d_V_merge_203 : decode c_V_merge 203 = .ok (.aload_n 0, 1) := by decide +kernel
theorem d_V_merge_204 : decode c_V_merge 204 = .ok (.getfield 18, 3) := by decide +kernel
theorem d_V_merge_207 : decode c_V_merge 207 = .ok (.invokevirtual 64, 3) := by decide +kernel
theorem d_V_merge_210 : decode c_V_merge 210 = .ok (.aload_n 0, 1) := by decide +kernel
theorem d_V_merge_211 : decode c_V_merge 211 = .ok (.iconst 0, 1) := by decide +kernel
theorem d_V_merge_212 : decode c_V_merge 212 = .ok (.iload 7, 2) := by decide +kernel
theorem d_V_merge_214 : decode c_V_merge 214 = .ok (.invokevirtual 146, 3) := by decide +kernel
theorem d_V_merge_217 : decode c_V_merge 217 = .ok (.aload_n 0, 1) := by decide +kernel
theorem d_V_merge_218 : decode c_V_merge 218 = .ok (.iload_n 3, 1) := by decide +kernel
theorem d_V_merge_219 : decode c_V_merge 219 = .ok (.iload 4, 2) := by decide +kernel
theorem d_V_merge_221 : decode c_V_merge 221 = .ok (.invokevirtual 149, 3) := by decide +kernel
theorem d_V_merge_224 : decode c_V_merge 224 = .ok (.aload_n 0, 1) := by decide +kernel
theorem d_V_merge_225 : decode c_V_merge 225 = .ok (.iload 7, 2) := by decide +kernel
theorem d_V_merge_227 : decode c_V_merge 227 = .ok (.aload_n 0, 1) := by decide +kernel
theorem d_V_merge_228 : decode c_V_merge 228 = .ok (.getfield 12, 3) := by decide +kernel
theorem d_V_merge_231 : decode c_V_merge 231 = .ok (.getfield 77, 3) := by decide +kernel
theorem d_V_merge_234 : decode c_V_merge 234 = .ok (.invokevirtual 146, 3) := by decide +kernel
theorem d_V_merge_237 : decode c_V_merge 237 = .ok (.aload_n 0, 1) := by decide +kernel
theorem d_V_merge_238 : decode c_V_merge 238 = .ok (.invokevirtual 84, 3) := by decide +kernel
theorem d_V_merge_241 : decode c_V_merge 241 = .ok (.aload_n 0, 1) := by decide +kernel
theorem d_V_merge_242 : decode c_V_merge 242 = .ok (.getfield 41, 3) := by decide +kernel
theorem d_V_merge_245 : decode c_V_merge 245 = .ok (.iload_n 3, 1) := by decide +kernel
theorem d_V_merge_246 : decode c_V_merge 246 = .ok (.iconst 1, 1) := by decide +kernel
theorem d_V_merge_247 : decode c_V_merge 247 = .ok (.isub, 1) := by decide +kernel
theorem d_V_merge_248 : decode c_V_merge 248 = .ok (.iload 6, 2) := by decide +kernel
theorem d_V_merge_250 : decode c_V_merge 250 = .ok (.iastore, 1) := by decide +kernel
theorem d_V_merge_251 : decode c_V_merge 251 = .ok (.return_, 1) := by decide +kernel
theorem d_V_tidy_0 : decode c_V_tidy 0 = .ok (.aload_n 0, 1) := by decide +kernel
theorem d_V_tidy_1 : decode c_V_tidy 1 = .ok (.invokevirtual 107, 3) := by decide +kernel
theorem d_V_tidy_4 : decode c_V_tidy 4 = .ok (.istore_n 2, 1) := by decide +kernel
theorem d_V_tidy_5 : decode c_V_tidy 5 = .ok (.iconst 0, 1) := by decide +kernel
theorem d_V_tidy_6 : decode c_V_tidy 6 = .ok (.istore_n 3, 1) := by decide +kernel
theorem d_V_tidy_7 : decode c_V_tidy 7 = .ok (.iload_n 3, 1) := by decide +kernel
theorem d_V_tidy_8 : decode c_V_tidy 8 = .ok (.sipush 1000, 3) := by decide +kernel
theorem d_V_tidy_11 : decode c_V_tidy 11 = .ok (.if_icmp .ge 83, 3) := by decide +kernel
theorem d_V_tidy_14 : decode c_V_tidy 14 = .ok (.iload_n 2, 1) := by decide +kernel
theorem d_V_tidy_15 : decode c_V_tidy 15 = .ok (.iconst (-1), 1) := by decide +kernel
theorem d_V_tidy_16 : decode c_V_tidy 16 = .ok (.if_icmp .eq 78, 3) := by decide +kernel
theorem d_V_tidy_19 : decode c_V_tidy 19 = .ok (.aload_n 0, 1) := by decide +kernel
theorem d_V_tidy_20 : decode c_V_tidy 20 = .ok (.getfield 45, 3) := by decide +kernel
theorem d_V_tidy_23 : decode c_V_tidy 23 = .ok (.ifCond .ne 71, 3) := by decide +kernel
theorem d_V_tidy_26 : decode c_V_tidy 26 = .ok (.iload_n 2, 1) := by decide +kernel
theorem d_V_tidy_27 : decode c_V_tidy 27 = .ok (.ifCond .ne 7, 3) := by decide +kernel
theorem d_V_tidy_30 : decode c_V_tidy 30 = .ok (.iconst 0, 1) := by decide +kernel
theorem d_V_tidy_31 : decode c_V_tidy 31 = .ok (.goto 17, 3) := by decide +kernel
theorem d_V_tidy_34 : decode c_V_tidy 34 = .ok (.aload_n 0, 1) := by decide +kernel
theorem d_V_tidy_35 : decode c_V_tidy 35 = .ok (.getfield 12, 3) := by decide +kernel
theorem d_V_tidy_38 : decode c_V_tidy 38 = .ok (.iload_n 2, 1) := by decide +kernel
theorem d_V_tidy_39 : decode c_V_tidy 39 = .ok (.aload_n 0, 1) := by decide +kernel
theorem d_V_tidy_40 : decode c_V_tidy 40 = .ok (.getfield 41, 3) := by decide +kernel
theorem d_V_tidy_43 : decode c_V_tidy 43 = .ok (.iload_n 2, 1) := by decide +kernel
theorem d_V_tidy_44 : decode c_V_tidy 44 = .ok (.iaload, 1) := by decide +kernel
theorem d_V_tidy_45 : decode c_V_tidy 45 = .ok (.invokevirtual 111, 3) := by decide +kernel
theorem d_V_tidy_48 : decode c_V_tidy 48 = .ok (.istore 4, 2) := by decide +kernel
theorem d_V_tidy_50 : decode c_V_tidy 50 = .ok (.iload_n 2, 1) := by decide +kernel
theorem d_V_tidy_51 : decode c_V_tidy 51 = .ok (.ifCond .ne 14, 3) := by decide +kernel
theorem d_V_tidy_54 : decode c_V_tidy 54 = .ok (.aload_n 0, 1) := by decide +kernel
theorem d_V_tidy_55 : decode c_V_tidy 55 = .ok (.getfield 12, 3) := by decide +kernel
theorem d_V_tidy_58 : decode c_V_tidy 58 = .ok (.iconst 0, 1) := by decide +kernel
theorem d_V_tidy_59 : decode c_V_tidy 59 = .ok (.invokevirtual 49, 3) := by decide +kernel
theorem d_V_tidy_62 : decode c_V_tidy 62 = .ok (.goto 7, 3) := by decide +kernel
theorem d_V_tidy_65 : decode c_V_tidy 65 = .ok (.iload 4, 2) := by decide +kernel
theorem d_V_tidy_67 : decode c_V_tidy 67 = .ok (.iconst 1, 1) := by decide +kernel
theorem d_V_tidy_68 : decode c_V_tidy 68 = .ok (.iadd, 1) := by decide +kernel
theorem d_V_tidy_69 : decode c_V_tidy 69 = .ok (.istore 5, 2) := by decide +kernel
theorem d_V_tidy_71 : decode c_V_tidy 71 = .ok (.aload_n 0, 1) := by decide +kernel
theorem d_V_tidy_72 : decode c_V_tidy 72 = .ok (.iload 4, 2) := by decide +kernel
theorem d_V_tidy_74 : decode c_V_tidy 74 = .ok (.iload 5, 2) := by decide +kernel
theorem d_V_tidy_76 : decode c_V_tidy 76 = .ok (.iload_n 2, 1) := by decide +kernel
theorem d_V_tidy_77 : decode c_V_tidy 77 = .ok (.iconst 1, 1) := by decide +kernel
theorem d_V_tidy_78 : decode c_V_tidy 78 = .ok (.iadd, 1) := by decide +kernel
theorem d_V_tidy_79 : decode c_V_tidy 79 = .ok (.iload_n 1, 1) := by decide +kernel
theorem d_V_tidy_80 : decode c_V_tidy 80 = .ok (.invokevirtual 115, 3) := by decide +kernel
theorem d_V_tidy_83 : decode c_V_tidy 83 = .ok (.aload_n 0, 1) := by decide +kernel
theorem d_V_tidy_84 : decode c_V_tidy 84 = .ok (.invokevirtual 107, 3) := by decide +kernel
theorem d_V_tidy_87 : decode c_V_tidy 87 = .ok (.istore_n 2, 1) := by decide +kernel
theorem d_V_tidy_88 : decode c_V_tidy 88 = .ok (.iinc 3 1, 3) := by decide +kernel
theorem d_V_tidy_91 : decode c_V_tidy 91 = .ok (.goto (-84), 3) := by decide +kernel
theorem d_V_tidy_94 : decode c_V_tidy 94 = .ok (.return_, 1) := by decide +kernel
theorem d_L_giveUp_0 : decode c_L_giveUp 0 = .ok (.aload_n 0, 1) := by decide +kernel
theorem d_L_giveUp_1 : decode c_L_giveUp 1 = .ok (.getfield 19, 3) := by decide +kernel
theorem d_L_giveUp_4 : decode c_L_giveUp 4 = .ok (.invokevirtual 148, 3) := by decide +kernel
theorem d_L_giveUp_7 : decode c_L_giveUp 7 = .ok (.istore_n 1, 1) := by decide +kernel
theorem d_L_giveUp_8 : decode c_L_giveUp 8 = .ok (.aload_n 0, 1) := by decide +kernel
theorem d_L_giveUp_9 : decode c_L_giveUp 9 = .ok (.getfield 19, 3) := by decide +kernel
theorem d_L_giveUp_12 : decode c_L_giveUp 12 = .ok (.aload_n 0, 1) := by decide +kernel
theorem d_L_giveUp_13 : decode c_L_giveUp 13 = .ok (.invokevirtual 106, 3) := by decide +kernel
theorem d_L_giveUp_16 : decode c_L_giveUp 16 = .ok (.invokevirtual 109, 3) := by decide +kernel
theorem d_L_giveUp_19 : decode c_L_giveUp 19 = .ok (.iload_n 1, 1) := by decide +kernel
theorem d_L_giveUp_20 : decode c_L_giveUp 20 = .ok (.ireturn, 1) := by decide +kernel
theorem d_L_requireWithin_0 : decode c_L_requireWithin 0 = .ok (.iload_n 0, 1) := by decide +kernel
theorem d_L_requireWithin_1 : decode c_L_requireWithin 1 = .ok (.iload_n 1, 1) := by decide +kernel
theorem d_L_requireWithin_2 : decode c_L_requireWithin 2 = .ok (.if_icmp .lt 8, 3) := by decide +kernel
theorem d_L_requireWithin_5 : decode c_L_requireWithin 5 = .ok (.iload_n 0, 1) := by decide +kernel
theorem d_L_requireWithin_6 : decode c_L_requireWithin 6 = .ok (.iload_n 2, 1) := by decide +kernel
theorem d_L_requireWithin_7 : decode c_L_requireWithin 7 = .ok (.if_icmp .le 11, 3) := by decide +kernel
theorem d_L_requireWithin_10 : decode c_L_requireWithin 10 = .ok (.new 196, 3) := by decide +kernel
theorem d_L_requireWithin_13 : decode c_L_requireWithin 13 = .ok (.dup, 1) := by decide +kernel
theorem d_L_requireWithin_14 : decode c_L_requireWithin 14 = .ok (.invokespecial 198, 3) := by decide +kernel
theorem d_L_requireWithin_17 : decode c_L_requireWithin 17 = .ok (.athrow, 1) := by decide +kernel
theorem d_L_requireWithin_18 : decode c_L_requireWithin 18 = .ok (.return_, 1) := by decide +kernel
theorem d_E_add_0 : decode c_E_add 0 = .ok (.aload_n 0, 1) := by decide +kernel
theorem d_E_add_1 : decode c_E_add 1 = .ok (.getfield 9, 3) := by decide +kernel
theorem d_E_add_4 : decode c_E_add 4 = .ok (.aload_n 0, 1) := by decide +kernel
theorem d_E_add_5 : decode c_E_add 5 = .ok (.getfield 28, 3) := by decide +kernel
theorem d_E_add_8 : decode c_E_add 8 = .ok (.iload_n 1, 1) := by decide +kernel
theorem d_E_add_9 : decode c_E_add 9 = .ok (.iastore, 1) := by decide +kernel
theorem d_E_add_10 : decode c_E_add 10 = .ok (.aload_n 0, 1) := by decide +kernel
theorem d_E_add_11 : decode c_E_add 11 = .ok (.getfield 15, 3) := by decide +kernel
theorem d_E_add_14 : decode c_E_add 14 = .ok (.aload_n 0, 1) := by decide +kernel
theorem d_E_add_15 : decode c_E_add 15 = .ok (.getfield 28, 3) := by decide +kernel
theorem d_E_add_18 : decode c_E_add 18 = .ok (.iload_n 2, 1) := by decide +kernel
theorem d_E_add_19 : decode c_E_add 19 = .ok (.iastore, 1) := by decide +kernel
theorem d_E_add_20 : decode c_E_add 20 = .ok (.aload_n 0, 1) := by decide +kernel
theorem d_E_add_21 : decode c_E_add 21 = .ok (.getfield 18, 3) := by decide +kernel
theorem d_E_add_24 : decode c_E_add 24 = .ok (.aload_n 0, 1) := by decide +kernel
theorem d_E_add_25 : decode c_E_add 25 = .ok (.getfield 28, 3) := by decide +kernel
theorem d_E_add_28 : decode c_E_add 28 = .ok (.iload_n 3, 1) := by decide +kernel
theorem d_E_add_29 : decode c_E_add 29 = .ok (.iastore, 1) := by decide +kernel
theorem d_E_add_30 : decode c_E_add 30 = .ok (.aload_n 0, 1) := by decide +kernel
theorem d_E_add_31 : decode c_E_add 31 = .ok (.getfield 21, 3) := by decide +kernel
theorem d_E_add_34 : decode c_E_add 34 = .ok (.aload_n 0, 1) := by decide +kernel
theorem d_E_add_35 : decode c_E_add 35 = .ok (.getfield 28, 3) := by decide +kernel
theorem d_E_add_38 : decode c_E_add 38 = .ok (.iload 4, 2) := by decide +kernel
theorem d_E_add_40 : decode c_E_add 40 = .ok (.bastore, 1) := by decide +kernel
theorem d_E_add_41 : decode c_E_add 41 = .ok (.aload_n 0, 1) := by decide +kernel
theorem d_E_add_42 : decode c_E_add 42 = .ok (.getfield 25, 3) := by decide +kernel
theorem d_E_add_45 : decode c_E_add 45 = .ok (.aload_n 0, 1) := by decide +kernel
theorem d_E_add_46 : decode c_E_add 46 = .ok (.getfield 28, 3) := by decide +kernel
theorem d_E_add_49 : decode c_E_add 49 = .ok (.iconst 0, 1) := by decide +kernel
theorem d_E_add_50 : decode c_E_add 50 = .ok (.bastore, 1) := by decide +kernel
theorem d_E_add_51 : decode c_E_add 51 = .ok (.aload_n 0, 1) := by decide +kernel
theorem d_E_add_52 : decode c_E_add 52 = .ok (.dup, 1) := by decide +kernel
theorem d_E_add_53 : decode c_E_add 53 = .ok (.getfield 28, 3) := by decide +kernel
theorem d_E_add_56 : decode c_E_add 56 = .ok (.iconst 1, 1) := by decide +kernel
theorem d_E_add_57 : decode c_E_add 57 = .ok (.iadd, 1) := by decide +kernel
theorem d_E_add_58 : decode c_E_add 58 = .ok (.putfield 28, 3) := by decide +kernel
theorem d_E_add_61 : decode c_E_add 61 = .ok (.return_, 1) := by decide +kernel
theorem d_L_addToPending_0 : decode c_L_addToPending 0 = .ok (.iload_n 1, 1) := by decide +kernel
theorem d_L_addToPending_1 : decode c_L_addToPending 1 = .ok (.iconst 0, 1) := by decide +kernel
theorem d_L_addToPending_2 : decode c_L_addToPending 2 = .ok (.bipush 63, 2) := by decide +kernel
theorem d_L_addToPending_4 : decode c_L_addToPending 4 = .ok (.invokestatic 73, 3) := by decide +kernel
theorem d_L_addToPending_7 : decode c_L_addToPending 7 = .ok (.aload_n 0, 1) := by decide +kernel
theorem d_L_addToPending_8 : decode c_L_addToPending 8 = .ok (.getfield 46, 3) := by decide +kernel
theorem d_L_addToPending_11 : decode c_L_addToPending 11 = .ok (.ifCond .ne 11, 3) := by decide +kernel
theorem d_L_addToPending_14 : decode c_L_addToPending 14 = .ok (.aload_n 0, 1) := by decide +kernel
theorem d_L_addToPending_15 : decode c_L_addToPending 15 = .ok (.getfield 28, 3) := by decide +kernel
theorem d_L_addToPending_18 : decode c_L_addToPending 18 = .ok (.iconst 0, 1) := by decide +kernel
theorem d_L_addToPending_19 : decode c_L_addToPending 19 = .ok (.putfield 50, 3) := by decide +kernel
theorem d_L_addToPending_22 : decode c_L_addToPending 22 = .ok (.aload_n 0, 1) := by decide +kernel
theorem d_L_addToPending_23 : decode c_L_addToPending 23 = .ok (.getfield 28, 3) := by decide +kernel
theorem d_L_addToPending_26 : decode c_L_addToPending 26 = .ok (.getfield 50, 3) := by decide +kernel
theorem d_L_addToPending_29 : decode c_L_addToPending 29 = .ok (.iconst 4, 1) := by decide +kernel
theorem d_L_addToPending_30 : decode c_L_addToPending 30 = .ok (.if_icmp .lt 11, 3) := by decide +kernel
theorem d_L_addToPending_33 : decode c_L_addToPending 33 = .ok (.new 64, 3) := by decide +kernel
theorem d_L_addToPending_36 : decode c_L_addToPending 36 = .ok (.dup, 1) := by decide +kernel
theorem d_L_addToPending_37 : decode c_L_addToPending 37 = .ok (.invokespecial 66, 3) := by decide +kernel
theorem d_L_addToPending_40 : decode c_L_addToPending 40 = .ok (.athrow, 1) := by decide +kernel
theorem d_L_addToPending_41 : decode c_L_addToPending 41 = .ok (.aload_n 0, 1) := by decide +kernel
theorem d_L_addToPending_42 : decode c_L_addToPending 42 = .ok (.getfield 28, 3) := by decide +kernel
theorem d_L_addToPending_45 : decode c_L_addToPending 45 = .ok (.iload_n 1, 1) := by decide +kernel
end
section
/-! DECODED INSTRUCTIONS -/
theorem d_L_addToPending_46 : decode c_L_addToPending 46 = .ok (.iconst 0, 1) := by decide +kernel
theorem d_L_addToPending_47 : decode c_L_addToPending 47 = .ok (.iload_n 2, 1) := by decide +kernel
theorem d_L_addToPending_48 : decode c_L_addToPending 48 = .ok (.iload_n 3, 1) := by decide +kernel
theorem d_L_addToPending_49 : decode c_L_addToPending 49 = .ok (.invokevirtual 202, 3) := by decide +kernel
theorem d_L_addToPending_52 : decode c_L_addToPending 52 = .ok (.return_, 1) := by decide +kernel
theorem d_V_isBlocked_0 : decode c_V_isBlocked 0 = .ok (.aload_n 0, 1) := by decide +kernel
theorem d_V_isBlocked_1 : decode c_V_isBlocked 1 = .ok (.getfield 45, 3) := by decide +kernel
theorem d_V_isBlocked_4 : decode c_V_isBlocked 4 = .ok (.ifCond .eq 20, 3) := by decide +kernel
theorem d_V_isBlocked_7 : decode c_V_isBlocked 7 = .ok (.aload_n 0, 1) := by decide +kernel
theorem d_V_isBlocked_8 : decode c_V_isBlocked 8 = .ok (.getfield 12, 3) := by decide +kernel
theorem d_V_isBlocked_11 : decode c_V_isBlocked 11 = .ok (.iconst 0, 1) := by decide +kernel
theorem d_V_isBlocked_12 : decode c_V_isBlocked 12 = .ok (.invokevirtual 49, 3) := by decide +kernel
theorem d_V_isBlocked_15 : decode c_V_isBlocked 15 = .ok (.bipush 8, 2) := by decide +kernel
theorem d_V_isBlocked_17 : decode c_V_isBlocked 17 = .ok (.if_icmp .lt 7, 3) := by decide +kernel
theorem d_V_isBlocked_20 : decode c_V_isBlocked 20 = .ok (.iconst 1, 1) := by decide +kernel
theorem d_V_isBlocked_21 : decode c_V_isBlocked 21 = .ok (.goto 4, 3) := by decide +kernel
theorem d_V_isBlocked_24 : decode c_V_isBlocked 24 = .ok (.iconst 0, 1) := by decide +kernel
theorem d_V_isBlocked_25 : decode c_V_isBlocked 25 = .ok (.ireturn, 1) := by decide +kernel
theorem d_M_addRecord_0 : decode c_M_addRecord 0 = .ok (.iconst 0, 1) := by decide +kernel
theorem d_M_addRecord_1 : decode c_M_addRecord 1 = .ok (.istore_n 3, 1) := by decide +kernel
theorem d_M_addRecord_2 : decode c_M_addRecord 2 = .ok (.iload_n 3, 1) := by decide +kernel
theorem d_M_addRecord_3 : decode c_M_addRecord 3 = .ok (.aload_n 1, 1) := by decide +kernel
theorem d_M_addRecord_4 : decode c_M_addRecord 4 = .ok (.getfield 24, 3) := by decide +kernel
theorem d_M_addRecord_7 : decode c_M_addRecord 7 = .ok (.if_icmp .ge 39, 3) := by decide +kernel
theorem d_M_addRecord_10 : decode c_M_addRecord 10 = .ok (.aload_n 0, 1) := by decide +kernel
theorem d_M_addRecord_11 : decode c_M_addRecord 11 = .ok (.getfield 14, 3) := by decide +kernel
theorem d_M_addRecord_14 : decode c_M_addRecord 14 = .ok (.aload_n 1, 1) := by decide +kernel
theorem d_M_addRecord_15 : decode c_M_addRecord 15 = .ok (.getfield 28, 3) := by decide +kernel
theorem d_M_addRecord_18 : decode c_M_addRecord 18 = .ok (.iload_n 3, 1) := by decide +kernel
theorem d_M_addRecord_19 : decode c_M_addRecord 19 = .ok (.iaload, 1) := by decide +kernel
theorem d_M_addRecord_20 : decode c_M_addRecord 20 = .ok (.iload_n 2, 1) := by decide +kernel
theorem d_M_addRecord_21 : decode c_M_addRecord 21 = .ok (.iconst 1, 1) := by decide +kernel
theorem d_M_addRecord_22 : decode c_M_addRecord 22 = .ok (.iadd, 1) := by decide +kernel
theorem d_M_addRecord_23 : decode c_M_addRecord 23 = .ok (.iload_n 3, 1) := by decide +kernel
theorem d_M_addRecord_24 : decode c_M_addRecord 24 = .ok (.iadd, 1) := by decide +kernel
theorem d_M_addRecord_25 : decode c_M_addRecord 25 = .ok (.aload_n 1, 1) := by decide +kernel
theorem d_M_addRecord_26 : decode c_M_addRecord 26 = .ok (.getfield 31, 3) := by decide +kernel
theorem d_M_addRecord_29 : decode c_M_addRecord 29 = .ok (.iload_n 3, 1) := by decide +kernel
theorem d_M_addRecord_30 : decode c_M_addRecord 30 = .ok (.iaload, 1) := by decide +kernel
theorem d_M_addRecord_31 : decode c_M_addRecord 31 = .ok (.aload_n 1, 1) := by decide +kernel
theorem d_M_addRecord_32 : decode c_M_addRecord 32 = .ok (.getfield 34, 3) := by decide +kernel
theorem d_M_addRecord_35 : decode c_M_addRecord 35 = .ok (.iload_n 3, 1) := by decide +kernel
theorem d_M_addRecord_36 : decode c_M_addRecord 36 = .ok (.baload, 1) := by decide +kernel
theorem d_M_addRecord_37 : decode c_M_addRecord 37 = .ok (.invokevirtual 38, 3) := by decide +kernel
theorem d_M_addRecord_40 : decode c_M_addRecord 40 = .ok (.iinc 3 1, 3) := by decide +kernel
theorem d_M_addRecord_43 : decode c_M_addRecord 43 = .ok (.goto (-41), 3) := by decide +kernel
theorem d_M_addRecord_46 : decode c_M_addRecord 46 = .ok (.aload_n 0, 1) := by decide +kernel
theorem d_M_addRecord_47 : decode c_M_addRecord 47 = .ok (.dup, 1) := by decide +kernel
theorem d_M_addRecord_48 : decode c_M_addRecord 48 = .ok (.getfield 42, 3) := by decide +kernel
theorem d_M_addRecord_51 : decode c_M_addRecord 51 = .ok (.iconst 1, 1) := by decide +kernel
theorem d_M_addRecord_52 : decode c_M_addRecord 52 = .ok (.iadd, 1) := by decide +kernel
theorem d_M_addRecord_53 : decode c_M_addRecord 53 = .ok (.putfield 42, 3) := by decide +kernel
theorem d_M_addRecord_56 : decode c_M_addRecord 56 = .ok (.aload_n 0, 1) := by decide +kernel
theorem d_M_addRecord_57 : decode c_M_addRecord 57 = .ok (.getfield 20, 3) := by decide +kernel
theorem d_M_addRecord_60 : decode c_M_addRecord 60 = .ok (.aload_n 0, 1) := by decide +kernel
theorem d_M_addRecord_61 : decode c_M_addRecord 61 = .ok (.getfield 42, 3) := by decide +kernel
theorem d_M_addRecord_64 : decode c_M_addRecord 64 = .ok (.aload_n 0, 1) := by decide +kernel
theorem d_M_addRecord_65 : decode c_M_addRecord 65 = .ok (.getfield 14, 3) := by decide +kernel
theorem d_M_addRecord_68 : decode c_M_addRecord 68 = .ok (.getfield 24, 3) := by decide +kernel
theorem d_M_addRecord_71 : decode c_M_addRecord 71 = .ok (.iastore, 1) := by decide +kernel
theorem d_M_addRecord_72 : decode c_M_addRecord 72 = .ok (.return_, 1) := by decide +kernel
theorem d_V_addToLevel0_0 : decode c_V_addToLevel0 0 = .ok (.aload_n 0, 1) := by decide +kernel
theorem d_V_addToLevel0_1 : decode c_V_addToLevel0 1 = .ok (.getfield 24, 3) := by decide +kernel
theorem d_V_addToLevel0_4 : decode c_V_addToLevel0 4 = .ok (.getfield 53, 3) := by decide +kernel
theorem d_V_addToLevel0_7 : decode c_V_addToLevel0 7 = .ok (.iconst 0, 1) := by decide +kernel
theorem d_V_addToLevel0_8 : decode c_V_addToLevel0 8 = .ok (.putfield 56, 3) := by decide +kernel
theorem d_V_addToLevel0_11 : decode c_V_addToLevel0 11 = .ok (.aload_n 1, 1) := by decide +kernel
theorem d_V_addToLevel0_12 : decode c_V_addToLevel0 12 = .ok (.getfield 56, 3) := by decide +kernel
theorem d_V_addToLevel0_15 : decode c_V_addToLevel0 15 = .ok (.iconst 1, 1) := by decide +kernel
theorem d_V_addToLevel0_16 : decode c_V_addToLevel0 16 = .ok (.isub, 1) := by decide +kernel
theorem d_V_addToLevel0_17 : decode c_V_addToLevel0 17 = .ok (.istore_n 2, 1) := by decide +kernel
theorem d_V_addToLevel0_18 : decode c_V_addToLevel0 18 = .ok (.iload_n 2, 1) := by decide +kernel
theorem d_V_addToLevel0_19 : decode c_V_addToLevel0 19 = .ok (.ifCond .lt 21, 3) := by decide +kernel
theorem d_V_addToLevel0_22 : decode c_V_addToLevel0 22 = .ok (.aload_n 0, 1) := by decide +kernel
theorem d_V_addToLevel0_23 : decode c_V_addToLevel0 23 = .ok (.getfield 24, 3) := by decide +kernel
theorem d_V_addToLevel0_26 : decode c_V_addToLevel0 26 = .ok (.getfield 53, 3) := by decide +kernel
theorem d_V_addToLevel0_29 : decode c_V_addToLevel0 29 = .ok (.aload_n 1, 1) := by decide +kernel
theorem d_V_addToLevel0_30 : decode c_V_addToLevel0 30 = .ok (.iload_n 2, 1) := by decide +kernel
theorem d_V_addToLevel0_31 : decode c_V_addToLevel0 31 = .ok (.invokevirtual 60, 3) := by decide +kernel
theorem d_V_addToLevel0_34 : decode c_V_addToLevel0 34 = .ok (.iinc 2 (-1), 3) := by decide +kernel
theorem d_V_addToLevel0_37 : decode c_V_addToLevel0 37 = .ok (.goto (-19), 3) := by decide +kernel
theorem d_V_addToLevel0_40 : decode c_V_addToLevel0 40 = .ok (.aload_n 0, 1) := by decide +kernel
theorem d_V_addToLevel0_41 : decode c_V_addToLevel0 41 = .ok (.getfield 18, 3) := by decide +kernel
theorem d_V_addToLevel0_44 : decode c_V_addToLevel0 44 = .ok (.invokevirtual 64, 3) := by decide +kernel
theorem d_V_addToLevel0_47 : decode c_V_addToLevel0 47 = .ok (.aload_n 0, 1) := by decide +kernel
theorem d_V_addToLevel0_48 : decode c_V_addToLevel0 48 = .ok (.getfield 24, 3) := by decide +kernel
theorem d_V_addToLevel0_51 : decode c_V_addToLevel0 51 = .ok (.aload_n 0, 1) := by decide +kernel
theorem d_V_addToLevel0_52 : decode c_V_addToLevel0 52 = .ok (.getfield 18, 3) := by decide +kernel
theorem d_V_addToLevel0_55 : decode c_V_addToLevel0 55 = .ok (.getfield 67, 3) := by decide +kernel
theorem d_V_addToLevel0_58 : decode c_V_addToLevel0 58 = .ok (.invokevirtual 70, 3) := by decide +kernel
theorem d_V_addToLevel0_61 : decode c_V_addToLevel0 61 = .ok (.aload_n 0, 1) := by decide +kernel
theorem d_V_addToLevel0_62 : decode c_V_addToLevel0 62 = .ok (.iconst 0, 1) := by decide +kernel
theorem d_V_addToLevel0_63 : decode c_V_addToLevel0 63 = .ok (.invokevirtual 74, 3) := by decide +kernel
theorem d_V_addToLevel0_66 : decode c_V_addToLevel0 66 = .ok (.iconst 0, 1) := by decide +kernel
theorem d_V_addToLevel0_67 : decode c_V_addToLevel0 67 = .ok (.istore_n 2, 1) := by decide +kernel
theorem d_V_addToLevel0_68 : decode c_V_addToLevel0 68 = .ok (.iload_n 2, 1) := by decide +kernel
theorem d_V_addToLevel0_69 : decode c_V_addToLevel0 69 = .ok (.aload_n 0, 1) := by decide +kernel
theorem d_V_addToLevel0_70 : decode c_V_addToLevel0 70 = .ok (.getfield 12, 3) := by decide +kernel
theorem d_V_addToLevel0_73 : decode c_V_addToLevel0 73 = .ok (.getfield 77, 3) := by decide +kernel
theorem d_V_addToLevel0_76 : decode c_V_addToLevel0 76 = .ok (.if_icmp .ge 21, 3) := by decide +kernel
theorem d_V_addToLevel0_79 : decode c_V_addToLevel0 79 = .ok (.aload_n 0, 1) := by decide +kernel
theorem d_V_addToLevel0_80 : decode c_V_addToLevel0 80 = .ok (.getfield 18, 3) := by decide +kernel
theorem d_V_addToLevel0_83 : decode c_V_addToLevel0 83 = .ok (.aload_n 0, 1) := by decide +kernel
theorem d_V_addToLevel0_84 : decode c_V_addToLevel0 84 = .ok (.getfield 12, 3) := by decide +kernel
theorem d_V_addToLevel0_87 : decode c_V_addToLevel0 87 = .ok (.iload_n 2, 1) := by decide +kernel
theorem d_V_addToLevel0_88 : decode c_V_addToLevel0 88 = .ok (.invokevirtual 80, 3) := by decide +kernel
theorem d_V_addToLevel0_91 : decode c_V_addToLevel0 91 = .ok (.iinc 2 1, 3) := by decide +kernel
theorem d_V_addToLevel0_94 : decode c_V_addToLevel0 94 = .ok (.goto (-26), 3) := by decide +kernel
theorem d_V_addToLevel0_97 : decode c_V_addToLevel0 97 = .ok (.aload_n 0, 1) := by decide +kernel
theorem d_V_addToLevel0_98 : decode c_V_addToLevel0 98 = .ok (.invokevirtual 84, 3) := by decide +kernel
theorem d_V_addToLevel0_101 : decode c_V_addToLevel0 101 = .ok (.return_, 1) := by decide +kernel
theorem d_M_clear_0 : decode c_M_clear 0 = .ok (.aload_n 0, 1) := by decide +kernel
theorem d_M_clear_1 : decode c_M_clear 1 = .ok (.getfield 14, 3) := by decide +kernel
theorem d_M_clear_4 : decode c_M_clear 4 = .ok (.iconst 0, 1) := by decide +kernel
theorem d_M_clear_5 : decode c_M_clear 5 = .ok (.putfield 24, 3) := by decide +kernel
theorem d_M_clear_8 : decode c_M_clear 8 = .ok (.aload_n 0, 1) := by decide +kernel
theorem d_M_clear_9 : decode c_M_clear 9 = .ok (.iconst 0, 1) := by decide +kernel
theorem d_M_clear_10 : decode c_M_clear 10 = .ok (.putfield 42, 3) := by decide +kernel
theorem d_M_clear_13 : decode c_M_clear 13 = .ok (.aload_n 0, 1) := by decide +kernel
theorem d_M_clear_14 : decode c_M_clear 14 = .ok (.iconst 0, 1) := by decide +kernel
theorem d_M_clear_15 : decode c_M_clear 15 = .ok (.putfield 45, 3) := by decide +kernel
theorem d_M_clear_18 : decode c_M_clear 18 = .ok (.return_, 1) := by decide +kernel
theorem d_L_moveMemoryToLevel0_0 : decode c_L_moveMemoryToLevel0 0 = .ok (.aload_n 0, 1) := by decide +kernel
theorem d_L_moveMemoryToLevel0_1 : decode c_L_moveMemoryToLevel0 1 = .ok (.getfield 19, 3) := by decide +kernel
theorem d_L_moveMemoryToLevel0_4 : decode c_L_moveMemoryToLevel0 4 = .ok (.aload_n 0, 1) := by decide +kernel
theorem d_L_moveMemoryToLevel0_5 : decode c_L_moveMemoryToLevel0 5 = .ok (.getfield 10, 3) := by decide +kernel
theorem d_L_moveMemoryToLevel0_8 : decode c_L_moveMemoryToLevel0 8 = .ok (.getfield 80, 3) := by decide +kernel
theorem d_L_moveMemoryToLevel0_11 : decode c_L_moveMemoryToLevel0 11 = .ok (.invokevirtual 210, 3) := by decide +kernel
theorem d_L_moveMemoryToLevel0_14 : decode c_L_moveMemoryToLevel0 14 = .ok (.aload_n 0, 1) := by decide +kernel
theorem d_L_moveMemoryToLevel0_15 : decode c_L_moveMemoryToLevel0 15 = .ok (.getfield 10, 3) := by decide +kernel
theorem d_L_moveMemoryToLevel0_18 : decode c_L_moveMemoryToLevel0 18 = .ok (.invokevirtual 214, 3) := by decide +kernel
theorem d_L_moveMemoryToLevel0_21 : decode c_L_moveMemoryToLevel0 21 = .ok (.return_, 1) := by decide +kernel
theorem d_L_write_0 : decode c_L_write 0 = .ok (.aload_n 0, 1) := by decide +kernel
theorem d_L_write_1 : decode c_L_write 1 = .ok (.getfield 10, 3) := by decide +kernel
theorem d_L_write_4 : decode c_L_write 4 = .ok (.getfield 80, 3) := by decide +kernel
theorem d_L_write_7 : decode c_L_write 7 = .ok (.getfield 50, 3) := by decide +kernel
theorem d_L_write_10 : decode c_L_write 10 = .ok (.aload_n 0, 1) := by decide +kernel
theorem d_L_write_11 : decode c_L_write 11 = .ok (.getfield 19, 3) := by decide +kernel
theorem d_L_write_14 : decode c_L_write 14 = .ok (.getfield 86, 3) := by decide +kernel
theorem d_L_write_17 : decode c_L_write 17 = .ok (.getfield 90, 3) := by decide +kernel
theorem d_L_write_20 : decode c_L_write 20 = .ok (.getfield 50, 3) := by decide +kernel
theorem d_L_write_23 : decode c_L_write 23 = .ok (.iadd, 1) := by decide +kernel
theorem d_L_write_24 : decode c_L_write 24 = .ok (.aload_n 0, 1) := by decide +kernel
theorem d_L_write_25 : decode c_L_write 25 = .ok (.getfield 28, 3) := by decide +kernel
theorem d_L_write_28 : decode c_L_write 28 = .ok (.getfield 50, 3) := by decide +kernel
theorem d_L_write_31 : decode c_L_write 31 = .ok (.iadd, 1) := by decide +kernel
theorem d_L_write_32 : decode c_L_write 32 = .ok (.istore_n 1, 1) := by decide +kernel
theorem d_L_write_33 : decode c_L_write 33 = .ok (.iload_n 1, 1) := by decide +kernel
theorem d_L_write_34 : decode c_L_write 34 = .ok (.sipush 240, 3) := by decide +kernel
theorem d_L_write_37 : decode c_L_write 37 = .ok (.if_icmp .gt 13, 3) := by decide +kernel
theorem d_L_write_40 : decode c_L_write 40 = .ok (.aload_n 0, 1) := by decide +kernel
theorem d_L_write_41 : decode c_L_write 41 = .ok (.getfield 19, 3) := by decide +kernel
theorem d_L_write_44 : decode c_L_write 44 = .ok (.invokevirtual 99, 3) := by decide +kernel
theorem d_L_write_47 : decode c_L_write 47 = .ok (.ifCond .eq 11, 3) := by decide +kernel
theorem d_L_write_50 : decode c_L_write 50 = .ok (.new 58, 3) := by decide +kernel
theorem d_L_write_53 : decode c_L_write 53 = .ok (.dup, 1) := by decide +kernel
theorem d_L_write_54 : decode c_L_write 54 = .ok (.invokespecial 60, 3) := by decide +kernel
theorem d_L_write_57 : decode c_L_write 57 = .ok (.athrow, 1) := by decide +kernel
theorem d_L_write_58 : decode c_L_write 58 = .ok (.aload_n 0, 1) := by decide +kernel
theorem d_L_write_59 : decode c_L_write 59 = .ok (.getfield 10, 3) := by decide +kernel
theorem d_L_write_62 : decode c_L_write 62 = .ok (.aload_n 0, 1) := by decide +kernel
theorem d_L_write_63 : decode c_L_write 63 = .ok (.getfield 28, 3) := by decide +kernel
theorem d_L_write_66 : decode c_L_write 66 = .ok (.aload_n 0, 1) := by decide +kernel
theorem d_L_write_67 : decode c_L_write 67 = .ok (.getfield 61, 3) := by decide +kernel
theorem d_L_write_70 : decode c_L_write 70 = .ok (.invokevirtual 206, 3) := by decide +kernel
theorem d_L_write_73 : decode c_L_write 73 = .ok (.aload_n 0, 1) := by decide +kernel
theorem d_L_write_74 : decode c_L_write 74 = .ok (.dup, 1) := by decide +kernel
theorem d_L_write_75 : decode c_L_write 75 = .ok (.getfield 61, 3) := by decide +kernel
theorem d_L_write_78 : decode c_L_write 78 = .ok (.aload_n 0, 1) := by decide +kernel
theorem d_L_write_79 : decode c_L_write 79 = .ok (.getfield 28, 3) := by decide +kernel
theorem d_L_write_82 : decode c_L_write 82 = .ok (.getfield 50, 3) := by decide +kernel
theorem d_L_write_85 : decode c_L_write 85 = .ok (.iadd, 1) := by decide +kernel
theorem d_L_write_86 : decode c_L_write 86 = .ok (.putfield 61, 3) := by decide +kernel
theorem d_L_write_89 : decode c_L_write 89 = .ok (.aload_n 0, 1) := by decide +kernel
theorem d_L_write_90 : decode c_L_write 90 = .ok (.getfield 10, 3) := by decide +kernel
theorem d_L_write_93 : decode c_L_write 93 = .ok (.getfield 80, 3) := by decide +kernel
theorem d_L_write_96 : decode c_L_write 96 = .ok (.getfield 50, 3) := by decide +kernel
theorem d_L_write_99 : decode c_L_write 99 = .ok (.bipush 8, 2) := by decide +kernel
theorem d_L_write_101 : decode c_L_write 101 = .ok (.if_icmp .lt 18, 3) := by decide +kernel
theorem d_L_write_104 : decode c_L_write 104 = .ok (.aload_n 0, 1) := by decide +kernel
theorem d_L_write_105 : decode c_L_write 105 = .ok (.invokevirtual 103, 3) := by decide +kernel
theorem d_L_write_108 : decode c_L_write 108 = .ok (.aload_n 0, 1) := by decide +kernel
theorem d_L_write_109 : decode c_L_write 109 = .ok (.getfield 19, 3) := by decide +kernel
theorem d_L_write_112 : decode c_L_write 112 = .ok (.aload_n 0, 1) := by decide +kernel
theorem d_L_write_113 : decode c_L_write 113 = .ok (.invokevirtual 106, 3) := by decide +kernel
theorem d_L_write_116 : decode c_L_write 116 = .ok (.invokevirtual 109, 3) := by decide +kernel
theorem d_L_write_119 : decode c_L_write 119 = .ok (.aload_n 0, 1) := by decide +kernel
theorem d_L_write_120 : decode c_L_write 120 = .ok (.getfield 61, 3) := by decide +kernel
theorem d_L_write_123 : decode c_L_write 123 = .ok (.ireturn, 1) := by decide +kernel
theorem d_L_put_0 : decode c_L_put 0 = .ok (.aload_n 0, 1) := by decide +kernel
theorem d_L_put_1 : decode c_L_put 1 = .ok (.iload_n 1, 1) := by decide +kernel
theorem d_L_put_2 : decode c_L_put 2 = .ok (.iload_n 2, 1) := by decide +kernel
theorem d_L_put_3 : decode c_L_put 3 = .ok (.iconst 0, 1) := by decide +kernel
theorem d_L_put_4 : decode c_L_put 4 = .ok (.invokevirtual 42, 3) := by decide +kernel
theorem d_L_put_7 : decode c_L_put 7 = .ok (.aload_n 0, 1) := by decide +kernel
theorem d_L_put_8 : decode c_L_put 8 = .ok (.getfield 46, 3) := by decide +kernel
theorem d_L_put_11 : decode c_L_put 11 = .ok (.ifCond .eq 13, 3) := by decide +kernel
theorem d_L_put_14 : decode c_L_put 14 = .ok (.aload_n 0, 1) := by decide +kernel
theorem d_L_put_15 : decode c_L_put 15 = .ok (.getfield 28, 3) := by decide +kernel
theorem d_L_put_18 : decode c_L_put 18 = .ok (.getfield 50, 3) := by decide +kernel
theorem d_L_put_21 : decode c_L_put 21 = .ok (.goto 7, 3) := by decide +kernel
theorem d_L_put_24 : decode c_L_put 24 = .ok (.aload_n 0, 1) := by decide +kernel
theorem d_L_put_25 : decode c_L_put 25 = .ok (.invokevirtual 54, 3) := by decide +kernel
theorem d_L_put_28 : decode c_L_put 28 = .ok (.ireturn, 1) := by decide +kernel
theorem d_W_put_0 : decode c_W_put 0 = .ok (.aload_n 3, 1) := by decide +kernel
theorem d_W_put_1 : decode c_W_put 1 = .ok (.iconst 0, 1) := by decide +kernel
theorem d_W_put_2 : decode c_W_put 2 = .ok (.aload_n 0, 1) := by decide +kernel
theorem d_W_put_3 : decode c_W_put 3 = .ok (.iload_n 1, 1) := by decide +kernel
theorem d_W_put_4 : decode c_W_put 4 = .ok (.iload_n 2, 1) := by decide +kernel
theorem d_W_put_5 : decode c_W_put 5 = .ok (.invokevirtual 7, 3) := by decide +kernel
theorem d_W_put_8 : decode c_W_put 8 = .ok (.i2l, 1) := by decide +kernel
theorem d_W_put_9 : decode c_W_put 9 = .ok (.lastore, 1) := by decide +kernel
theorem d_W_put_10 : decode c_W_put 10 = .ok (.goto 15, 3) := by decide +kernel
theorem d_W_put_13 : decode c_W_put 13 = .ok (.astore 4, 2) := by decide +kernel
theorem d_W_put_15 : decode c_W_put 15 = .ok (.iconst 1, 1) := by decide +kernel
theorem d_W_put_16 : decode c_W_put 16 = .ok (.ireturn, 1) := by decide +kernel
theorem d_W_put_17 : decode c_W_put 17 = .ok (.astore 4, 2) := by decide +kernel
theorem d_W_put_19 : decode c_W_put 19 = .ok (.iconst 2, 1) := by decide +kernel
theorem d_W_put_20 : decode c_W_put 20 = .ok (.ireturn, 1) := by decide +kernel
theorem d_W_put_21 : decode c_W_put 21 = .ok (.astore 4, 2) := by decide +kernel
theorem d_W_put_23 : decode c_W_put 23 = .ok (.iconst 3, 1) := by decide +kernel
theorem d_W_put_24 : decode c_W_put 24 = .ok (.ireturn, 1) := by decide +kernel
theorem d_W_put_25 : decode c_W_put 25 = .ok (.iconst 0, 1) := by decide +kernel
theorem d_W_put_26 : decode c_W_put 26 = .ok (.ireturn, 1) := by decide +kernel
theorem d_L_remove_0 : decode c_L_remove 0 = .ok (.aload_n 0, 1) := by decide +kernel
theorem d_L_remove_1 : decode c_L_remove 1 = .ok (.iload_n 1, 1) := by decide +kernel
theorem d_L_remove_2 : decode c_L_remove 2 = .ok (.iconst 0, 1) := by decide +kernel
theorem d_L_remove_3 : decode c_L_remove 3 = .ok (.iconst 1, 1) := by decide +kernel
theorem d_L_remove_4 : decode c_L_remove 4 = .ok (.invokevirtual 42, 3) := by decide +kernel
theorem d_L_remove_7 : decode c_L_remove 7 = .ok (.aload_n 0, 1) := by decide +kernel
theorem d_L_remove_8 : decode c_L_remove 8 = .ok (.getfield 46, 3) := by decide +kernel
theorem d_L_remove_11 : decode c_L_remove 11 = .ok (.ifCond .eq 13, 3) := by decide +kernel
theorem d_L_remove_14 : decode c_L_remove 14 = .ok (.aload_n 0, 1) := by decide +kernel
theorem d_L_remove_15 : decode c_L_remove 15 = .ok (.getfield 28, 3) := by decide +kernel
theorem d_L_remove_18 : decode c_L_remove 18 = .ok (.getfield 50, 3) := by decide +kernel
theorem d_L_remove_21 : decode c_L_remove 21 = .ok (.goto 7, 3) := by decide +kernel
theorem d_L_remove_24 : decode c_L_remove 24 = .ok (.aload_n 0, 1) := by decide +kernel
theorem d_L_remove_25 : decode c_L_remove 25 = .ok (.invokevirtual 54, 3) := by decide +kernel
theorem d_L_remove_28 : decode c_L_remove 28 = .ok (.ireturn, 1) := by decide +kernel
theorem d_W_remove_0 : decode c_W_remove 0 = .ok (.aload_n 2, 1) := by decide +kernel
theorem d_W_remove_1 : decode c_W_remove 1 = .ok (.iconst 0, 1) := by decide +kernel
theorem d_W_remove_2 : decode c_W_remove 2 = .ok (.aload_n 0, 1) := by decide +kernel
theorem d_W_remove_3 : decode c_W_remove 3 = .ok (.iload_n 1, 1) := by decide +kernel
theorem d_W_remove_4 : decode c_W_remove 4 = .ok (.invokevirtual 19, 3) := by decide +kernel
theorem d_W_remove_7 : decode c_W_remove 7 = .ok (.i2l, 1) := by decide +kernel
theorem d_W_remove_8 : decode c_W_remove 8 = .ok (.lastore, 1) := by decide +kernel
theorem d_W_remove_9 : decode c_W_remove 9 = .ok (.goto 12, 3) := by decide +kernel
theorem d_W_remove_12 : decode c_W_remove 12 = .ok (.astore_n 3, 1) := by decide +kernel
theorem d_W_remove_13 : decode c_W_remove 13 = .ok (.iconst 1, 1) := by decide +kernel
theorem d_W_remove_14 : decode c_W_remove 14 = .ok (.ireturn, 1) := by decide +kernel
theorem d_W_remove_15 : decode c_W_remove 15 = .ok (.astore_n 3, 1) := by decide +kernel
theorem d_W_remove_16 : decode c_W_remove 16 = .ok (.iconst 2, 1) := by decide +kernel
theorem d_W_remove_17 : decode c_W_remove 17 = .ok (.ireturn, 1) := by decide +kernel
theorem d_W_remove_18 : decode c_W_remove 18 = .ok (.astore_n 3, 1) := by decide +kernel
theorem d_W_remove_19 : decode c_W_remove 19 = .ok (.iconst 3, 1) := by decide +kernel
theorem d_W_remove_20 : decode c_W_remove 20 = .ok (.ireturn, 1) := by decide +kernel
theorem d_W_remove_21 : decode c_W_remove 21 = .ok (.iconst 0, 1) := by decide +kernel
theorem d_W_remove_22 : decode c_W_remove 22 = .ok (.ireturn, 1) := by decide +kernel
theorem d_L_open_0 : decode c_L_open 0 = .ok (.aload_n 0, 1) := by decide +kernel
theorem d_L_open_1 : decode c_L_open 1 = .ok (.getfield 46, 3) := by decide +kernel
theorem d_L_open_4 : decode c_L_open 4 = .ok (.ifCond .eq 11, 3) := by decide +kernel
theorem d_L_open_7 : decode c_L_open 7 = .ok (.new 58, 3) := by decide +kernel
theorem d_L_open_10 : decode c_L_open 10 = .ok (.dup, 1) := by decide +kernel
theorem d_L_open_11 : decode c_L_open 11 = .ok (.invokespecial 60, 3) := by decide +kernel
theorem d_L_open_14 : decode c_L_open 14 = .ok (.athrow, 1) := by decide +kernel
theorem d_L_open_15 : decode c_L_open 15 = .ok (.aload_n 0, 1) := by decide +kernel
theorem d_L_open_16 : decode c_L_open 16 = .ok (.getfield 28, 3) := by decide +kernel
theorem d_L_open_19 : decode c_L_open 19 = .ok (.iconst 0, 1) := by decide +kernel
theorem d_L_open_20 : decode c_L_open 20 = .ok (.putfield 50, 3) := by decide +kernel
theorem d_L_open_23 : decode c_L_open 23 = .ok (.aload_n 0, 1) := by decide +kernel
theorem d_L_open_24 : decode c_L_open 24 = .ok (.iconst 1, 1) := by decide +kernel
theorem d_L_open_25 : decode c_L_open 25 = .ok (.putfield 46, 3) := by decide +kernel
theorem d_L_open_28 : decode c_L_open 28 = .ok (.aload_n 0, 1) := by decide +kernel
theorem d_L_open_29 : decode c_L_open 29 = .ok (.getfield 61, 3) := by decide +kernel
theorem d_L_open_32 : decode c_L_open 32 = .ok (.ireturn, 1) := by decide +kernel
theorem d_W_open_0 : decode c_W_open 0 = .ok (.aload_n 1, 1) := by decide +kernel
theorem d_W_open_1 : decode c_W_open 1 = .ok (.iconst 0, 1) := by decide +kernel
theorem d_W_open_2 : decode c_W_open 2 = .ok (.aload_n 0, 1) := by decide +kernel
theorem d_W_open_3 : decode c_W_open 3 = .ok (.invokevirtual 23, 3) := by decide +kernel
theorem d_W_open_6 : decode c_W_open 6 = .ok (.i2l, 1) := by decide +kernel
theorem d_W_open_7 : decode c_W_open 7 = .ok (.lastore, 1) := by decide +kernel
theorem d_W_open_8 : decode c_W_open 8 = .ok (.goto 6, 3) := by decide +kernel
theorem d_W_open_11 : decode c_W_open 11 = .ok (.astore_n 2, 1) := by decide +kernel
theorem d_W_open_12 : decode c_W_open 12 = .ok (.iconst 1, 1) := by decide +kernel
theorem d_W_open_13 : decode c_W_open 13 = .ok (.ireturn, 1) := by decide +kernel
theorem d_W_open_14 : decode c_W_open 14 = .ok (.iconst 0, 1) := by decide +kernel
theorem d_W_open_15 : decode c_W_open 15 = .ok (.ireturn, 1) := by decide +kernel
theorem d_L_close_0 : decode c_L_close 0 = .ok (.aload_n 0, 1) := by decide +kernel
theorem d_L_close_1 : decode c_L_close 1 = .ok (.getfield 46, 3) := by decide +kernel
theorem d_L_close_4 : decode c_L_close 4 = .ok (.ifCond .ne 11, 3) := by decide +kernel
theorem d_L_close_7 : decode c_L_close 7 = .ok (.new 64, 3) := by decide +kernel
theorem d_L_close_10 : decode c_L_close 10 = .ok (.dup, 1) := by decide +kernel
theorem d_L_close_11 : decode c_L_close 11 = .ok (.invokespecial 66, 3) := by decide +kernel
theorem d_L_close_14 : decode c_L_close 14 = .ok (.athrow, 1) := by decide +kernel
theorem d_L_close_15 : decode c_L_close 15 = .ok (.iload_n 1, 1) := by decide +kernel
theorem d_L_close_16 : decode c_L_close 16 = .ok (.ifCond .eq 18, 3) := by decide +kernel
theorem d_L_close_19 : decode c_L_close 19 = .ok (.aload_n 0, 1) := by decide +kernel
theorem d_L_close_20 : decode c_L_close 20 = .ok (.getfield 28, 3) := by decide +kernel
theorem d_L_close_23 : decode c_L_close 23 = .ok (.getfield 50, 3) := by decide +kernel
theorem d_L_close_26 : decode c_L_close 26 = .ok (.ifCond .le 8, 3) := by decide +kernel
theorem d_L_close_29 : decode c_L_close 29 = .ok (.aload_n 0, 1) := by decide +kernel
theorem d_L_close_30 : decode c_L_close 30 = .ok (.invokevirtual 54, 3) := by decide +kernel
theorem d_L_close_33 : decode c_L_close 33 = .ok (.pop, 1) := by decide +kernel
theorem d_L_close_34 : decode c_L_close 34 = .ok (.aload_n 0, 1) := by decide +kernel
theorem d_L_close_35 : decode c_L_close 35 = .ok (.iconst 0, 1) := by decide +kernel
theorem d_L_close_36 : decode c_L_close 36 = .ok (.putfield 46, 3) := by decide +kernel
theorem d_L_close_39 : decode c_L_close 39 = .ok (.aload_n 0, 1) := by decide +kernel
theorem d_L_close_40 : decode c_L_close 40 = .ok (.getfield 61, 3) := by decide +kernel
theorem d_L_close_43 : decode c_L_close 43 = .ok (.ireturn, 1) := by decide +kernel
theorem d_W_close_0 : decode c_W_close 0 = .ok (.aload_n 2, 1) := by decide +kernel
theorem d_W_close_1 : decode c_W_close 1 = .ok (.iconst 0, 1) := by decide +kernel
theorem d_W_close_2 : decode c_W_close 2 = .ok (.aload_n 0, 1) := by decide +kernel
theorem d_W_close_3 : decode c_W_close 3 = .ok (.iload_n 1, 1) := by decide +kernel
theorem d_W_close_4 : decode c_W_close 4 = .ok (.invokevirtual 27, 3) := by decide +kernel
theorem d_W_close_7 : decode c_W_close 7 = .ok (.i2l, 1) := by decide +kernel
theorem d_W_close_8 : decode c_W_close 8 = .ok (.lastore, 1) := by decide +kernel
theorem d_W_close_9 : decode c_W_close 9 = .ok (.goto 9, 3) := by decide +kernel
theorem d_W_close_12 : decode c_W_close 12 = .ok (.astore_n 3, 1) := by decide +kernel
theorem d_W_close_13 : decode c_W_close 13 = .ok (.iconst 1, 1) := by decide +kernel
theorem d_W_close_14 : decode c_W_close 14 = .ok (.ireturn, 1) := by decide +kernel
theorem d_W_close_15 : decode c_W_close 15 = .ok (.astore_n 3, 1) := by decide +kernel
theorem d_W_close_16 : decode c_W_close 16 = .ok (.iconst 2, 1) := by decide +kernel
theorem d_W_close_17 : decode c_W_close 17 = .ok (.ireturn, 1) := by decide +kernel
theorem d_W_close_18 : decode c_W_close 18 = .ok (.iconst 0, 1) := by decide +kernel
theorem d_W_close_19 : decode c_W_close 19 = .ok (.ireturn, 1) := by decide +kernel
theorem d_M_loseAllBut_0 : decode c_M_loseAllBut 0 = .ok (.aload_n 0, 1) := by decide +kernel
theorem d_M_loseAllBut_1 : decode c_M_loseAllBut 1 = .ok (.aload_n 0, 1) := by decide +kernel
theorem d_M_loseAllBut_2 : decode c_M_loseAllBut 2 = .ok (.getfield 42, 3) := by decide +kernel
theorem d_M_loseAllBut_5 : decode c_M_loseAllBut 5 = .ok (.iload_n 1, 1) := by decide +kernel
theorem d_M_loseAllBut_6 : decode c_M_loseAllBut 6 = .ok (.invokestatic 48, 3) := by decide +kernel
theorem d_M_loseAllBut_9 : decode c_M_loseAllBut 9 = .ok (.putfield 42, 3) := by decide +kernel
theorem d_M_loseAllBut_12 : decode c_M_loseAllBut 12 = .ok (.aload_n 0, 1) := by decide +kernel
theorem d_M_loseAllBut_13 : decode c_M_loseAllBut 13 = .ok (.getfield 14, 3) := by decide +kernel
theorem d_M_loseAllBut_16 : decode c_M_loseAllBut 16 = .ok (.aload_n 0, 1) := by decide +kernel
theorem d_M_loseAllBut_17 : decode c_M_loseAllBut 17 = .ok (.getfield 20, 3) := by decide +kernel
theorem d_M_loseAllBut_20 : decode c_M_loseAllBut 20 = .ok (.aload_n 0, 1) := by decide +kernel
theorem d_M_loseAllBut_21 : decode c_M_loseAllBut 21 = .ok (.getfield 42, 3) := by decide +kernel
theorem d_M_loseAllBut_24 : decode c_M_loseAllBut 24 = .ok (.iaload, 1) := by decide +kernel
theorem d_M_loseAllBut_25 : decode c_M_loseAllBut 25 = .ok (.putfield 24, 3) := by decide +kernel
theorem d_M_loseAllBut_28 : decode c_M_loseAllBut 28 = .ok (.aload_n 0, 1) := by decide +kernel
theorem d_M_loseAllBut_29 : decode c_M_loseAllBut 29 = .ok (.aload_n 0, 1) := by decide +kernel
theorem d_M_loseAllBut_30 : decode c_M_loseAllBut 30 = .ok (.getfield 42, 3) := by decide +kernel
theorem d_M_loseAllBut_33 : decode c_M_loseAllBut 33 = .ok (.putfield 45, 3) := by decide +kernel
theorem d_M_loseAllBut_36 : decode c_M_loseAllBut 36 = .ok (.return_, 1) := by decide +kernel
theorem d_E_greatestNumber_0 : decode c_E_greatestNumber 0 = .ok (.iconst 0, 1) := by decide +kernel
theorem d_E_greatestNumber_1 : decode c_E_greatestNumber 1 = .ok (.istore_n 1, 1) := by decide +kernel
theorem d_E_greatestNumber_2 : decode c_E_greatestNumber 2 = .ok (.iconst 0, 1) := by decide +kernel
theorem d_E_greatestNumber_3 : decode c_E_greatestNumber 3 = .ok (.istore_n 2, 1) := by decide +kernel
theorem d_E_greatestNumber_4 : decode c_E_greatestNumber 4 = .ok (.iload_n 2, 1) := by decide +kernel
theorem d_E_greatestNumber_5 : decode c_E_greatestNumber 5 = .ok (.aload_n 0, 1) := by decide +kernel
theorem d_E_greatestNumber_6 : decode c_E_greatestNumber 6 = .ok (.getfield 28, 3) := by decide +kernel
theorem d_E_greatestNumber_9 : decode c_E_greatestNumber 9 = .ok (.if_icmp .ge 20, 3) := by decide +kernel
theorem d_E_greatestNumber_12 : decode c_E_greatestNumber 12 = .ok (.iload_n 1, 1) := by decide +kernel
theorem d_E_greatestNumber_13 : decode c_E_greatestNumber 13 = .ok (.aload_n 0, 1) := by decide +kernel
theorem d_E_greatestNumber_14 : decode c_E_greatestNumber 14 = .ok (.getfield 15, 3) := by decide +kernel
theorem d_E_greatestNumber_17 : decode c_E_greatestNumber 17 = .ok (.iload_n 2, 1) := by decide +kernel
theorem d_E_greatestNumber_18 : decode c_E_greatestNumber 18 = .ok (.iaload, 1) := by decide +kernel
theorem d_E_greatestNumber_19 : decode c_E_greatestNumber 19 = .ok (.invokestatic 32, 3) := by decide +kernel
theorem d_E_greatestNumber_22 : decode c_E_greatestNumber 22 = .ok (.istore_n 1, 1) := by decide +kernel
theorem d_E_greatestNumber_23 : decode c_E_greatestNumber 23 = .ok (.iinc 2 1, 3) := by decide +kernel
theorem d_E_greatestNumber_26 : decode c_E_greatestNumber 26 = .ok (.goto (-22), 3) := by decide +kernel
theorem d_E_greatestNumber_29 : decode c_E_greatestNumber 29 = .ok (.iload_n 1, 1) := by decide +kernel
theorem d_E_greatestNumber_30 : decode c_E_greatestNumber 30 = .ok (.ireturn, 1) := by decide +kernel
theorem d_L_crash_0 : decode c_L_crash 0 = .ok (.iload_n 1, 1) := by decide +kernel
theorem d_L_crash_1 : decode c_L_crash 1 = .ok (.iconst 0, 1) := by decide +kernel
theorem d_L_crash_2 : decode c_L_crash 2 = .ok (.bipush 100, 2) := by decide +kernel
theorem d_L_crash_4 : decode c_L_crash 4 = .ok (.invokestatic 73, 3) := by decide +kernel
theorem d_L_crash_7 : decode c_L_crash 7 = .ok (.aload_n 0, 1) := by decide +kernel
theorem d_L_crash_8 : decode c_L_crash 8 = .ok (.iconst 0, 1) := by decide +kernel
theorem d_L_crash_9 : decode c_L_crash 9 = .ok (.putfield 46, 3) := by decide +kernel
theorem d_L_crash_12 : decode c_L_crash 12 = .ok (.aload_n 0, 1) := by decide +kernel
theorem d_L_crash_13 : decode c_L_crash 13 = .ok (.getfield 32, 3) := by decide +kernel
theorem d_L_crash_16 : decode c_L_crash 16 = .ok (.iconst (-1), 1) := by decide +kernel
theorem d_L_crash_17 : decode c_L_crash 17 = .ok (.invokestatic 36, 3) := by decide +kernel
theorem d_L_crash_20 : decode c_L_crash 20 = .ok (.aload_n 0, 1) := by decide +kernel
theorem d_L_crash_21 : decode c_L_crash 21 = .ok (.getfield 10, 3) := by decide +kernel
theorem d_L_crash_24 : decode c_L_crash 24 = .ok (.aload_n 0, 1) := by decide +kernel
theorem d_L_crash_25 : decode c_L_crash 25 = .ok (.getfield 10, 3) := by decide +kernel
theorem d_L_crash_28 : decode c_L_crash 28 = .ok (.getfield 70, 3) := by decide +kernel
theorem d_L_crash_31 : decode c_L_crash 31 = .ok (.iload_n 1, 1) := by decide +kernel
theorem d_L_crash_32 : decode c_L_crash 32 = .ok (.iadd, 1) := by decide +kernel
theorem d_L_crash_33 : decode c_L_crash 33 = .ok (.invokevirtual 77, 3) := by decide +kernel
theorem d_L_crash_36 : decode c_L_crash 36 = .ok (.aload_n 0, 1) := by decide +kernel
theorem d_L_crash_37 : decode c_L_crash 37 = .ok (.aload_n 0, 1) := by decide +kernel
theorem d_L_crash_38 : decode c_L_crash 38 = .ok (.getfield 10, 3) := by decide +kernel
theorem d_L_crash_41 : decode c_L_crash 41 = .ok (.getfield 80, 3) := by decide +kernel
theorem d_L_crash_44 : decode c_L_crash 44 = .ok (.invokevirtual 83, 3) := by decide +kernel
theorem d_L_crash_47 : decode c_L_crash 47 = .ok (.aload_n 0, 1) := by decide +kernel
theorem d_L_crash_48 : decode c_L_crash 48 = .ok (.getfield 19, 3) := by decide +kernel
theorem d_L_crash_51 : decode c_L_crash 51 = .ok (.getfield 86, 3) := by decide +kernel
theorem d_L_crash_54 : decode c_L_crash 54 = .ok (.getfield 90, 3) := by decide +kernel
theorem d_L_crash_57 : decode c_L_crash 57 = .ok (.invokevirtual 83, 3) := by decide +kernel
theorem d_L_crash_60 : decode c_L_crash 60 = .ok (.invokestatic 93, 3) := by decide +kernel
theorem d_L_crash_63 : decode c_L_crash 63 = .ok (.putfield 61, 3) := by decide +kernel
theorem d_L_crash_66 : decode c_L_crash 66 = .ok (.aload_n 0, 1) := by decide +kernel
theorem d_L_crash_67 : decode c_L_crash 67 = .ok (.getfield 10, 3) := by decide +kernel
theorem d_L_crash_70 : decode c_L_crash 70 = .ok (.getfield 67, 3) := by decide +kernel
theorem d_L_crash_73 : decode c_L_crash 73 = .ok (.ireturn, 1) := by decide +kernel
theorem d_W_crash_0 : decode c_W_crash 0 = .ok (.aload_n 2, 1) := by decide +kernel
theorem d_W_crash_1 : decode c_W_crash 1 = .ok (.iconst 0, 1) := by decide +kernel
theorem d_W_crash_2 : decode c_W_crash 2 = .ok (.aload_n 0, 1) := by decide +kernel
theorem d_W_crash_3 : decode c_W_crash 3 = .ok (.iload_n 1, 1) := by decide +kernel
theorem d_W_crash_4 : decode c_W_crash 4 = .ok (.invokevirtual 31, 3) := by decide +kernel
theorem d_W_crash_7 : decode c_W_crash 7 = .ok (.i2l, 1) := by decide +kernel
theorem d_W_crash_8 : decode c_W_crash 8 = .ok (.lastore, 1) := by decide +kernel
theorem d_W_crash_9 : decode c_W_crash 9 = .ok (.goto 6, 3) := by decide +kernel
theorem d_W_crash_12 : decode c_W_crash 12 = .ok (.astore_n 3, 1) := by decide +kernel
theorem d_W_crash_13 : decode c_W_crash 13 = .ok (.iconst 1, 1) := by decide +kernel
theorem d_W_crash_14 : decode c_W_crash 14 = .ok (.ireturn, 1) := by decide +kernel
theorem d_W_crash_15 : decode c_W_crash 15 = .ok (.iconst 0, 1) := by decide +kernel
theorem d_W_crash_16 : decode c_W_crash 16 = .ok (.ireturn, 1) := by decide +kernel
theorem d_L_flush_0 : decode c_L_flush 0 = .ok (.aload_n 0, 1) := by decide +kernel
theorem d_L_flush_1 : decode c_L_flush 1 = .ok (.getfield 10, 3) := by decide +kernel
theorem d_L_flush_4 : decode c_L_flush 4 = .ok (.getfield 80, 3) := by decide +kernel
theorem d_L_flush_7 : decode c_L_flush 7 = .ok (.getfield 50, 3) := by decide +kernel
theorem d_L_flush_10 : decode c_L_flush 10 = .ok (.ifCond .ne 11, 3) := by decide +kernel
theorem d_L_flush_13 : decode c_L_flush 13 = .ok (.new 64, 3) := by decide +kernel
theorem d_L_flush_16 : decode c_L_flush 16 = .ok (.dup, 1) := by decide +kernel
theorem d_L_flush_17 : decode c_L_flush 17 = .ok (.invokespecial 66, 3) := by decide +kernel
theorem d_L_flush_20 : decode c_L_flush 20 = .ok (.athrow, 1) := by decide +kernel
theorem d_L_flush_21 : decode c_L_flush 21 = .ok (.aload_n 0, 1) := by decide +kernel
theorem d_L_flush_22 : decode c_L_flush 22 = .ok (.getfield 19, 3) := by decide +kernel
theorem d_L_flush_25 : decode c_L_flush 25 = .ok (.invokevirtual 99, 3) := by decide +kernel
theorem d_L_flush_28 : decode c_L_flush 28 = .ok (.ifCond .eq 11, 3) := by decide +kernel
theorem d_L_flush_31 : decode c_L_flush 31 = .ok (.new 58, 3) := by decide +kernel
theorem d_L_flush_34 : decode c_L_flush 34 = .ok (.dup, 1) := by decide +kernel
theorem d_L_flush_35 : decode c_L_flush 35 = .ok (.invokespecial 60, 3) := by decide +kernel
theorem d_L_flush_38 : decode c_L_flush 38 = .ok (.athrow, 1) := by decide +kernel
theorem d_L_flush_39 : decode c_L_flush 39 = .ok (.aload_n 0, 1) := by decide +kernel
theorem d_L_flush_40 : decode c_L_flush 40 = .ok (.invokevirtual 103, 3) := by decide +kernel
theorem d_L_flush_43 : decode c_L_flush 43 = .ok (.aload_n 0, 1) := by decide +kernel
theorem d_L_flush_44 : decode c_L_flush 44 = .ok (.getfield 19, 3) := by decide +kernel
theorem d_L_flush_47 : decode c_L_flush 47 = .ok (.aload_n 0, 1) := by decide +kernel
theorem d_L_flush_48 : decode c_L_flush 48 = .ok (.invokevirtual 106, 3) := by decide +kernel
theorem d_L_flush_51 : decode c_L_flush 51 = .ok (.invokevirtual 109, 3) := by decide +kernel
theorem d_L_flush_54 : decode c_L_flush 54 = .ok (.aload_n 0, 1) := by decide +kernel
theorem d_L_flush_55 : decode c_L_flush 55 = .ok (.getfield 19, 3) := by decide +kernel
theorem d_L_flush_58 : decode c_L_flush 58 = .ok (.getfield 86, 3) := by decide +kernel
theorem d_L_flush_61 : decode c_L_flush 61 = .ok (.getfield 112, 3) := by decide +kernel
theorem d_L_flush_64 : decode c_L_flush 64 = .ok (.ireturn, 1) := by decide +kernel
theorem d_W_flush_0 : decode c_W_flush 0 = .ok (.aload_n 1, 1) := by decide +kernel
theorem d_W_flush_1 : decode c_W_flush 1 = .ok (.iconst 0, 1) := by decide +kernel
theorem d_W_flush_2 : decode c_W_flush 2 = .ok (.aload_n 0, 1) := by decide +kernel
theorem d_W_flush_3 : decode c_W_flush 3 = .ok (.invokevirtual 34, 3) := by decide +kernel
theorem d_W_flush_6 : decode c_W_flush 6 = .ok (.i2l, 1) := by decide +kernel
theorem d_W_flush_7 : decode c_W_flush 7 = .ok (.lastore, 1) := by decide +kernel
theorem d_W_flush_8 : decode c_W_flush 8 = .ok (.goto 9, 3) := by decide +kernel
theorem d_W_flush_11 : decode c_W_flush 11 = .ok (.astore_n 2, 1) := by decide +kernel
theorem d_W_flush_12 : decode c_W_flush 12 = .ok (.iconst 1, 1) := by decide +kernel
theorem d_W_flush_13 : decode c_W_flush 13 = .ok (.ireturn, 1) := by decide +kernel
theorem d_W_flush_14 : decode c_W_flush 14 = .ok (.astore_n 2, 1) := by decide +kernel
theorem d_W_flush_15 : decode c_W_flush 15 = .ok (.iconst 2, 1) := by decide +kernel
theorem d_W_flush_16 : decode c_W_flush 16 = .ok (.ireturn, 1) := by decide +kernel
theorem d_W_flush_17 : decode c_W_flush 17 = .ok (.iconst 0, 1) := by decide +kernel
theorem d_W_flush_18 : decode c_W_flush 18 = .ok (.ireturn, 1) := by decide +kernel
theorem d_L_numberSeenBy_0 : decode c_L_numberSeenBy 0 = .ok (.iload_n 1, 1) := by decide +kernel
theorem d_L_numberSeenBy_1 : decode c_L_numberSeenBy 1 = .ok (.iconst (-1), 1) := by decide +kernel
theorem d_L_numberSeenBy_2 : decode c_L_numberSeenBy 2 = .ok (.iconst 3, 1) := by decide +kernel
theorem d_L_numberSeenBy_3 : decode c_L_numberSeenBy 3 = .ok (.invokestatic 73, 3) := by decide +kernel
theorem d_L_numberSeenBy_6 : decode c_L_numberSeenBy 6 = .ok (.iload_n 1, 1) := by decide +kernel
theorem d_L_numberSeenBy_7 : decode c_L_numberSeenBy 7 = .ok (.ifCond .ge 8, 3) := by decide +kernel
theorem d_L_numberSeenBy_10 : decode c_L_numberSeenBy 10 = .ok (.aload_n 0, 1) := by decide +kernel
theorem d_L_numberSeenBy_11 : decode c_L_numberSeenBy 11 = .ok (.getfield 61, 3) := by decide +kernel
theorem d_L_numberSeenBy_14 : decode c_L_numberSeenBy 14 = .ok (.ireturn, 1) := by decide +kernel
theorem d_L_numberSeenBy_15 : decode c_L_numberSeenBy 15 = .ok (.aload_n 0, 1) := by decide +kernel
theorem d_L_numberSeenBy_16 : decode c_L_numberSeenBy 16 = .ok (.getfield 32, 3) := by decide +kernel
theorem d_L_numberSeenBy_19 : decode c_L_numberSeenBy 19 = .ok (.iload_n 1, 1) := by decide +kernel
theorem d_L_numberSeenBy_20 : decode c_L_numberSeenBy 20 = .ok (.iaload, 1) := by decide +kernel
theorem d_L_numberSeenBy_21 : decode c_L_numberSeenBy 21 = .ok (.iconst (-1), 1) := by decide +kernel
theorem d_L_numberSeenBy_22 : decode c_L_numberSeenBy 22 = .ok (.if_icmp .ne 11, 3) := by decide +kernel
theorem d_L_numberSeenBy_25 : decode c_L_numberSeenBy 25 = .ok (.new 64, 3) := by decide +kernel
theorem d_L_numberSeenBy_28 : decode c_L_numberSeenBy 28 = .ok (.dup, 1) := by decide +kernel
theorem d_L_numberSeenBy_29 : decode c_L_numberSeenBy 29 = .ok (.invokespecial 66, 3) := by decide +kernel
theorem d_L_numberSeenBy_32 : decode c_L_numberSeenBy 32 = .ok (.athrow, 1) := by decide +kernel
theorem d_L_numberSeenBy_33 : decode c_L_numberSeenBy 33 = .ok (.aload_n 0, 1) := by decide +kernel
theorem d_L_numberSeenBy_34 : decode c_L_numberSeenBy 34 = .ok (.getfield 32, 3) := by decide +kernel
theorem d_L_numberSeenBy_37 : decode c_L_numberSeenBy 37 = .ok (.iload_n 1, 1) := by decide +kernel
theorem d_L_numberSeenBy_38 : decode c_L_numberSeenBy 38 = .ok (.iaload, 1) := by decide +kernel
theorem d_L_numberSeenBy_39 : decode c_L_numberSeenBy 39 = .ok (.ireturn, 1) := by decide +kernel
theorem d_M_rowOf_0 : decode c_M_rowOf 0 = .ok (.aload_n 0, 1) := by decide +kernel
theorem d_M_rowOf_1 : decode c_M_rowOf 1 = .ok (.getfield 14, 3) := by decide +kernel
theorem d_M_rowOf_4 : decode c_M_rowOf 4 = .ok (.getfield 24, 3) := by decide +kernel
theorem d_M_rowOf_7 : decode c_M_rowOf 7 = .ok (.iconst 1, 1) := by decide +kernel
theorem d_M_rowOf_8 : decode c_M_rowOf 8 = .ok (.isub, 1) := by decide +kernel
theorem d_M_rowOf_9 : decode c_M_rowOf 9 = .ok (.istore_n 3, 1) := by decide +kernel
theorem d_M_rowOf_10 : decode c_M_rowOf 10 = .ok (.iload_n 3, 1) := by decide +kernel
theorem d_M_rowOf_11 : decode c_M_rowOf 11 = .ok (.ifCond .lt 37, 3) := by decide +kernel
theorem d_M_rowOf_14 : decode c_M_rowOf 14 = .ok (.aload_n 0, 1) := by decide +kernel
theorem d_M_rowOf_15 : decode c_M_rowOf 15 = .ok (.getfield 14, 3) := by decide +kernel
theorem d_M_rowOf_18 : decode c_M_rowOf 18 = .ok (.getfield 28, 3) := by decide +kernel
theorem d_M_rowOf_21 : decode c_M_rowOf 21 = .ok (.iload_n 3, 1) := by decide +kernel
theorem d_M_rowOf_22 : decode c_M_rowOf 22 = .ok (.iaload, 1) := by decide +kernel
theorem d_M_rowOf_23 : decode c_M_rowOf 23 = .ok (.iload_n 1, 1) := by decide +kernel
theorem d_M_rowOf_24 : decode c_M_rowOf 24 = .ok (.if_icmp .ne 18, 3) := by decide +kernel
theorem d_M_rowOf_27 : decode c_M_rowOf 27 = .ok (.aload_n 0, 1) := by decide +kernel
theorem d_M_rowOf_28 : decode c_M_rowOf 28 = .ok (.getfield 14, 3) := by decide +kernel
theorem d_M_rowOf_31 : decode c_M_rowOf 31 = .ok (.getfield 54, 3) := by decide +kernel
theorem d_M_rowOf_34 : decode c_M_rowOf 34 = .ok (.iload_n 3, 1) := by decide +kernel
theorem d_M_rowOf_35 : decode c_M_rowOf 35 = .ok (.iaload, 1) := by decide +kernel
theorem d_M_rowOf_36 : decode c_M_rowOf 36 = .ok (.iload_n 2, 1) := by decide +kernel
theorem d_M_rowOf_37 : decode c_M_rowOf 37 = .ok (.if_icmp .gt 5, 3) := by decide +kernel
theorem d_M_rowOf_40 : decode c_M_rowOf 40 = .ok (.iload_n 3, 1) := by decide +kernel
theorem d_M_rowOf_41 : decode c_M_rowOf 41 = .ok (.ireturn, 1) := by decide +kernel
theorem d_M_rowOf_42 : decode c_M_rowOf 42 = .ok (.iinc 3 (-1), 3) := by decide +kernel
theorem d_M_rowOf_45 : decode c_M_rowOf 45 = .ok (.goto (-35), 3) := by decide +kernel
theorem d_M_rowOf_48 : decode c_M_rowOf 48 = .ok (.iconst (-1), 1) := by decide +kernel
theorem d_M_rowOf_49 : decode c_M_rowOf 49 = .ok (.ireturn, 1) := by decide +kernel
theorem d_L_valueIn_0 : decode c_L_valueIn 0 = .ok (.aload_n 0, 1) := by decide +kernel
theorem d_L_valueIn_1 : decode c_L_valueIn 1 = .ok (.getfield 217, 3) := by decide +kernel
theorem d_L_valueIn_4 : decode c_L_valueIn 4 = .ok (.iload_n 1, 1) := by decide +kernel
theorem d_L_valueIn_5 : decode c_L_valueIn 5 = .ok (.baload, 1) := by decide +kernel
theorem d_L_valueIn_6 : decode c_L_valueIn 6 = .ok (.ifCond .eq 11, 3) := by decide +kernel
theorem d_L_valueIn_9 : decode c_L_valueIn 9 = .ok (.new 132, 3) := by decide +kernel
theorem d_L_valueIn_12 : decode c_L_valueIn 12 = .ok (.dup, 1) := by decide +kernel
theorem d_L_valueIn_13 : decode c_L_valueIn 13 = .ok (.invokespecial 134, 3) := by decide +kernel
theorem d_L_valueIn_16 : decode c_L_valueIn 16 = .ok (.athrow, 1) := by decide +kernel
theorem d_L_valueIn_17 : decode c_L_valueIn 17 = .ok (.aload_n 0, 1) := by decide +kernel
theorem d_L_valueIn_18 : decode c_L_valueIn 18 = .ok (.getfield 221, 3) := by decide +kernel
theorem d_L_valueIn_21 : decode c_L_valueIn 21 = .ok (.iload_n 1, 1) := by decide +kernel
theorem d_L_valueIn_22 : decode c_L_valueIn 22 = .ok (.iaload, 1) := by decide +kernel
theorem d_L_valueIn_23 : decode c_L_valueIn 23 = .ok (.ireturn, 1) := by decide +kernel
theorem d_S_firstMark_0 : decode c_S_firstMark 0 = .ok (.bipush 7, 2) := by decide +kernel
theorem d_S_firstMark_2 : decode c_S_firstMark 2 = .ok (.iload_n 0, 1) := by decide +kernel
theorem d_S_firstMark_3 : decode c_S_firstMark 3 = .ok (.imul, 1) := by decide +kernel
theorem d_S_firstMark_4 : decode c_S_firstMark 4 = .ok (.iconst 3, 1) := by decide +kernel
theorem d_S_firstMark_5 : decode c_S_firstMark 5 = .ok (.iadd, 1) := by decide +kernel
theorem d_S_firstMark_6 : decode c_S_firstMark 6 = .ok (.bipush 16, 2) := by decide +kernel
theorem d_S_firstMark_8 : decode c_S_firstMark 8 = .ok (.irem, 1) := by decide +kernel
theorem d_S_firstMark_9 : decode c_S_firstMark 9 = .ok (.ireturn, 1) := by decide +kernel
theorem d_S_secondMark_0 : decode c_S_secondMark 0 = .ok (.iconst 5, 1) := by decide +kernel
theorem d_S_secondMark_1 : decode c_S_secondMark 1 = .ok (.iload_n 0, 1) := by decide +kernel
theorem d_S_secondMark_2 : decode c_S_secondMark 2 = .ok (.imul, 1) := by decide +kernel
theorem d_S_secondMark_3 : decode c_S_secondMark 3 = .ok (.iconst 1, 1) := by decide +kernel
theorem d_S_secondMark_4 : decode c_S_secondMark 4 = .ok (.iadd, 1) := by decide +kernel
theorem d_S_secondMark_5 : decode c_S_secondMark 5 = .ok (.bipush 16, 2) := by decide +kernel
theorem d_S_secondMark_7 : decode c_S_secondMark 7 = .ok (.irem, 1) := by decide +kernel
theorem d_S_secondMark_8 : decode c_S_secondMark 8 = .ok (.ireturn, 1) := by decide +kernel
theorem d_S_passes_0 : decode c_S_passes 0 = .ok (.iload_n 2, 1) := by decide +kernel
theorem d_S_passes_1 : decode c_S_passes 1 = .ok (.invokestatic 69, 3) := by decide +kernel
theorem d_S_passes_4 : decode c_S_passes 4 = .ok (.istore_n 3, 1) := by decide +kernel
theorem d_S_passes_5 : decode c_S_passes 5 = .ok (.iload_n 2, 1) := by decide +kernel
theorem d_S_passes_6 : decode c_S_passes 6 = .ok (.invokestatic 72, 3) := by decide +kernel
theorem d_S_passes_9 : decode c_S_passes 9 = .ok (.istore 4, 2) := by decide +kernel
theorem d_S_passes_11 : decode c_S_passes 11 = .ok (.iconst 0, 1) := by decide +kernel
theorem d_S_passes_12 : decode c_S_passes 12 = .ok (.istore 5, 2) := by decide +kernel
theorem d_S_passes_14 : decode c_S_passes 14 = .ok (.iconst 0, 1) := by decide +kernel
theorem d_S_passes_15 : decode c_S_passes 15 = .ok (.istore 6, 2) := by decide +kernel
theorem d_S_passes_17 : decode c_S_passes 17 = .ok (.aload_n 0, 1) := by decide +kernel
theorem d_S_passes_18 : decode c_S_passes 18 = .ok (.getfield 27, 3) := by decide +kernel
theorem d_S_passes_21 : decode c_S_passes 21 = .ok (.iload_n 1, 1) := by decide +kernel
theorem d_S_passes_22 : decode c_S_passes 22 = .ok (.iaload, 1) := by decide +kernel
theorem d_S_passes_23 : decode c_S_passes 23 = .ok (.istore 7, 2) := by decide +kernel
theorem d_S_passes_25 : decode c_S_passes 25 = .ok (.iload 7, 2) := by decide +kernel
theorem d_S_passes_27 : decode c_S_passes 27 = .ok (.aload_n 0, 1) := by decide +kernel
theorem d_S_passes_28 : decode c_S_passes 28 = .ok (.getfield 27, 3) := by decide +kernel
theorem d_S_passes_31 : decode c_S_passes 31 = .ok (.iload_n 1, 1) := by decide +kernel
theorem d_S_passes_32 : decode c_S_passes 32 = .ok (.iconst 1, 1) := by decide +kernel
theorem d_S_passes_33 : decode c_S_passes 33 = .ok (.iadd, 1) := by decide +kernel
theorem d_S_passes_34 : decode c_S_passes 34 = .ok (.iaload, 1) := by decide +kernel
theorem d_S_passes_35 : decode c_S_passes 35 = .ok (.if_icmp .ge 89, 3) := by decide +kernel
theorem d_S_passes_38 : decode c_S_passes 38 = .ok (.aload_n 0, 1) := by decide +kernel
theorem d_S_passes_39 : decode c_S_passes 39 = .ok (.getfield 14, 3) := by decide +kernel
theorem d_S_passes_42 : decode c_S_passes 42 = .ok (.getfield 45, 3) := by decide +kernel
theorem d_S_passes_45 : decode c_S_passes 45 = .ok (.iload 7, 2) := by decide +kernel
theorem d_S_passes_47 : decode c_S_passes 47 = .ok (.iaload, 1) := by decide +kernel
theorem d_S_passes_48 : decode c_S_passes 48 = .ok (.invokestatic 69, 3) := by decide +kernel
theorem d_S_passes_51 : decode c_S_passes 51 = .ok (.istore 8, 2) := by decide +kernel
theorem d_S_passes_53 : decode c_S_passes 53 = .ok (.aload_n 0, 1) := by decide +kernel
theorem d_S_passes_54 : decode c_S_passes 54 = .ok (.getfield 14, 3) := by decide +kernel
theorem d_S_passes_57 : decode c_S_passes 57 = .ok (.getfield 45, 3) := by decide +kernel
theorem d_S_passes_60 : decode c_S_passes 60 = .ok (.iload 7, 2) := by decide +kernel
theorem d_S_passes_62 : decode c_S_passes 62 = .ok (.iaload, 1) := by decide +kernel
theorem d_S_passes_63 : decode c_S_passes 63 = .ok (.invokestatic 72, 3) := by decide +kernel
theorem d_S_passes_66 : decode c_S_passes 66 = .ok (.istore 9, 2) := by decide +kernel
theorem d_S_passes_68 : decode c_S_passes 68 = .ok (.iload 5, 2) := by decide +kernel
theorem d_S_passes_70 : decode c_S_passes 70 = .ok (.ifCond .ne 15, 3) := by decide +kernel
theorem d_S_passes_73 : decode c_S_passes 73 = .ok (.iload 8, 2) := by decide +kernel
theorem d_S_passes_75 : decode c_S_passes 75 = .ok (.iload_n 3, 1) := by decide +kernel
theorem d_S_passes_76 : decode c_S_passes 76 = .ok (.if_icmp .eq 9, 3) := by decide +kernel
theorem d_S_passes_79 : decode c_S_passes 79 = .ok (.iload 9, 2) := by decide +kernel
theorem d_S_passes_81 : decode c_S_passes 81 = .ok (.iload_n 3, 1) := by decide +kernel
theorem d_S_passes_82 : decode c_S_passes 82 = .ok (.if_icmp .ne 7, 3) := by decide +kernel
theorem d_S_passes_85 : decode c_S_passes 85 = .ok (.iconst 1, 1) := by decide +kernel
theorem d_S_passes_86 : decode c_S_passes 86 = .ok (.goto 4, 3) := by decide +kernel
theorem d_S_passes_89 : decode c_S_passes 89 = .ok (.iconst 0, 1) := by decide +kernel
theorem d_S_passes_90 : decode c_S_passes 90 = .ok (.istore 5, 2) := by decide +kernel
theorem d_S_passes_92 : decode c_S_passes 92 = .ok (.iload 6, 2) := by decide +kernel
theorem d_S_passes_94 : decode c_S_passes 94 = .ok (.ifCond .ne 17, 3) := by decide +kernel
theorem d_S_passes_97 : decode c_S_passes 97 = .ok (.iload 8, 2) := by decide +kernel
theorem d_S_passes_99 : decode c_S_passes 99 = .ok (.iload 4, 2) := by decide +kernel
theorem d_S_passes_101 : decode c_S_passes 101 = .ok (.if_icmp .eq 10, 3) := by decide +kernel
theorem d_S_passes_104 : decode c_S_passes 104 = .ok (.iload 9, 2) := by decide +kernel
theorem d_S_passes_106 : decode c_S_passes 106 = .ok (.iload 4, 2) := by decide +kernel
theorem d_S_passes_108 : decode c_S_passes 108 = .ok (.if_icmp .ne 7, 3) := by decide +kernel
theorem d_S_passes_111 : decode c_S_passes 111 = .ok (.iconst 1, 1) := by decide +kernel
theorem d_S_passes_112 : decode c_S_passes 112 = .ok (.goto 4, 3) := by decide +kernel
theorem d_S_passes_115 : decode c_S_passes 115 = .ok (.iconst 0, 1) := by decide +kernel
theorem d_S_passes_116 : decode c_S_passes 116 = .ok (.istore 6, 2) := by decide +kernel
theorem d_S_passes_118 : decode c_S_passes 118 = .ok (.iinc 7 1, 3) := by decide +kernel
theorem d_S_passes_121 : decode c_S_passes 121 = .ok (.goto (-96), 3) := by decide +kernel
end
section
/-! DECODED INSTRUCTIONS -/
theorem d_S_passes_124 : decode c_S_passes 124 = .ok (.iload 5, 2) := by decide +kernel
theorem d_S_passes_126 : decode c_S_passes 126 = .ok (.ifCond .eq 12, 3) := by decide +kernel
theorem d_S_passes_129 : decode c_S_passes 129 = .ok (.iload 6, 2) := by decide +kernel
theorem d_S_passes_131 : decode c_S_passes 131 = .ok (.ifCond .eq 7, 3) := by decide +kernel
theorem d_S_passes_134 : decode c_S_passes 134 = .ok (.iconst 1, 1) := by decide +kernel
theorem d_S_passes_135 : decode c_S_passes 135 = .ok (.goto 4, 3) := by decide +kernel
theorem d_S_passes_138 : decode c_S_passes 138 = .ok (.iconst 0, 1) := by decide +kernel
theorem d_S_passes_139 : decode c_S_passes 139 = .ok (.ireturn, 1) := by decide +kernel
theorem d_S_firstBlockFor_0 : decode c_S_firstBlockFor 0 = .ok (.aload_n 0, 1) := by decide +kernel
theorem d_S_firstBlockFor_1 : decode c_S_firstBlockFor 1 = .ok (.getfield 27, 3) := by decide +kernel
theorem d_S_firstBlockFor_4 : decode c_S_firstBlockFor 4 = .ok (.iload_n 1, 1) := by decide +kernel
theorem d_S_firstBlockFor_5 : decode c_S_firstBlockFor 5 = .ok (.iaload, 1) := by decide +kernel
theorem d_S_firstBlockFor_6 : decode c_S_firstBlockFor 6 = .ok (.istore_n 3, 1) := by decide +kernel
theorem d_S_firstBlockFor_7 : decode c_S_firstBlockFor 7 = .ok (.iload_n 3, 1) := by decide +kernel
theorem d_S_firstBlockFor_8 : decode c_S_firstBlockFor 8 = .ok (.aload_n 0, 1) := by decide +kernel
theorem d_S_firstBlockFor_9 : decode c_S_firstBlockFor 9 = .ok (.getfield 27, 3) := by decide +kernel
theorem d_S_firstBlockFor_12 : decode c_S_firstBlockFor 12 = .ok (.iload_n 1, 1) := by decide +kernel
theorem d_S_firstBlockFor_13 : decode c_S_firstBlockFor 13 = .ok (.iconst 1, 1) := by decide +kernel
theorem d_S_firstBlockFor_14 : decode c_S_firstBlockFor 14 = .ok (.iadd, 1) := by decide +kernel
theorem d_S_firstBlockFor_15 : decode c_S_firstBlockFor 15 = .ok (.iaload, 1) := by decide +kernel
theorem d_S_firstBlockFor_16 : decode c_S_firstBlockFor 16 = .ok (.if_icmp .ge 22, 3) := by decide +kernel
theorem d_S_firstBlockFor_19 : decode c_S_firstBlockFor 19 = .ok (.aload_n 0, 1) := by decide +kernel
theorem d_S_firstBlockFor_20 : decode c_S_firstBlockFor 20 = .ok (.getfield 14, 3) := by decide +kernel
theorem d_S_firstBlockFor_23 : decode c_S_firstBlockFor 23 = .ok (.getfield 45, 3) := by decide +kernel
theorem d_S_firstBlockFor_26 : decode c_S_firstBlockFor 26 = .ok (.iload_n 3, 1) := by decide +kernel
theorem d_S_firstBlockFor_27 : decode c_S_firstBlockFor 27 = .ok (.iaload, 1) := by decide +kernel
theorem d_S_firstBlockFor_28 : decode c_S_firstBlockFor 28 = .ok (.iload_n 2, 1) := by decide +kernel
theorem d_S_firstBlockFor_29 : decode c_S_firstBlockFor 29 = .ok (.if_icmp .ge 9, 3) := by decide +kernel
theorem d_S_firstBlockFor_32 : decode c_S_firstBlockFor 32 = .ok (.iinc 3 1, 3) := by decide +kernel
theorem d_S_firstBlockFor_35 : decode c_S_firstBlockFor 35 = .ok (.goto (-28), 3) := by decide +kernel
theorem d_S_firstBlockFor_38 : decode c_S_firstBlockFor 38 = .ok (.iload_n 3, 1) := by decide +kernel
theorem d_S_firstBlockFor_39 : decode c_S_firstBlockFor 39 = .ok (.iload_n 3, 1) := by decide +kernel
theorem d_S_firstBlockFor_40 : decode c_S_firstBlockFor 40 = .ok (.aload_n 0, 1) := by decide +kernel
theorem d_S_firstBlockFor_41 : decode c_S_firstBlockFor 41 = .ok (.getfield 27, 3) := by decide +kernel
theorem d_S_firstBlockFor_44 : decode c_S_firstBlockFor 44 = .ok (.iload_n 1, 1) := by decide +kernel
theorem d_S_firstBlockFor_45 : decode c_S_firstBlockFor 45 = .ok (.iaload, 1) := by decide +kernel
theorem d_S_firstBlockFor_46 : decode c_S_firstBlockFor 46 = .ok (.isub, 1) := by decide +kernel
theorem d_S_firstBlockFor_47 : decode c_S_firstBlockFor 47 = .ok (.iconst 4, 1) := by decide +kernel
theorem d_S_firstBlockFor_48 : decode c_S_firstBlockFor 48 = .ok (.irem, 1) := by decide +kernel
theorem d_S_firstBlockFor_49 : decode c_S_firstBlockFor 49 = .ok (.isub, 1) := by decide +kernel
theorem d_S_firstBlockFor_50 : decode c_S_firstBlockFor 50 = .ok (.ireturn, 1) := by decide +kernel
theorem d_E_rowOf_0 : decode c_E_rowOf 0 = .ok (.iload_n 3, 1) := by decide +kernel
theorem d_E_rowOf_1 : decode c_E_rowOf 1 = .ok (.istore 5, 2) := by decide +kernel
theorem d_E_rowOf_3 : decode c_E_rowOf 3 = .ok (.iload 5, 2) := by decide +kernel
theorem d_E_rowOf_5 : decode c_E_rowOf 5 = .ok (.iload 4, 2) := by decide +kernel
theorem d_E_rowOf_7 : decode c_E_rowOf 7 = .ok (.if_icmp .ge 34, 3) := by decide +kernel
theorem d_E_rowOf_10 : decode c_E_rowOf 10 = .ok (.aload_n 0, 1) := by decide +kernel
theorem d_E_rowOf_11 : decode c_E_rowOf 11 = .ok (.getfield 9, 3) := by decide +kernel
theorem d_E_rowOf_14 : decode c_E_rowOf 14 = .ok (.iload 5, 2) := by decide +kernel
theorem d_E_rowOf_16 : decode c_E_rowOf 16 = .ok (.iaload, 1) := by decide +kernel
theorem d_E_rowOf_17 : decode c_E_rowOf 17 = .ok (.iload_n 1, 1) := by decide +kernel
theorem d_E_rowOf_18 : decode c_E_rowOf 18 = .ok (.if_icmp .ne 17, 3) := by decide +kernel
theorem d_E_rowOf_21 : decode c_E_rowOf 21 = .ok (.aload_n 0, 1) := by decide +kernel
theorem d_E_rowOf_22 : decode c_E_rowOf 22 = .ok (.getfield 15, 3) := by decide +kernel
theorem d_E_rowOf_25 : decode c_E_rowOf 25 = .ok (.iload 5, 2) := by decide +kernel
theorem d_E_rowOf_27 : decode c_E_rowOf 27 = .ok (.iaload, 1) := by decide +kernel
theorem d_E_rowOf_28 : decode c_E_rowOf 28 = .ok (.iload_n 2, 1) := by decide +kernel
theorem d_E_rowOf_29 : decode c_E_rowOf 29 = .ok (.if_icmp .gt 6, 3) := by decide +kernel
theorem d_E_rowOf_32 : decode c_E_rowOf 32 = .ok (.iload 5, 2) := by decide +kernel
theorem d_E_rowOf_34 : decode c_E_rowOf 34 = .ok (.ireturn, 1) := by decide +kernel
theorem d_E_rowOf_35 : decode c_E_rowOf 35 = .ok (.iinc 5 1, 3) := by decide +kernel
theorem d_E_rowOf_38 : decode c_E_rowOf 38 = .ok (.goto (-35), 3) := by decide +kernel
theorem d_E_rowOf_41 : decode c_E_rowOf 41 = .ok (.iconst (-1), 1) := by decide +kernel
theorem d_E_rowOf_42 : decode c_E_rowOf 42 = .ok (.ireturn, 1) := by decide +kernel
theorem d_L_lookInTable_0 : decode c_L_lookInTable 0 = .ok (.aload_n 0, 1) := by decide +kernel
theorem d_L_lookInTable_1 : decode c_L_lookInTable 1 = .ok (.getfield 19, 3) := by decide +kernel
theorem d_L_lookInTable_4 : decode c_L_lookInTable 4 = .ok (.getfield 86, 3) := by decide +kernel
theorem d_L_lookInTable_7 : decode c_L_lookInTable 7 = .ok (.astore 4, 2) := by decide +kernel
theorem d_L_lookInTable_9 : decode c_L_lookInTable 9 = .ok (.aload 4, 2) := by decide +kernel
theorem d_L_lookInTable_11 : decode c_L_lookInTable 11 = .ok (.iload_n 1, 1) := by decide +kernel
theorem d_L_lookInTable_12 : decode c_L_lookInTable 12 = .ok (.iload_n 2, 1) := by decide +kernel
theorem d_L_lookInTable_13 : decode c_L_lookInTable 13 = .ok (.invokevirtual 231, 3) := by decide +kernel
theorem d_L_lookInTable_16 : decode c_L_lookInTable 16 = .ok (.ifCond .ne 15, 3) := by decide +kernel
theorem d_L_lookInTable_19 : decode c_L_lookInTable 19 = .ok (.aload_n 0, 1) := by decide +kernel
theorem d_L_lookInTable_20 : decode c_L_lookInTable 20 = .ok (.dup, 1) := by decide +kernel
theorem d_L_lookInTable_21 : decode c_L_lookInTable 21 = .ok (.getfield 181, 3) := by decide +kernel
theorem d_L_lookInTable_24 : decode c_L_lookInTable 24 = .ok (.iconst 1, 1) := by decide +kernel
theorem d_L_lookInTable_25 : decode c_L_lookInTable 25 = .ok (.iadd, 1) := by decide +kernel
theorem d_L_lookInTable_26 : decode c_L_lookInTable 26 = .ok (.putfield 181, 3) := by decide +kernel
theorem d_L_lookInTable_29 : decode c_L_lookInTable 29 = .ok (.iconst (-1), 1) := by decide +kernel
theorem d_L_lookInTable_30 : decode c_L_lookInTable 30 = .ok (.ireturn, 1) := by decide +kernel
theorem d_L_lookInTable_31 : decode c_L_lookInTable 31 = .ok (.aload 4, 2) := by decide +kernel
theorem d_L_lookInTable_33 : decode c_L_lookInTable 33 = .ok (.getfield 234, 3) := by decide +kernel
theorem d_L_lookInTable_36 : decode c_L_lookInTable 36 = .ok (.iload_n 1, 1) := by decide +kernel
theorem d_L_lookInTable_37 : decode c_L_lookInTable 37 = .ok (.iconst 1, 1) := by decide +kernel
theorem d_L_lookInTable_38 : decode c_L_lookInTable 38 = .ok (.iadd, 1) := by decide +kernel
theorem d_L_lookInTable_39 : decode c_L_lookInTable 39 = .ok (.iaload, 1) := by decide +kernel
theorem d_L_lookInTable_40 : decode c_L_lookInTable 40 = .ok (.istore 5, 2) := by decide +kernel
theorem d_L_lookInTable_42 : decode c_L_lookInTable 42 = .ok (.aload 4, 2) := by decide +kernel
theorem d_L_lookInTable_44 : decode c_L_lookInTable 44 = .ok (.iload_n 1, 1) := by decide +kernel
theorem d_L_lookInTable_45 : decode c_L_lookInTable 45 = .ok (.iload_n 2, 1) := by decide +kernel
theorem d_L_lookInTable_46 : decode c_L_lookInTable 46 = .ok (.invokevirtual 237, 3) := by decide +kernel
theorem d_L_lookInTable_49 : decode c_L_lookInTable 49 = .ok (.istore 6, 2) := by decide +kernel
theorem d_L_lookInTable_51 : decode c_L_lookInTable 51 = .ok (.iload 6, 2) := by decide +kernel
theorem d_L_lookInTable_53 : decode c_L_lookInTable 53 = .ok (.iload 5, 2) := by decide +kernel
theorem d_L_lookInTable_55 : decode c_L_lookInTable 55 = .ok (.if_icmp .ge 94, 3) := by decide +kernel
theorem d_L_lookInTable_58 : decode c_L_lookInTable 58 = .ok (.aload_n 0, 1) := by decide +kernel
theorem d_L_lookInTable_59 : decode c_L_lookInTable 59 = .ok (.dup, 1) := by decide +kernel
theorem d_L_lookInTable_60 : decode c_L_lookInTable 60 = .ok (.getfield 154, 3) := by decide +kernel
theorem d_L_lookInTable_63 : decode c_L_lookInTable 63 = .ok (.iconst 1, 1) := by decide +kernel
theorem d_L_lookInTable_64 : decode c_L_lookInTable 64 = .ok (.iadd, 1) := by decide +kernel
theorem d_L_lookInTable_65 : decode c_L_lookInTable 65 = .ok (.putfield 154, 3) := by decide +kernel
theorem d_L_lookInTable_68 : decode c_L_lookInTable 68 = .ok (.aload 4, 2) := by decide +kernel
theorem d_L_lookInTable_70 : decode c_L_lookInTable 70 = .ok (.getfield 90, 3) := by decide +kernel
theorem d_L_lookInTable_73 : decode c_L_lookInTable 73 = .ok (.getfield 240, 3) := by decide +kernel
theorem d_L_lookInTable_76 : decode c_L_lookInTable 76 = .ok (.iload 6, 2) := by decide +kernel
theorem d_L_lookInTable_78 : decode c_L_lookInTable 78 = .ok (.baload, 1) := by decide +kernel
theorem d_L_lookInTable_79 : decode c_L_lookInTable 79 = .ok (.ifCond .eq 11, 3) := by decide +kernel
theorem d_L_lookInTable_82 : decode c_L_lookInTable 82 = .ok (.new 58, 3) := by decide +kernel
theorem d_L_lookInTable_85 : decode c_L_lookInTable 85 = .ok (.dup, 1) := by decide +kernel
theorem d_L_lookInTable_86 : decode c_L_lookInTable 86 = .ok (.invokespecial 60, 3) := by decide +kernel
theorem d_L_lookInTable_89 : decode c_L_lookInTable 89 = .ok (.athrow, 1) := by decide +kernel
theorem d_L_lookInTable_90 : decode c_L_lookInTable 90 = .ok (.iload 6, 2) := by decide +kernel
theorem d_L_lookInTable_92 : decode c_L_lookInTable 92 = .ok (.iconst 4, 1) := by decide +kernel
theorem d_L_lookInTable_93 : decode c_L_lookInTable 93 = .ok (.iadd, 1) := by decide +kernel
theorem d_L_lookInTable_94 : decode c_L_lookInTable 94 = .ok (.iload 5, 2) := by decide +kernel
theorem d_L_lookInTable_96 : decode c_L_lookInTable 96 = .ok (.invokestatic 199, 3) := by decide +kernel
theorem d_L_lookInTable_99 : decode c_L_lookInTable 99 = .ok (.istore 7, 2) := by decide +kernel
theorem d_L_lookInTable_101 : decode c_L_lookInTable 101 = .ok (.aload 4, 2) := by decide +kernel
theorem d_L_lookInTable_103 : decode c_L_lookInTable 103 = .ok (.getfield 90, 3) := by decide +kernel
theorem d_L_lookInTable_106 : decode c_L_lookInTable 106 = .ok (.iload_n 2, 1) := by decide +kernel
theorem d_L_lookInTable_107 : decode c_L_lookInTable 107 = .ok (.iload_n 3, 1) := by decide +kernel
theorem d_L_lookInTable_108 : decode c_L_lookInTable 108 = .ok (.iload 6, 2) := by decide +kernel
theorem d_L_lookInTable_110 : decode c_L_lookInTable 110 = .ok (.iload 7, 2) := by decide +kernel
theorem d_L_lookInTable_112 : decode c_L_lookInTable 112 = .ok (.invokevirtual 243, 3) := by decide +kernel
theorem d_L_lookInTable_115 : decode c_L_lookInTable 115 = .ok (.istore 8, 2) := by decide +kernel
theorem d_L_lookInTable_117 : decode c_L_lookInTable 117 = .ok (.iload 8, 2) := by decide +kernel
theorem d_L_lookInTable_119 : decode c_L_lookInTable 119 = .ok (.iconst (-1), 1) := by decide +kernel
theorem d_L_lookInTable_120 : decode c_L_lookInTable 120 = .ok (.if_icmp .ne 20, 3) := by decide +kernel
theorem d_L_lookInTable_123 : decode c_L_lookInTable 123 = .ok (.aload 4, 2) := by decide +kernel
theorem d_L_lookInTable_125 : decode c_L_lookInTable 125 = .ok (.getfield 90, 3) := by decide +kernel
theorem d_L_lookInTable_128 : decode c_L_lookInTable 128 = .ok (.getfield 246, 3) := by decide +kernel
theorem d_L_lookInTable_131 : decode c_L_lookInTable 131 = .ok (.iload 7, 2) := by decide +kernel
theorem d_L_lookInTable_133 : decode c_L_lookInTable 133 = .ok (.iconst 1, 1) := by decide +kernel
theorem d_L_lookInTable_134 : decode c_L_lookInTable 134 = .ok (.isub, 1) := by decide +kernel
theorem d_L_lookInTable_135 : decode c_L_lookInTable 135 = .ok (.iaload, 1) := by decide +kernel
theorem d_L_lookInTable_136 : decode c_L_lookInTable 136 = .ok (.iload_n 2, 1) := by decide +kernel
theorem d_L_lookInTable_137 : decode c_L_lookInTable 137 = .ok (.if_icmp .le 6, 3) := by decide +kernel
theorem d_L_lookInTable_140 : decode c_L_lookInTable 140 = .ok (.iload 8, 2) := by decide +kernel
theorem d_L_lookInTable_142 : decode c_L_lookInTable 142 = .ok (.ireturn, 1) := by decide +kernel
theorem d_L_lookInTable_143 : decode c_L_lookInTable 143 = .ok (.iinc 6 4, 3) := by decide +kernel
theorem d_L_lookInTable_146 : decode c_L_lookInTable 146 = .ok (.goto (-95), 3) := by decide +kernel
theorem d_L_lookInTable_149 : decode c_L_lookInTable 149 = .ok (.iconst (-1), 1) := by decide +kernel
theorem d_L_lookInTable_150 : decode c_L_lookInTable 150 = .ok (.ireturn, 1) := by decide +kernel
theorem d_L_lookInTables_0 : decode c_L_lookInTables 0 = .ok (.iconst 0, 1) := by decide +kernel
theorem d_L_lookInTables_1 : decode c_L_lookInTables 1 = .ok (.istore_n 3, 1) := by decide +kernel
theorem d_L_lookInTables_2 : decode c_L_lookInTables 2 = .ok (.iload_n 3, 1) := by decide +kernel
theorem d_L_lookInTables_3 : decode c_L_lookInTables 3 = .ok (.aload_n 0, 1) := by decide +kernel
theorem d_L_lookInTables_4 : decode c_L_lookInTables 4 = .ok (.getfield 19, 3) := by decide +kernel
theorem d_L_lookInTables_7 : decode c_L_lookInTables 7 = .ok (.getfield 86, 3) := by decide +kernel
theorem d_L_lookInTables_10 : decode c_L_lookInTables 10 = .ok (.getfield 112, 3) := by decide +kernel
theorem d_L_lookInTables_13 : decode c_L_lookInTables 13 = .ok (.if_icmp .ge 42, 3) := by decide +kernel
theorem d_L_lookInTables_16 : decode c_L_lookInTables 16 = .ok (.aload_n 0, 1) := by decide +kernel
theorem d_L_lookInTables_17 : decode c_L_lookInTables 17 = .ok (.getfield 19, 3) := by decide +kernel
theorem d_L_lookInTables_20 : decode c_L_lookInTables 20 = .ok (.getfield 86, 3) := by decide +kernel
theorem d_L_lookInTables_23 : decode c_L_lookInTables 23 = .ok (.iload_n 3, 1) := by decide +kernel
theorem d_L_lookInTables_24 : decode c_L_lookInTables 24 = .ok (.iload_n 1, 1) := by decide +kernel
theorem d_L_lookInTables_25 : decode c_L_lookInTables 25 = .ok (.invokevirtual 224, 3) := by decide +kernel
theorem d_L_lookInTables_28 : decode c_L_lookInTables 28 = .ok (.ifCond .eq 21, 3) := by decide +kernel
theorem d_L_lookInTables_31 : decode c_L_lookInTables 31 = .ok (.aload_n 0, 1) := by decide +kernel
theorem d_L_lookInTables_32 : decode c_L_lookInTables 32 = .ok (.iload_n 3, 1) := by decide +kernel
theorem d_L_lookInTables_33 : decode c_L_lookInTables 33 = .ok (.iload_n 1, 1) := by decide +kernel
theorem d_L_lookInTables_34 : decode c_L_lookInTables 34 = .ok (.iload_n 2, 1) := by decide +kernel
theorem d_L_lookInTables_35 : decode c_L_lookInTables 35 = .ok (.invokevirtual 227, 3) := by decide +kernel
theorem d_L_lookInTables_38 : decode c_L_lookInTables 38 = .ok (.istore 4, 2) := by decide +kernel
theorem d_L_lookInTables_40 : decode c_L_lookInTables 40 = .ok (.iload 4, 2) := by decide +kernel
theorem d_L_lookInTables_42 : decode c_L_lookInTables 42 = .ok (.iconst (-1), 1) := by decide +kernel
theorem d_L_lookInTables_43 : decode c_L_lookInTables 43 = .ok (.if_icmp .eq 6, 3) := by decide +kernel
theorem d_L_lookInTables_46 : decode c_L_lookInTables 46 = .ok (.iload 4, 2) := by decide +kernel
theorem d_L_lookInTables_48 : decode c_L_lookInTables 48 = .ok (.ireturn, 1) := by decide +kernel
theorem d_L_lookInTables_49 : decode c_L_lookInTables 49 = .ok (.iinc 3 1, 3) := by decide +kernel
theorem d_L_lookInTables_52 : decode c_L_lookInTables 52 = .ok (.goto (-50), 3) := by decide +kernel
theorem d_L_lookInTables_55 : decode c_L_lookInTables 55 = .ok (.iconst (-1), 1) := by decide +kernel
theorem d_L_lookInTables_56 : decode c_L_lookInTables 56 = .ok (.ireturn, 1) := by decide +kernel
theorem d_L_get_0 : decode c_L_get 0 = .ok (.iload_n 1, 1) := by decide +kernel
theorem d_L_get_1 : decode c_L_get 1 = .ok (.iconst 0, 1) := by decide +kernel
theorem d_L_get_2 : decode c_L_get 2 = .ok (.bipush 63, 2) := by decide +kernel
theorem d_L_get_4 : decode c_L_get 4 = .ok (.invokestatic 73, 3) := by decide +kernel
theorem d_L_get_7 : decode c_L_get 7 = .ok (.aload_n 0, 1) := by decide +kernel
theorem d_L_get_8 : decode c_L_get 8 = .ok (.iload_n 2, 1) := by decide +kernel
theorem d_L_get_9 : decode c_L_get 9 = .ok (.invokevirtual 115, 3) := by decide +kernel
theorem d_L_get_12 : decode c_L_get 12 = .ok (.istore_n 3, 1) := by decide +kernel
theorem d_L_get_13 : decode c_L_get 13 = .ok (.aload_n 0, 1) := by decide +kernel
theorem d_L_get_14 : decode c_L_get 14 = .ok (.dup, 1) := by decide +kernel
theorem d_L_get_15 : decode c_L_get 15 = .ok (.getfield 119, 3) := by decide +kernel
theorem d_L_get_18 : decode c_L_get 18 = .ok (.iconst 1, 1) := by decide +kernel
theorem d_L_get_19 : decode c_L_get 19 = .ok (.iadd, 1) := by decide +kernel
theorem d_L_get_20 : decode c_L_get 20 = .ok (.putfield 119, 3) := by decide +kernel
theorem d_L_get_23 : decode c_L_get 23 = .ok (.aload_n 0, 1) := by decide +kernel
theorem d_L_get_24 : decode c_L_get 24 = .ok (.getfield 10, 3) := by decide +kernel
theorem d_L_get_27 : decode c_L_get 27 = .ok (.iload_n 1, 1) := by decide +kernel
theorem d_L_get_28 : decode c_L_get 28 = .ok (.iload_n 3, 1) := by decide +kernel
theorem d_L_get_29 : decode c_L_get 29 = .ok (.invokevirtual 122, 3) := by decide +kernel
theorem d_L_get_32 : decode c_L_get 32 = .ok (.istore 4, 2) := by decide +kernel
theorem d_L_get_34 : decode c_L_get 34 = .ok (.iload 4, 2) := by decide +kernel
theorem d_L_get_36 : decode c_L_get 36 = .ok (.iconst (-1), 1) := by decide +kernel
theorem d_L_get_37 : decode c_L_get 37 = .ok (.if_icmp .eq 16, 3) := by decide +kernel
theorem d_L_get_40 : decode c_L_get 40 = .ok (.aload_n 0, 1) := by decide +kernel
theorem d_L_get_41 : decode c_L_get 41 = .ok (.getfield 10, 3) := by decide +kernel
theorem d_L_get_44 : decode c_L_get 44 = .ok (.getfield 80, 3) := by decide +kernel
theorem d_L_get_47 : decode c_L_get 47 = .ok (.iload 4, 2) := by decide +kernel
theorem d_L_get_49 : decode c_L_get 49 = .ok (.invokestatic 125, 3) := by decide +kernel
theorem d_L_get_52 : decode c_L_get 52 = .ok (.ireturn, 1) := by decide +kernel
theorem d_L_get_53 : decode c_L_get 53 = .ok (.aload_n 0, 1) := by decide +kernel
theorem d_L_get_54 : decode c_L_get 54 = .ok (.iload_n 1, 1) := by decide +kernel
theorem d_L_get_55 : decode c_L_get 55 = .ok (.iload_n 3, 1) := by decide +kernel
theorem d_L_get_56 : decode c_L_get 56 = .ok (.invokevirtual 129, 3) := by decide +kernel
theorem d_L_get_59 : decode c_L_get 59 = .ok (.istore 4, 2) := by decide +kernel
theorem d_L_get_61 : decode c_L_get 61 = .ok (.iload 4, 2) := by decide +kernel
theorem d_L_get_63 : decode c_L_get 63 = .ok (.iconst (-1), 1) := by decide +kernel
theorem d_L_get_64 : decode c_L_get 64 = .ok (.if_icmp .ne 11, 3) := by decide +kernel
theorem d_L_get_67 : decode c_L_get 67 = .ok (.new 132, 3) := by decide +kernel
theorem d_L_get_70 : decode c_L_get 70 = .ok (.dup, 1) := by decide +kernel
theorem d_L_get_71 : decode c_L_get 71 = .ok (.invokespecial 134, 3) := by decide +kernel
theorem d_L_get_74 : decode c_L_get 74 = .ok (.athrow, 1) := by decide +kernel
theorem d_L_get_75 : decode c_L_get 75 = .ok (.aload_n 0, 1) := by decide +kernel
theorem d_L_get_76 : decode c_L_get 76 = .ok (.getfield 19, 3) := by decide +kernel
theorem d_L_get_79 : decode c_L_get 79 = .ok (.getfield 86, 3) := by decide +kernel
theorem d_L_get_82 : decode c_L_get 82 = .ok (.getfield 90, 3) := by decide +kernel
theorem d_L_get_85 : decode c_L_get 85 = .ok (.iload 4, 2) := by decide +kernel
theorem d_L_get_87 : decode c_L_get 87 = .ok (.invokestatic 125, 3) := by decide +kernel
theorem d_L_get_90 : decode c_L_get 90 = .ok (.ireturn, 1) := by decide +kernel
theorem d_W_get_0 : decode c_W_get 0 = .ok (.aload_n 3, 1) := by decide +kernel
theorem d_W_get_1 : decode c_W_get 1 = .ok (.iconst 0, 1) := by decide +kernel
theorem d_W_get_2 : decode c_W_get 2 = .ok (.aload_n 0, 1) := by decide +kernel
theorem d_W_get_3 : decode c_W_get 3 = .ok (.iload_n 1, 1) := by decide +kernel
theorem d_W_get_4 : decode c_W_get 4 = .ok (.iload_n 2, 1) := by decide +kernel
theorem d_W_get_5 : decode c_W_get 5 = .ok (.invokevirtual 37, 3) := by decide +kernel
theorem d_W_get_8 : decode c_W_get 8 = .ok (.i2l, 1) := by decide +kernel
theorem d_W_get_9 : decode c_W_get 9 = .ok (.lastore, 1) := by decide +kernel
theorem d_W_get_10 : decode c_W_get 10 = .ok (.goto 19, 3) := by decide +kernel
theorem d_W_get_13 : decode c_W_get 13 = .ok (.astore 4, 2) := by decide +kernel
theorem d_W_get_15 : decode c_W_get 15 = .ok (.iconst 1, 1) := by decide +kernel
theorem d_W_get_16 : decode c_W_get 16 = .ok (.ireturn, 1) := by decide +kernel
theorem d_W_get_17 : decode c_W_get 17 = .ok (.astore 4, 2) := by decide +kernel
theorem d_W_get_19 : decode c_W_get 19 = .ok (.iconst 2, 1) := by decide +kernel
theorem d_W_get_20 : decode c_W_get 20 = .ok (.ireturn, 1) := by decide +kernel
theorem d_W_get_21 : decode c_W_get 21 = .ok (.astore 4, 2) := by decide +kernel
theorem d_W_get_23 : decode c_W_get 23 = .ok (.iconst 3, 1) := by decide +kernel
theorem d_W_get_24 : decode c_W_get 24 = .ok (.ireturn, 1) := by decide +kernel
theorem d_W_get_25 : decode c_W_get 25 = .ok (.astore 4, 2) := by decide +kernel
theorem d_W_get_27 : decode c_W_get 27 = .ok (.iconst 4, 1) := by decide +kernel
theorem d_W_get_28 : decode c_W_get 28 = .ok (.ireturn, 1) := by decide +kernel
theorem d_W_get_29 : decode c_W_get 29 = .ok (.iconst 0, 1) := by decide +kernel
theorem d_W_get_30 : decode c_W_get 30 = .ok (.ireturn, 1) := by decide +kernel
theorem d_L_hasValue_0 : decode c_L_hasValue 0 = .ok (.aload_n 0, 1) := by decide +kernel
theorem d_L_hasValue_1 : decode c_L_hasValue 1 = .ok (.getfield 10, 3) := by decide +kernel
theorem d_L_hasValue_4 : decode c_L_hasValue 4 = .ok (.iload_n 1, 1) := by decide +kernel
theorem d_L_hasValue_5 : decode c_L_hasValue 5 = .ok (.iload_n 2, 1) := by decide +kernel
theorem d_L_hasValue_6 : decode c_L_hasValue 6 = .ok (.invokevirtual 122, 3) := by decide +kernel
theorem d_L_hasValue_9 : decode c_L_hasValue 9 = .ok (.istore_n 3, 1) := by decide +kernel
theorem d_L_hasValue_10 : decode c_L_hasValue 10 = .ok (.iload_n 3, 1) := by decide +kernel
theorem d_L_hasValue_11 : decode c_L_hasValue 11 = .ok (.iconst (-1), 1) := by decide +kernel
theorem d_L_hasValue_12 : decode c_L_hasValue 12 = .ok (.if_icmp .eq 24, 3) := by decide +kernel
theorem d_L_hasValue_15 : decode c_L_hasValue 15 = .ok (.aload_n 0, 1) := by decide +kernel
theorem d_L_hasValue_16 : decode c_L_hasValue 16 = .ok (.getfield 10, 3) := by decide +kernel
theorem d_L_hasValue_19 : decode c_L_hasValue 19 = .ok (.getfield 80, 3) := by decide +kernel
theorem d_L_hasValue_22 : decode c_L_hasValue 22 = .ok (.getfield 217, 3) := by decide +kernel
theorem d_L_hasValue_25 : decode c_L_hasValue 25 = .ok (.iload_n 3, 1) := by decide +kernel
theorem d_L_hasValue_26 : decode c_L_hasValue 26 = .ok (.baload, 1) := by decide +kernel
theorem d_L_hasValue_27 : decode c_L_hasValue 27 = .ok (.ifCond .ne 7, 3) := by decide +kernel
theorem d_L_hasValue_30 : decode c_L_hasValue 30 = .ok (.iconst 1, 1) := by decide +kernel
theorem d_L_hasValue_31 : decode c_L_hasValue 31 = .ok (.goto 4, 3) := by decide +kernel
theorem d_L_hasValue_34 : decode c_L_hasValue 34 = .ok (.iconst 0, 1) := by decide +kernel
theorem d_L_hasValue_35 : decode c_L_hasValue 35 = .ok (.ireturn, 1) := by decide +kernel
theorem d_L_hasValue_36 : decode c_L_hasValue 36 = .ok (.aload_n 0, 1) := by decide +kernel
theorem d_L_hasValue_37 : decode c_L_hasValue 37 = .ok (.getfield 19, 3) := by decide +kernel
theorem d_L_hasValue_40 : decode c_L_hasValue 40 = .ok (.getfield 86, 3) := by decide +kernel
theorem d_L_hasValue_43 : decode c_L_hasValue 43 = .ok (.astore 4, 2) := by decide +kernel
theorem d_L_hasValue_45 : decode c_L_hasValue 45 = .ok (.iconst 0, 1) := by decide +kernel
theorem d_L_hasValue_46 : decode c_L_hasValue 46 = .ok (.istore 5, 2) := by decide +kernel
theorem d_L_hasValue_48 : decode c_L_hasValue 48 = .ok (.iload 5, 2) := by decide +kernel
theorem d_L_hasValue_50 : decode c_L_hasValue 50 = .ok (.aload 4, 2) := by decide +kernel
theorem d_L_hasValue_52 : decode c_L_hasValue 52 = .ok (.getfield 112, 3) := by decide +kernel
theorem d_L_hasValue_55 : decode c_L_hasValue 55 = .ok (.if_icmp .ge 73, 3) := by decide +kernel
theorem d_L_hasValue_58 : decode c_L_hasValue 58 = .ok (.aload 4, 2) := by decide +kernel
theorem d_L_hasValue_60 : decode c_L_hasValue 60 = .ok (.iload 5, 2) := by decide +kernel
theorem d_L_hasValue_62 : decode c_L_hasValue 62 = .ok (.iload_n 1, 1) := by decide +kernel
theorem d_L_hasValue_63 : decode c_L_hasValue 63 = .ok (.invokevirtual 224, 3) := by decide +kernel
theorem d_L_hasValue_66 : decode c_L_hasValue 66 = .ok (.ifCond .eq 56, 3) := by decide +kernel
theorem d_L_hasValue_69 : decode c_L_hasValue 69 = .ok (.aload 4, 2) := by decide +kernel
theorem d_L_hasValue_71 : decode c_L_hasValue 71 = .ok (.getfield 90, 3) := by decide +kernel
theorem d_L_hasValue_74 : decode c_L_hasValue 74 = .ok (.iload_n 1, 1) := by decide +kernel
theorem d_L_hasValue_75 : decode c_L_hasValue 75 = .ok (.iload_n 2, 1) := by decide +kernel
theorem d_L_hasValue_76 : decode c_L_hasValue 76 = .ok (.aload 4, 2) := by decide +kernel
theorem d_L_hasValue_78 : decode c_L_hasValue 78 = .ok (.getfield 234, 3) := by decide +kernel
theorem d_L_hasValue_81 : decode c_L_hasValue 81 = .ok (.iload 5, 2) := by decide +kernel
theorem d_L_hasValue_83 : decode c_L_hasValue 83 = .ok (.iaload, 1) := by decide +kernel
theorem d_L_hasValue_84 : decode c_L_hasValue 84 = .ok (.aload 4, 2) := by decide +kernel
theorem d_L_hasValue_86 : decode c_L_hasValue 86 = .ok (.getfield 234, 3) := by decide +kernel
theorem d_L_hasValue_89 : decode c_L_hasValue 89 = .ok (.iload 5, 2) := by decide +kernel
theorem d_L_hasValue_91 : decode c_L_hasValue 91 = .ok (.iconst 1, 1) := by decide +kernel
theorem d_L_hasValue_92 : decode c_L_hasValue 92 = .ok (.iadd, 1) := by decide +kernel
theorem d_L_hasValue_93 : decode c_L_hasValue 93 = .ok (.iaload, 1) := by decide +kernel
theorem d_L_hasValue_94 : decode c_L_hasValue 94 = .ok (.invokevirtual 243, 3) := by decide +kernel
theorem d_L_hasValue_97 : decode c_L_hasValue 97 = .ok (.istore_n 3, 1) := by decide +kernel
theorem d_L_hasValue_98 : decode c_L_hasValue 98 = .ok (.iload_n 3, 1) := by decide +kernel
theorem d_L_hasValue_99 : decode c_L_hasValue 99 = .ok (.iconst (-1), 1) := by decide +kernel
theorem d_L_hasValue_100 : decode c_L_hasValue 100 = .ok (.if_icmp .eq 22, 3) := by decide +kernel
theorem d_L_hasValue_103 : decode c_L_hasValue 103 = .ok (.aload 4, 2) := by decide +kernel
theorem d_L_hasValue_105 : decode c_L_hasValue 105 = .ok (.getfield 90, 3) := by decide +kernel
theorem d_L_hasValue_108 : decode c_L_hasValue 108 = .ok (.getfield 217, 3) := by decide +kernel
theorem d_L_hasValue_111 : decode c_L_hasValue 111 = .ok (.iload_n 3, 1) := by decide +kernel
theorem d_L_hasValue_112 : decode c_L_hasValue 112 = .ok (.baload, 1) := by decide +kernel
theorem d_L_hasValue_113 : decode c_L_hasValue 113 = .ok (.ifCond .ne 7, 3) := by decide +kernel
theorem d_L_hasValue_116 : decode c_L_hasValue 116 = .ok (.iconst 1, 1) := by decide +kernel
theorem d_L_hasValue_117 : decode c_L_hasValue 117 = .ok (.goto 4, 3) := by decide +kernel
theorem d_L_hasValue_120 : decode c_L_hasValue 120 = .ok (.iconst 0, 1) := by decide +kernel
theorem d_L_hasValue_121 : decode c_L_hasValue 121 = .ok (.ireturn, 1) := by decide +kernel
theorem d_L_hasValue_122 : decode c_L_hasValue 122 = .ok (.iinc 5 1, 3) := by decide +kernel
theorem d_L_hasValue_125 : decode c_L_hasValue 125 = .ok (.goto (-77), 3) := by decide +kernel
theorem d_L_hasValue_128 : decode c_L_hasValue 128 = .ok (.iconst 0, 1) := by decide +kernel
theorem d_L_hasValue_129 : decode c_L_hasValue 129 = .ok (.ireturn, 1) := by decide +kernel
theorem d_L_next_0 : decode c_L_next 0 = .ok (.iload_n 1, 1) := by decide +kernel
theorem d_L_next_1 : decode c_L_next 1 = .ok (.iconst (-1), 1) := by decide +kernel
theorem d_L_next_2 : decode c_L_next 2 = .ok (.bipush 63, 2) := by decide +kernel
theorem d_L_next_4 : decode c_L_next 4 = .ok (.invokestatic 73, 3) := by decide +kernel
theorem d_L_next_7 : decode c_L_next 7 = .ok (.aload_n 0, 1) := by decide +kernel
theorem d_L_next_8 : decode c_L_next 8 = .ok (.iload_n 2, 1) := by decide +kernel
theorem d_L_next_9 : decode c_L_next 9 = .ok (.invokevirtual 115, 3) := by decide +kernel
theorem d_L_next_12 : decode c_L_next 12 = .ok (.istore_n 3, 1) := by decide +kernel
theorem d_L_next_13 : decode c_L_next 13 = .ok (.iload_n 1, 1) := by decide +kernel
theorem d_L_next_14 : decode c_L_next 14 = .ok (.iconst 1, 1) := by decide +kernel
theorem d_L_next_15 : decode c_L_next 15 = .ok (.iadd, 1) := by decide +kernel
theorem d_L_next_16 : decode c_L_next 16 = .ok (.istore 4, 2) := by decide +kernel
theorem d_L_next_18 : decode c_L_next 18 = .ok (.iload 4, 2) := by decide +kernel
theorem d_L_next_20 : decode c_L_next 20 = .ok (.bipush 64, 2) := by decide +kernel
theorem d_L_next_22 : decode c_L_next 22 = .ok (.if_icmp .ge 22, 3) := by decide +kernel
theorem d_L_next_25 : decode c_L_next 25 = .ok (.aload_n 0, 1) := by decide +kernel
theorem d_L_next_26 : decode c_L_next 26 = .ok (.iload 4, 2) := by decide +kernel
theorem d_L_next_28 : decode c_L_next 28 = .ok (.iload_n 3, 1) := by decide +kernel
theorem d_L_next_29 : decode c_L_next 29 = .ok (.invokevirtual 135, 3) := by decide +kernel
theorem d_L_next_32 : decode c_L_next 32 = .ok (.ifCond .eq 6, 3) := by decide +kernel
theorem d_L_next_35 : decode c_L_next 35 = .ok (.iload 4, 2) := by decide +kernel
theorem d_L_next_37 : decode c_L_next 37 = .ok (.ireturn, 1) := by decide +kernel
theorem d_L_next_38 : decode c_L_next 38 = .ok (.iinc 4 1, 3) := by decide +kernel
theorem d_L_next_41 : decode c_L_next 41 = .ok (.goto (-23), 3) := by decide +kernel
theorem d_L_next_44 : decode c_L_next 44 = .ok (.new 132, 3) := by decide +kernel
theorem d_L_next_47 : decode c_L_next 47 = .ok (.dup, 1) := by decide +kernel
theorem d_L_next_48 : decode c_L_next 48 = .ok (.invokespecial 134, 3) := by decide +kernel
theorem d_L_next_51 : decode c_L_next 51 = .ok (.athrow, 1) := by decide +kernel
theorem d_W_next_0 : decode c_W_next 0 = .ok (.aload_n 3, 1) := by decide +kernel
theorem d_W_next_1 : decode c_W_next 1 = .ok (.iconst 0, 1) := by decide +kernel
theorem d_W_next_2 : decode c_W_next 2 = .ok (.aload_n 0, 1) := by decide +kernel
theorem d_W_next_3 : decode c_W_next 3 = .ok (.iload_n 1, 1) := by decide +kernel
theorem d_W_next_4 : decode c_W_next 4 = .ok (.iload_n 2, 1) := by decide +kernel
theorem d_W_next_5 : decode c_W_next 5 = .ok (.invokevirtual 42, 3) := by decide +kernel
theorem d_W_next_8 : decode c_W_next 8 = .ok (.i2l, 1) := by decide +kernel
theorem d_W_next_9 : decode c_W_next 9 = .ok (.lastore, 1) := by decide +kernel
theorem d_W_next_10 : decode c_W_next 10 = .ok (.goto 15, 3) := by decide +kernel
theorem d_W_next_13 : decode c_W_next 13 = .ok (.astore 4, 2) := by decide +kernel
theorem d_W_next_15 : decode c_W_next 15 = .ok (.iconst 1, 1) := by decide +kernel
theorem d_W_next_16 : decode c_W_next 16 = .ok (.ireturn, 1) := by decide +kernel
theorem d_W_next_17 : decode c_W_next 17 = .ok (.astore 4, 2) := by decide +kernel
theorem d_W_next_19 : decode c_W_next 19 = .ok (.iconst 2, 1) := by decide +kernel
theorem d_W_next_20 : decode c_W_next 20 = .ok (.ireturn, 1) := by decide +kernel
theorem d_W_next_21 : decode c_W_next 21 = .ok (.astore 4, 2) := by decide +kernel
theorem d_W_next_23 : decode c_W_next 23 = .ok (.iconst 3, 1) := by decide +kernel
theorem d_W_next_24 : decode c_W_next 24 = .ok (.ireturn, 1) := by decide +kernel
theorem d_W_next_25 : decode c_W_next 25 = .ok (.iconst 0, 1) := by decide +kernel
theorem d_W_next_26 : decode c_W_next 26 = .ok (.ireturn, 1) := by decide +kernel
theorem d_L_snapshot_0 : decode c_L_snapshot 0 = .ok (.iconst 0, 1) := by decide +kernel
theorem d_L_snapshot_1 : decode c_L_snapshot 1 = .ok (.istore_n 1, 1) := by decide +kernel
theorem d_L_snapshot_2 : decode c_L_snapshot 2 = .ok (.iload_n 1, 1) := by decide +kernel
theorem d_L_snapshot_3 : decode c_L_snapshot 3 = .ok (.iconst 4, 1) := by decide +kernel
theorem d_L_snapshot_4 : decode c_L_snapshot 4 = .ok (.if_icmp .ge 31, 3) := by decide +kernel
theorem d_L_snapshot_7 : decode c_L_snapshot 7 = .ok (.aload_n 0, 1) := by decide +kernel
theorem d_L_snapshot_8 : decode c_L_snapshot 8 = .ok (.getfield 32, 3) := by decide +kernel
theorem d_L_snapshot_11 : decode c_L_snapshot 11 = .ok (.iload_n 1, 1) := by decide +kernel
theorem d_L_snapshot_12 : decode c_L_snapshot 12 = .ok (.iaload, 1) := by decide +kernel
theorem d_L_snapshot_13 : decode c_L_snapshot 13 = .ok (.iconst (-1), 1) := by decide +kernel
theorem d_L_snapshot_14 : decode c_L_snapshot 14 = .ok (.if_icmp .ne 15, 3) := by decide +kernel
theorem d_L_snapshot_17 : decode c_L_snapshot 17 = .ok (.aload_n 0, 1) := by decide +kernel
theorem d_L_snapshot_18 : decode c_L_snapshot 18 = .ok (.getfield 32, 3) := by decide +kernel
theorem d_L_snapshot_21 : decode c_L_snapshot 21 = .ok (.iload_n 1, 1) := by decide +kernel
theorem d_L_snapshot_22 : decode c_L_snapshot 22 = .ok (.aload_n 0, 1) := by decide +kernel
theorem d_L_snapshot_23 : decode c_L_snapshot 23 = .ok (.getfield 61, 3) := by decide +kernel
theorem d_L_snapshot_26 : decode c_L_snapshot 26 = .ok (.iastore, 1) := by decide +kernel
theorem d_L_snapshot_27 : decode c_L_snapshot 27 = .ok (.iload_n 1, 1) := by decide +kernel
theorem d_L_snapshot_28 : decode c_L_snapshot 28 = .ok (.ireturn, 1) := by decide +kernel
theorem d_L_snapshot_29 : decode c_L_snapshot 29 = .ok (.iinc 1 1, 3) := by decide +kernel
theorem d_L_snapshot_32 : decode c_L_snapshot 32 = .ok (.goto (-30), 3) := by decide +kernel
theorem d_L_snapshot_35 : decode c_L_snapshot 35 = .ok (.new 58, 3) := by decide +kernel
theorem d_L_snapshot_38 : decode c_L_snapshot 38 = .ok (.dup, 1) := by decide +kernel
theorem d_L_snapshot_39 : decode c_L_snapshot 39 = .ok (.invokespecial 60, 3) := by decide +kernel
theorem d_L_snapshot_42 : decode c_L_snapshot 42 = .ok (.athrow, 1) := by decide +kernel
theorem d_W_snapshot_0 : decode c_W_snapshot 0 = .ok (.aload_n 1, 1) := by decide +kernel
theorem d_W_snapshot_1 : decode c_W_snapshot 1 = .ok (.iconst 0, 1) := by decide +kernel
theorem d_W_snapshot_2 : decode c_W_snapshot 2 = .ok (.aload_n 0, 1) := by decide +kernel
theorem d_W_snapshot_3 : decode c_W_snapshot 3 = .ok (.invokevirtual 45, 3) := by decide +kernel
theorem d_W_snapshot_6 : decode c_W_snapshot 6 = .ok (.i2l, 1) := by decide +kernel
theorem d_W_snapshot_7 : decode c_W_snapshot 7 = .ok (.lastore, 1) := by decide +kernel
theorem d_W_snapshot_8 : decode c_W_snapshot 8 = .ok (.goto 6, 3) := by decide +kernel
theorem d_W_snapshot_11 : decode c_W_snapshot 11 = .ok (.astore_n 2, 1) := by decide +kernel
theorem d_W_snapshot_12 : decode c_W_snapshot 12 = .ok (.iconst 1, 1) := by decide +kernel
theorem d_W_snapshot_13 : decode c_W_snapshot 13 = .ok (.ireturn, 1) := by decide +kernel
theorem d_W_snapshot_14 : decode c_W_snapshot 14 = .ok (.iconst 0, 1) := by decide +kernel
theorem d_W_snapshot_15 : decode c_W_snapshot 15 = .ok (.ireturn, 1) := by decide +kernel
theorem d_L_release_0 : decode c_L_release 0 = .ok (.iload_n 1, 1) := by decide +kernel
theorem d_L_release_1 : decode c_L_release 1 = .ok (.iconst 0, 1) := by decide +kernel
theorem d_L_release_2 : decode c_L_release 2 = .ok (.iconst 3, 1) := by decide +kernel
theorem d_L_release_3 : decode c_L_release 3 = .ok (.invokestatic 73, 3) := by decide +kernel
theorem d_L_release_6 : decode c_L_release 6 = .ok (.aload_n 0, 1) := by decide +kernel
theorem d_L_release_7 : decode c_L_release 7 = .ok (.iload_n 1, 1) := by decide +kernel
theorem d_L_release_8 : decode c_L_release 8 = .ok (.invokevirtual 115, 3) := by decide +kernel
theorem d_L_release_11 : decode c_L_release 11 = .ok (.istore_n 2, 1) := by decide +kernel
theorem d_L_release_12 : decode c_L_release 12 = .ok (.aload_n 0, 1) := by decide +kernel
theorem d_L_release_13 : decode c_L_release 13 = .ok (.getfield 32, 3) := by decide +kernel
theorem d_L_release_16 : decode c_L_release 16 = .ok (.iload_n 1, 1) := by decide +kernel
theorem d_L_release_17 : decode c_L_release 17 = .ok (.iconst (-1), 1) := by decide +kernel
theorem d_L_release_18 : decode c_L_release 18 = .ok (.iastore, 1) := by decide +kernel
theorem d_L_release_19 : decode c_L_release 19 = .ok (.iload_n 2, 1) := by decide +kernel
theorem d_L_release_20 : decode c_L_release 20 = .ok (.ireturn, 1) := by decide +kernel
theorem d_W_release_0 : decode c_W_release 0 = .ok (.aload_n 2, 1) := by decide +kernel
theorem d_W_release_1 : decode c_W_release 1 = .ok (.iconst 0, 1) := by decide +kernel
theorem d_W_release_2 : decode c_W_release 2 = .ok (.aload_n 0, 1) := by decide +kernel
theorem d_W_release_3 : decode c_W_release 3 = .ok (.iload_n 1, 1) := by decide +kernel
theorem d_W_release_4 : decode c_W_release 4 = .ok (.invokevirtual 48, 3) := by decide +kernel
theorem d_W_release_7 : decode c_W_release 7 = .ok (.i2l, 1) := by decide +kernel
theorem d_W_release_8 : decode c_W_release 8 = .ok (.lastore, 1) := by decide +kernel
theorem d_W_release_9 : decode c_W_release 9 = .ok (.goto 9, 3) := by decide +kernel
theorem d_W_release_12 : decode c_W_release 12 = .ok (.astore_n 3, 1) := by decide +kernel
theorem d_W_release_13 : decode c_W_release 13 = .ok (.iconst 1, 1) := by decide +kernel
theorem d_W_release_14 : decode c_W_release 14 = .ok (.ireturn, 1) := by decide +kernel
theorem d_W_release_15 : decode c_W_release 15 = .ok (.astore_n 3, 1) := by decide +kernel
theorem d_W_release_16 : decode c_W_release 16 = .ok (.iconst 2, 1) := by decide +kernel
theorem d_W_release_17 : decode c_W_release 17 = .ok (.ireturn, 1) := by decide +kernel
theorem d_W_release_18 : decode c_W_release 18 = .ok (.iconst 0, 1) := by decide +kernel
theorem d_W_release_19 : decode c_W_release 19 = .ok (.ireturn, 1) := by decide +kernel
theorem d_S_sizeOf_0 : decode c_S_sizeOf 0 = .ok (.aload_n 0, 1) := by decide +kernel
theorem d_S_sizeOf_1 : decode c_S_sizeOf 1 = .ok (.getfield 27, 3) := by decide +kernel
theorem d_S_sizeOf_4 : decode c_S_sizeOf 4 = .ok (.iload_n 1, 1) := by decide +kernel
theorem d_S_sizeOf_5 : decode c_S_sizeOf 5 = .ok (.iconst 1, 1) := by decide +kernel
theorem d_S_sizeOf_6 : decode c_S_sizeOf 6 = .ok (.iadd, 1) := by decide +kernel
theorem d_S_sizeOf_7 : decode c_S_sizeOf 7 = .ok (.iaload, 1) := by decide +kernel
theorem d_S_sizeOf_8 : decode c_S_sizeOf 8 = .ok (.aload_n 0, 1) := by decide +kernel
theorem d_S_sizeOf_9 : decode c_S_sizeOf 9 = .ok (.getfield 27, 3) := by decide +kernel
theorem d_S_sizeOf_12 : decode c_S_sizeOf 12 = .ok (.iload_n 1, 1) := by decide +kernel
theorem d_S_sizeOf_13 : decode c_S_sizeOf 13 = .ok (.iaload, 1) := by decide +kernel
theorem d_S_sizeOf_14 : decode c_S_sizeOf 14 = .ok (.isub, 1) := by decide +kernel
theorem d_S_sizeOf_15 : decode c_S_sizeOf 15 = .ok (.ireturn, 1) := by decide +kernel
theorem d_S_blocksOf_0 : decode c_S_blocksOf 0 = .ok (.aload_n 0, 1) := by decide +kernel
theorem d_S_blocksOf_1 : decode c_S_blocksOf 1 = .ok (.iload_n 1, 1) := by decide +kernel
theorem d_S_blocksOf_2 : decode c_S_blocksOf 2 = .ok (.invokevirtual 55, 3) := by decide +kernel
theorem d_S_blocksOf_5 : decode c_S_blocksOf 5 = .ok (.iconst 4, 1) := by decide +kernel
theorem d_S_blocksOf_6 : decode c_S_blocksOf 6 = .ok (.iadd, 1) := by decide +kernel
theorem d_S_blocksOf_7 : decode c_S_blocksOf 7 = .ok (.iconst 1, 1) := by decide +kernel
theorem d_S_blocksOf_8 : decode c_S_blocksOf 8 = .ok (.isub, 1) := by decide +kernel
theorem d_S_blocksOf_9 : decode c_S_blocksOf 9 = .ok (.iconst 4, 1) := by decide +kernel
theorem d_S_blocksOf_10 : decode c_S_blocksOf 10 = .ok (.idiv, 1) := by decide +kernel
theorem d_S_blocksOf_11 : decode c_S_blocksOf 11 = .ok (.ireturn, 1) := by decide +kernel
theorem d_S_spoilBlock_0 : decode c_S_spoilBlock 0 = .ok (.aload_n 0, 1) := by decide +kernel
theorem d_S_spoilBlock_1 : decode c_S_spoilBlock 1 = .ok (.getfield 27, 3) := by decide +kernel
theorem d_S_spoilBlock_4 : decode c_S_spoilBlock 4 = .ok (.iload_n 1, 1) := by decide +kernel
theorem d_S_spoilBlock_5 : decode c_S_spoilBlock 5 = .ok (.iaload, 1) := by decide +kernel
theorem d_S_spoilBlock_6 : decode c_S_spoilBlock 6 = .ok (.iload_n 2, 1) := by decide +kernel
theorem d_S_spoilBlock_7 : decode c_S_spoilBlock 7 = .ok (.iconst 4, 1) := by decide +kernel
theorem d_S_spoilBlock_8 : decode c_S_spoilBlock 8 = .ok (.imul, 1) := by decide +kernel
theorem d_S_spoilBlock_9 : decode c_S_spoilBlock 9 = .ok (.iadd, 1) := by decide +kernel
theorem d_S_spoilBlock_10 : decode c_S_spoilBlock 10 = .ok (.istore_n 3, 1) := by decide +kernel
theorem d_S_spoilBlock_11 : decode c_S_spoilBlock 11 = .ok (.iload_n 3, 1) := by decide +kernel
theorem d_S_spoilBlock_12 : decode c_S_spoilBlock 12 = .ok (.iconst 4, 1) := by decide +kernel
theorem d_S_spoilBlock_13 : decode c_S_spoilBlock 13 = .ok (.iadd, 1) := by decide +kernel
theorem d_S_spoilBlock_14 : decode c_S_spoilBlock 14 = .ok (.aload_n 0, 1) := by decide +kernel
theorem d_S_spoilBlock_15 : decode c_S_spoilBlock 15 = .ok (.getfield 27, 3) := by decide +kernel
theorem d_S_spoilBlock_18 : decode c_S_spoilBlock 18 = .ok (.iload_n 1, 1) := by decide +kernel
theorem d_S_spoilBlock_19 : decode c_S_spoilBlock 19 = .ok (.iconst 1, 1) := by decide +kernel
theorem d_S_spoilBlock_20 : decode c_S_spoilBlock 20 = .ok (.iadd, 1) := by decide +kernel
theorem d_S_spoilBlock_21 : decode c_S_spoilBlock 21 = .ok (.iaload, 1) := by decide +kernel
theorem d_S_spoilBlock_22 : decode c_S_spoilBlock 22 = .ok (.invokestatic 63, 3) := by decide +kernel
theorem d_S_spoilBlock_25 : decode c_S_spoilBlock 25 = .ok (.istore 4, 2) := by decide +kernel
theorem d_S_spoilBlock_27 : decode c_S_spoilBlock 27 = .ok (.iload_n 3, 1) := by decide +kernel
theorem d_S_spoilBlock_28 : decode c_S_spoilBlock 28 = .ok (.istore 5, 2) := by decide +kernel
theorem d_S_spoilBlock_30 : decode c_S_spoilBlock 30 = .ok (.iload 5, 2) := by decide +kernel
theorem d_S_spoilBlock_32 : decode c_S_spoilBlock 32 = .ok (.iload 4, 2) := by decide +kernel
theorem d_S_spoilBlock_34 : decode c_S_spoilBlock 34 = .ok (.if_icmp .ge 20, 3) := by decide +kernel
theorem d_S_spoilBlock_37 : decode c_S_spoilBlock 37 = .ok (.aload_n 0, 1) := by decide +kernel
theorem d_S_spoilBlock_38 : decode c_S_spoilBlock 38 = .ok (.getfield 14, 3) := by decide +kernel
theorem d_S_spoilBlock_41 : decode c_S_spoilBlock 41 = .ok (.getfield 59, 3) := by decide +kernel
theorem d_S_spoilBlock_44 : decode c_S_spoilBlock 44 = .ok (.iload 5, 2) := by decide +kernel
theorem d_S_spoilBlock_46 : decode c_S_spoilBlock 46 = .ok (.iconst 1, 1) := by decide +kernel
theorem d_S_spoilBlock_47 : decode c_S_spoilBlock 47 = .ok (.bastore, 1) := by decide +kernel
theorem d_S_spoilBlock_48 : decode c_S_spoilBlock 48 = .ok (.iinc 5 1, 3) := by decide +kernel
theorem d_S_spoilBlock_51 : decode c_S_spoilBlock 51 = .ok (.goto (-21), 3) := by decide +kernel
theorem d_S_spoilBlock_54 : decode c_S_spoilBlock 54 = .ok (.iload 4, 2) := by decide +kernel
theorem d_S_spoilBlock_56 : decode c_S_spoilBlock 56 = .ok (.iload_n 3, 1) := by decide +kernel
theorem d_S_spoilBlock_57 : decode c_S_spoilBlock 57 = .ok (.isub, 1) := by decide +kernel
theorem d_S_spoilBlock_58 : decode c_S_spoilBlock 58 = .ok (.ireturn, 1) := by decide +kernel
theorem d_L_spoil_0 : decode c_L_spoil 0 = .ok (.iload_n 1, 1) := by decide +kernel
theorem d_L_spoil_1 : decode c_L_spoil 1 = .ok (.iconst 0, 1) := by decide +kernel
theorem d_L_spoil_2 : decode c_L_spoil 2 = .ok (.bipush 59, 2) := by decide +kernel
theorem d_L_spoil_4 : decode c_L_spoil 4 = .ok (.invokestatic 73, 3) := by decide +kernel
theorem d_L_spoil_7 : decode c_L_spoil 7 = .ok (.iload_n 2, 1) := by decide +kernel
theorem d_L_spoil_8 : decode c_L_spoil 8 = .ok (.iconst 0, 1) := by decide +kernel
theorem d_L_spoil_9 : decode c_L_spoil 9 = .ok (.bipush 59, 2) := by decide +kernel
theorem d_L_spoil_11 : decode c_L_spoil 11 = .ok (.invokestatic 73, 3) := by decide +kernel
theorem d_L_spoil_14 : decode c_L_spoil 14 = .ok (.iload_n 1, 1) := by decide +kernel
theorem d_L_spoil_15 : decode c_L_spoil 15 = .ok (.aload_n 0, 1) := by decide +kernel
theorem d_L_spoil_16 : decode c_L_spoil 16 = .ok (.getfield 19, 3) := by decide +kernel
theorem d_L_spoil_19 : decode c_L_spoil 19 = .ok (.getfield 86, 3) := by decide +kernel
theorem d_L_spoil_22 : decode c_L_spoil 22 = .ok (.getfield 112, 3) := by decide +kernel
theorem d_L_spoil_25 : decode c_L_spoil 25 = .ok (.if_icmp .ge 18, 3) := by decide +kernel
theorem d_L_spoil_28 : decode c_L_spoil 28 = .ok (.iload_n 2, 1) := by decide +kernel
theorem d_L_spoil_29 : decode c_L_spoil 29 = .ok (.aload_n 0, 1) := by decide +kernel
theorem d_L_spoil_30 : decode c_L_spoil 30 = .ok (.getfield 19, 3) := by decide +kernel
theorem d_L_spoil_33 : decode c_L_spoil 33 = .ok (.getfield 86, 3) := by decide +kernel
theorem d_L_spoil_36 : decode c_L_spoil 36 = .ok (.iload_n 1, 1) := by decide +kernel
theorem d_L_spoil_37 : decode c_L_spoil 37 = .ok (.invokevirtual 139, 3) := by decide +kernel
theorem d_L_spoil_40 : decode c_L_spoil 40 = .ok (.if_icmp .lt 11, 3) := by decide +kernel
theorem d_L_spoil_43 : decode c_L_spoil 43 = .ok (.new 142, 3) := by decide +kernel
theorem d_L_spoil_46 : decode c_L_spoil 46 = .ok (.dup, 1) := by decide +kernel
theorem d_L_spoil_47 : decode c_L_spoil 47 = .ok (.invokespecial 144, 3) := by decide +kernel
theorem d_L_spoil_50 : decode c_L_spoil 50 = .ok (.athrow, 1) := by decide +kernel
theorem d_L_spoil_51 : decode c_L_spoil 51 = .ok (.aload_n 0, 1) := by decide +kernel
theorem d_L_spoil_52 : decode c_L_spoil 52 = .ok (.getfield 19, 3) := by decide +kernel
theorem d_L_spoil_55 : decode c_L_spoil 55 = .ok (.getfield 86, 3) := by decide +kernel
theorem d_L_spoil_58 : decode c_L_spoil 58 = .ok (.iload_n 1, 1) := by decide +kernel
theorem d_L_spoil_59 : decode c_L_spoil 59 = .ok (.iload_n 2, 1) := by decide +kernel
theorem d_L_spoil_60 : decode c_L_spoil 60 = .ok (.invokevirtual 145, 3) := by decide +kernel
theorem d_L_spoil_63 : decode c_L_spoil 63 = .ok (.ireturn, 1) := by decide +kernel
theorem d_W_spoil_0 : decode c_W_spoil 0 = .ok (.aload_n 3, 1) := by decide +kernel
theorem d_W_spoil_1 : decode c_W_spoil 1 = .ok (.iconst 0, 1) := by decide +kernel
theorem d_W_spoil_2 : decode c_W_spoil 2 = .ok (.aload_n 0, 1) := by decide +kernel
theorem d_W_spoil_3 : decode c_W_spoil 3 = .ok (.iload_n 1, 1) := by decide +kernel
theorem d_W_spoil_4 : decode c_W_spoil 4 = .ok (.iload_n 2, 1) := by decide +kernel
theorem d_W_spoil_5 : decode c_W_spoil 5 = .ok (.invokevirtual 51, 3) := by decide +kernel
theorem d_W_spoil_8 : decode c_W_spoil 8 = .ok (.i2l, 1) := by decide +kernel
theorem d_W_spoil_9 : decode c_W_spoil 9 = .ok (.lastore, 1) := by decide +kernel
theorem d_W_spoil_10 : decode c_W_spoil 10 = .ok (.goto 11, 3) := by decide +kernel
theorem d_W_spoil_13 : decode c_W_spoil 13 = .ok (.astore 4, 2) := by decide +kernel
theorem d_W_spoil_15 : decode c_W_spoil 15 = .ok (.iconst 1, 1) := by decide +kernel
theorem d_W_spoil_16 : decode c_W_spoil 16 = .ok (.ireturn, 1) := by decide +kernel
theorem d_W_spoil_17 : decode c_W_spoil 17 = .ok (.astore 4, 2) := by decide +kernel
theorem d_W_spoil_19 : decode c_W_spoil 19 = .ok (.iconst 2, 1) := by decide +kernel
theorem d_W_spoil_20 : decode c_W_spoil 20 = .ok (.ireturn, 1) := by decide +kernel
theorem d_W_spoil_21 : decode c_W_spoil 21 = .ok (.iconst 0, 1) := by decide +kernel
theorem d_W_spoil_22 : decode c_W_spoil 22 = .ok (.ireturn, 1) := by decide +kernel
theorem d_L_effort_0 : decode c_L_effort 0 = .ok (.aload_n 0, 1) := by decide +kernel
theorem d_L_effort_1 : decode c_L_effort 1 = .ok (.getfield 119, 3) := by decide +kernel
theorem d_L_effort_4 : decode c_L_effort 4 = .ok (.ifCond .ne 11, 3) := by decide +kernel
theorem d_L_effort_7 : decode c_L_effort 7 = .ok (.new 151, 3) := by decide +kernel
theorem d_L_effort_10 : decode c_L_effort 10 = .ok (.dup, 1) := by decide +kernel
theorem d_L_effort_11 : decode c_L_effort 11 = .ok (.invokespecial 153, 3) := by decide +kernel
theorem d_L_effort_14 : decode c_L_effort 14 = .ok (.athrow, 1) := by decide +kernel
theorem d_L_effort_15 : decode c_L_effort 15 = .ok (.aload_n 0, 1) := by decide +kernel
theorem d_L_effort_16 : decode c_L_effort 16 = .ok (.getfield 154, 3) := by decide +kernel
theorem d_L_effort_19 : decode c_L_effort 19 = .ok (.i2d, 1) := by decide +kernel
theorem d_L_effort_20 : decode c_L_effort 20 = .ok (.aload_n 0, 1) := by decide +kernel
theorem d_L_effort_21 : decode c_L_effort 21 = .ok (.getfield 119, 3) := by decide +kernel
theorem d_L_effort_24 : decode c_L_effort 24 = .ok (.i2d, 1) := by decide +kernel
theorem d_L_effort_25 : decode c_L_effort 25 = .ok (.ddiv, 1) := by decide +kernel
theorem d_L_effort_26 : decode c_L_effort 26 = .ok (.dreturn, 1) := by decide +kernel
theorem d_W_effort_0 : decode c_W_effort 0 = .ok (.aload_n 1, 1) := by decide +kernel
theorem d_W_effort_1 : decode c_W_effort 1 = .ok (.iconst 0, 1) := by decide +kernel
theorem d_W_effort_2 : decode c_W_effort 2 = .ok (.aload_n 0, 1) := by decide +kernel
theorem d_W_effort_3 : decode c_W_effort 3 = .ok (.invokevirtual 56, 3) := by decide +kernel
theorem d_W_effort_6 : decode c_W_effort 6 = .ok (.dastore, 1) := by decide +kernel
theorem d_W_effort_7 : decode c_W_effort 7 = .ok (.goto 6, 3) := by decide +kernel
theorem d_W_effort_10 : decode c_W_effort 10 = .ok (.astore_n 2, 1) := by decide +kernel
theorem d_W_effort_11 : decode c_W_effort 11 = .ok (.iconst 1, 1) := by decide +kernel
theorem d_W_effort_12 : decode c_W_effort 12 = .ok (.ireturn, 1) := by decide +kernel
theorem d_W_effort_13 : decode c_W_effort 13 = .ok (.iconst 0, 1) := by decide +kernel
theorem d_W_effort_14 : decode c_W_effort 14 = .ok (.ireturn, 1) := by decide +kernel
theorem d_S_entryNumber_0 : decode c_S_entryNumber 0 = .ok (.iload_n 2, 1) := by decide +kernel
theorem d_S_entryNumber_1 : decode c_S_entryNumber 1 = .ok (.aload_n 0, 1) := by decide +kernel
theorem d_S_entryNumber_2 : decode c_S_entryNumber 2 = .ok (.iload_n 1, 1) := by decide +kernel
theorem d_S_entryNumber_3 : decode c_S_entryNumber 3 = .ok (.invokevirtual 55, 3) := by decide +kernel
theorem d_S_entryNumber_6 : decode c_S_entryNumber 6 = .ok (.if_icmp .ge 22, 3) := by decide +kernel
theorem d_S_entryNumber_9 : decode c_S_entryNumber 9 = .ok (.aload_n 0, 1) := by decide +kernel
theorem d_S_entryNumber_10 : decode c_S_entryNumber 10 = .ok (.getfield 14, 3) := by decide +kernel
theorem d_S_entryNumber_13 : decode c_S_entryNumber 13 = .ok (.getfield 58, 3) := by decide +kernel
theorem d_S_entryNumber_16 : decode c_S_entryNumber 16 = .ok (.aload_n 0, 1) := by decide +kernel
theorem d_S_entryNumber_17 : decode c_S_entryNumber 17 = .ok (.getfield 27, 3) := by decide +kernel
theorem d_S_entryNumber_20 : decode c_S_entryNumber 20 = .ok (.iload_n 1, 1) := by decide +kernel
theorem d_S_entryNumber_21 : decode c_S_entryNumber 21 = .ok (.iaload, 1) := by decide +kernel
theorem d_S_entryNumber_22 : decode c_S_entryNumber 22 = .ok (.iload_n 2, 1) := by decide +kernel
theorem d_S_entryNumber_23 : decode c_S_entryNumber 23 = .ok (.iadd, 1) := by decide +kernel
theorem d_S_entryNumber_24 : decode c_S_entryNumber 24 = .ok (.iaload, 1) := by decide +kernel
theorem d_S_entryNumber_25 : decode c_S_entryNumber 25 = .ok (.goto 4, 3) := by decide +kernel
theorem d_S_entryNumber_28 : decode c_S_entryNumber 28 = .ok (.iconst 0, 1) := by decide +kernel
theorem d_S_entryNumber_29 : decode c_S_entryNumber 29 = .ok (.ireturn, 1) := by decide +kernel
theorem d_L_table_0 : decode c_L_table 0 = .ok (.iload_n 1, 1) := by decide +kernel
theorem d_L_table_1 : decode c_L_table 1 = .ok (.iconst 0, 1) := by decide +kernel
theorem d_L_table_2 : decode c_L_table 2 = .ok (.bipush 59, 2) := by decide +kernel
theorem d_L_table_4 : decode c_L_table 4 = .ok (.invokestatic 73, 3) := by decide +kernel
theorem d_L_table_7 : decode c_L_table 7 = .ok (.iload_n 2, 1) := by decide +kernel
theorem d_L_table_8 : decode c_L_table 8 = .ok (.iconst 0, 1) := by decide +kernel
theorem d_L_table_9 : decode c_L_table 9 = .ok (.bipush 15, 2) := by decide +kernel
theorem d_L_table_11 : decode c_L_table 11 = .ok (.invokestatic 73, 3) := by decide +kernel
theorem d_L_table_14 : decode c_L_table 14 = .ok (.aload_n 0, 1) := by decide +kernel
theorem d_L_table_15 : decode c_L_table 15 = .ok (.getfield 19, 3) := by decide +kernel
theorem d_L_table_18 : decode c_L_table 18 = .ok (.getfield 86, 3) := by decide +kernel
theorem d_L_table_21 : decode c_L_table 21 = .ok (.astore_n 3, 1) := by decide +kernel
theorem d_L_table_22 : decode c_L_table 22 = .ok (.iload_n 1, 1) := by decide +kernel
theorem d_L_table_23 : decode c_L_table 23 = .ok (.aload_n 3, 1) := by decide +kernel
theorem d_L_table_24 : decode c_L_table 24 = .ok (.getfield 112, 3) := by decide +kernel
theorem d_L_table_27 : decode c_L_table 27 = .ok (.if_icmp .lt 11, 3) := by decide +kernel
theorem d_L_table_30 : decode c_L_table 30 = .ok (.new 142, 3) := by decide +kernel
theorem d_L_table_33 : decode c_L_table 33 = .ok (.dup, 1) := by decide +kernel
theorem d_L_table_34 : decode c_L_table 34 = .ok (.invokespecial 144, 3) := by decide +kernel
end
section
/-! DECODED INSTRUCTIONS -/
theorem d_L_table_37 : decode c_L_table 37 = .ok (.athrow, 1) := by decide +kernel
theorem d_L_table_38 : decode c_L_table 38 = .ok (.iload_n 2, 1) := by decide +kernel
theorem d_L_table_39 : decode c_L_table 39 = .ok (.tableswitch 75 0 5 #[37, 44, 51, 57, 63, 69], 37) := by decide +kernel
theorem d_L_table_76 : decode c_L_table 76 = .ok (.aload_n 3, 1) := by decide +kernel
theorem d_L_table_77 : decode c_L_table 77 = .ok (.getfield 157, 3) := by decide +kernel
theorem d_L_table_80 : decode c_L_table 80 = .ok (.iload_n 1, 1) := by decide +kernel
theorem d_L_table_81 : decode c_L_table 81 = .ok (.iaload, 1) := by decide +kernel
theorem d_L_table_82 : decode c_L_table 82 = .ok (.ireturn, 1) := by decide +kernel
theorem d_L_table_83 : decode c_L_table 83 = .ok (.aload_n 3, 1) := by decide +kernel
theorem d_L_table_84 : decode c_L_table 84 = .ok (.getfield 160, 3) := by decide +kernel
theorem d_L_table_87 : decode c_L_table 87 = .ok (.iload_n 1, 1) := by decide +kernel
theorem d_L_table_88 : decode c_L_table 88 = .ok (.iaload, 1) := by decide +kernel
theorem d_L_table_89 : decode c_L_table 89 = .ok (.ireturn, 1) := by decide +kernel
theorem d_L_table_90 : decode c_L_table 90 = .ok (.aload_n 3, 1) := by decide +kernel
theorem d_L_table_91 : decode c_L_table 91 = .ok (.iload_n 1, 1) := by decide +kernel
theorem d_L_table_92 : decode c_L_table 92 = .ok (.invokevirtual 163, 3) := by decide +kernel
theorem d_L_table_95 : decode c_L_table 95 = .ok (.ireturn, 1) := by decide +kernel
theorem d_L_table_96 : decode c_L_table 96 = .ok (.aload_n 3, 1) := by decide +kernel
theorem d_L_table_97 : decode c_L_table 97 = .ok (.iload_n 1, 1) := by decide +kernel
theorem d_L_table_98 : decode c_L_table 98 = .ok (.invokevirtual 166, 3) := by decide +kernel
theorem d_L_table_101 : decode c_L_table 101 = .ok (.ireturn, 1) := by decide +kernel
theorem d_L_table_102 : decode c_L_table 102 = .ok (.aload_n 3, 1) := by decide +kernel
theorem d_L_table_103 : decode c_L_table 103 = .ok (.iload_n 1, 1) := by decide +kernel
theorem d_L_table_104 : decode c_L_table 104 = .ok (.invokevirtual 169, 3) := by decide +kernel
theorem d_L_table_107 : decode c_L_table 107 = .ok (.ireturn, 1) := by decide +kernel
theorem d_L_table_108 : decode c_L_table 108 = .ok (.aload_n 3, 1) := by decide +kernel
theorem d_L_table_109 : decode c_L_table 109 = .ok (.iload_n 1, 1) := by decide +kernel
theorem d_L_table_110 : decode c_L_table 110 = .ok (.invokevirtual 172, 3) := by decide +kernel
theorem d_L_table_113 : decode c_L_table 113 = .ok (.ireturn, 1) := by decide +kernel
theorem d_L_table_114 : decode c_L_table 114 = .ok (.aload_n 3, 1) := by decide +kernel
theorem d_L_table_115 : decode c_L_table 115 = .ok (.iload_n 1, 1) := by decide +kernel
theorem d_L_table_116 : decode c_L_table 116 = .ok (.iload_n 2, 1) := by decide +kernel
theorem d_L_table_117 : decode c_L_table 117 = .ok (.bipush 6, 2) := by decide +kernel
theorem d_L_table_119 : decode c_L_table 119 = .ok (.isub, 1) := by decide +kernel
theorem d_L_table_120 : decode c_L_table 120 = .ok (.invokevirtual 175, 3) := by decide +kernel
theorem d_L_table_123 : decode c_L_table 123 = .ok (.ireturn, 1) := by decide +kernel
theorem d_W_table_0 : decode c_W_table 0 = .ok (.aload_n 3, 1) := by decide +kernel
theorem d_W_table_1 : decode c_W_table 1 = .ok (.iconst 0, 1) := by decide +kernel
theorem d_W_table_2 : decode c_W_table 2 = .ok (.aload_n 0, 1) := by decide +kernel
theorem d_W_table_3 : decode c_W_table 3 = .ok (.iload_n 1, 1) := by decide +kernel
theorem d_W_table_4 : decode c_W_table 4 = .ok (.iload_n 2, 1) := by decide +kernel
theorem d_W_table_5 : decode c_W_table 5 = .ok (.invokevirtual 62, 3) := by decide +kernel
theorem d_W_table_8 : decode c_W_table 8 = .ok (.i2l, 1) := by decide +kernel
theorem d_W_table_9 : decode c_W_table 9 = .ok (.lastore, 1) := by decide +kernel
theorem d_W_table_10 : decode c_W_table 10 = .ok (.goto 11, 3) := by decide +kernel
theorem d_W_table_13 : decode c_W_table 13 = .ok (.astore 4, 2) := by decide +kernel
theorem d_W_table_15 : decode c_W_table 15 = .ok (.iconst 1, 1) := by decide +kernel
theorem d_W_table_16 : decode c_W_table 16 = .ok (.ireturn, 1) := by decide +kernel
theorem d_W_table_17 : decode c_W_table 17 = .ok (.astore 4, 2) := by decide +kernel
theorem d_W_table_19 : decode c_W_table 19 = .ok (.iconst 2, 1) := by decide +kernel
theorem d_W_table_20 : decode c_W_table 20 = .ok (.ireturn, 1) := by decide +kernel
theorem d_W_table_21 : decode c_W_table 21 = .ok (.iconst 0, 1) := by decide +kernel
theorem d_W_table_22 : decode c_W_table 22 = .ok (.ireturn, 1) := by decide +kernel
theorem d_L_count_0 : decode c_L_count 0 = .ok (.iload_n 1, 1) := by decide +kernel
theorem d_L_count_1 : decode c_L_count 1 = .ok (.iconst 0, 1) := by decide +kernel
theorem d_L_count_2 : decode c_L_count 2 = .ok (.bipush 16, 2) := by decide +kernel
theorem d_L_count_4 : decode c_L_count 4 = .ok (.invokestatic 73, 3) := by decide +kernel
theorem d_L_count_7 : decode c_L_count 7 = .ok (.iload_n 1, 1) := by decide +kernel
theorem d_L_count_8 : decode c_L_count 8 = .ok (.tableswitch 194 0 16 #[84, 89, 100, 108, 116, 127, 143, 148, 153, 158, 166, 194, 194, 194, 194, 174, 184], 84) := by decide +kernel
theorem d_L_count_92 : decode c_L_count 92 = .ok (.aload_n 0, 1) := by decide +kernel
theorem d_L_count_93 : decode c_L_count 93 = .ok (.getfield 61, 3) := by decide +kernel
theorem d_L_count_96 : decode c_L_count 96 = .ok (.ireturn, 1) := by decide +kernel
theorem d_L_count_97 : decode c_L_count 97 = .ok (.aload_n 0, 1) := by decide +kernel
theorem d_L_count_98 : decode c_L_count 98 = .ok (.getfield 10, 3) := by decide +kernel
theorem d_L_count_101 : decode c_L_count 101 = .ok (.getfield 80, 3) := by decide +kernel
theorem d_L_count_104 : decode c_L_count 104 = .ok (.getfield 50, 3) := by decide +kernel
theorem d_L_count_107 : decode c_L_count 107 = .ok (.ireturn, 1) := by decide +kernel
theorem d_L_count_108 : decode c_L_count 108 = .ok (.aload_n 0, 1) := by decide +kernel
theorem d_L_count_109 : decode c_L_count 109 = .ok (.getfield 10, 3) := by decide +kernel
theorem d_L_count_112 : decode c_L_count 112 = .ok (.getfield 67, 3) := by decide +kernel
theorem d_L_count_115 : decode c_L_count 115 = .ok (.ireturn, 1) := by decide +kernel
theorem d_L_count_116 : decode c_L_count 116 = .ok (.aload_n 0, 1) := by decide +kernel
theorem d_L_count_117 : decode c_L_count 117 = .ok (.getfield 10, 3) := by decide +kernel
theorem d_L_count_120 : decode c_L_count 120 = .ok (.getfield 70, 3) := by decide +kernel
theorem d_L_count_123 : decode c_L_count 123 = .ok (.ireturn, 1) := by decide +kernel
theorem d_L_count_124 : decode c_L_count 124 = .ok (.aload_n 0, 1) := by decide +kernel
theorem d_L_count_125 : decode c_L_count 125 = .ok (.getfield 19, 3) := by decide +kernel
theorem d_L_count_128 : decode c_L_count 128 = .ok (.getfield 86, 3) := by decide +kernel
theorem d_L_count_131 : decode c_L_count 131 = .ok (.getfield 112, 3) := by decide +kernel
theorem d_L_count_134 : decode c_L_count 134 = .ok (.ireturn, 1) := by decide +kernel
theorem d_L_count_135 : decode c_L_count 135 = .ok (.aload_n 0, 1) := by decide +kernel
theorem d_L_count_136 : decode c_L_count 136 = .ok (.getfield 19, 3) := by decide +kernel
theorem d_L_count_139 : decode c_L_count 139 = .ok (.getfield 178, 3) := by decide +kernel
theorem d_L_count_142 : decode c_L_count 142 = .ok (.ifCond .eq 7, 3) := by decide +kernel
theorem d_L_count_145 : decode c_L_count 145 = .ok (.iconst 1, 1) := by decide +kernel
theorem d_L_count_146 : decode c_L_count 146 = .ok (.goto 4, 3) := by decide +kernel
theorem d_L_count_149 : decode c_L_count 149 = .ok (.iconst 0, 1) := by decide +kernel
theorem d_L_count_150 : decode c_L_count 150 = .ok (.ireturn, 1) := by decide +kernel
theorem d_L_count_151 : decode c_L_count 151 = .ok (.aload_n 0, 1) := by decide +kernel
theorem d_L_count_152 : decode c_L_count 152 = .ok (.getfield 154, 3) := by decide +kernel
theorem d_L_count_155 : decode c_L_count 155 = .ok (.ireturn, 1) := by decide +kernel
theorem d_L_count_156 : decode c_L_count 156 = .ok (.aload_n 0, 1) := by decide +kernel
theorem d_L_count_157 : decode c_L_count 157 = .ok (.getfield 181, 3) := by decide +kernel
theorem d_L_count_160 : decode c_L_count 160 = .ok (.ireturn, 1) := by decide +kernel
theorem d_L_count_161 : decode c_L_count 161 = .ok (.aload_n 0, 1) := by decide +kernel
theorem d_L_count_162 : decode c_L_count 162 = .ok (.getfield 119, 3) := by decide +kernel
theorem d_L_count_165 : decode c_L_count 165 = .ok (.ireturn, 1) := by decide +kernel
theorem d_L_count_166 : decode c_L_count 166 = .ok (.aload_n 0, 1) := by decide +kernel
theorem d_L_count_167 : decode c_L_count 167 = .ok (.getfield 19, 3) := by decide +kernel
theorem d_L_count_170 : decode c_L_count 170 = .ok (.getfield 184, 3) := by decide +kernel
theorem d_L_count_173 : decode c_L_count 173 = .ok (.ireturn, 1) := by decide +kernel
theorem d_L_count_174 : decode c_L_count 174 = .ok (.aload_n 0, 1) := by decide +kernel
theorem d_L_count_175 : decode c_L_count 175 = .ok (.getfield 19, 3) := by decide +kernel
theorem d_L_count_178 : decode c_L_count 178 = .ok (.getfield 187, 3) := by decide +kernel
theorem d_L_count_181 : decode c_L_count 181 = .ok (.ireturn, 1) := by decide +kernel
theorem d_L_count_182 : decode c_L_count 182 = .ok (.aload_n 0, 1) := by decide +kernel
theorem d_L_count_183 : decode c_L_count 183 = .ok (.getfield 19, 3) := by decide +kernel
theorem d_L_count_186 : decode c_L_count 186 = .ok (.getfield 190, 3) := by decide +kernel
theorem d_L_count_189 : decode c_L_count 189 = .ok (.iconst 1, 1) := by decide +kernel
theorem d_L_count_190 : decode c_L_count 190 = .ok (.iaload, 1) := by decide +kernel
theorem d_L_count_191 : decode c_L_count 191 = .ok (.ireturn, 1) := by decide +kernel
theorem d_L_count_192 : decode c_L_count 192 = .ok (.aload_n 0, 1) := by decide +kernel
theorem d_L_count_193 : decode c_L_count 193 = .ok (.getfield 19, 3) := by decide +kernel
theorem d_L_count_196 : decode c_L_count 196 = .ok (.getfield 190, 3) := by decide +kernel
theorem d_L_count_199 : decode c_L_count 199 = .ok (.iconst 2, 1) := by decide +kernel
theorem d_L_count_200 : decode c_L_count 200 = .ok (.iaload, 1) := by decide +kernel
theorem d_L_count_201 : decode c_L_count 201 = .ok (.ireturn, 1) := by decide +kernel
theorem d_L_count_202 : decode c_L_count 202 = .ok (.aload_n 0, 1) := by decide +kernel
theorem d_L_count_203 : decode c_L_count 203 = .ok (.getfield 19, 3) := by decide +kernel
theorem d_L_count_206 : decode c_L_count 206 = .ok (.getfield 86, 3) := by decide +kernel
theorem d_L_count_209 : decode c_L_count 209 = .ok (.iload_n 1, 1) := by decide +kernel
theorem d_L_count_210 : decode c_L_count 210 = .ok (.bipush 11, 2) := by decide +kernel
theorem d_L_count_212 : decode c_L_count 212 = .ok (.isub, 1) := by decide +kernel
theorem d_L_count_213 : decode c_L_count 213 = .ok (.invokevirtual 193, 3) := by decide +kernel
theorem d_L_count_216 : decode c_L_count 216 = .ok (.ireturn, 1) := by decide +kernel
theorem d_W_count_0 : decode c_W_count 0 = .ok (.aload_n 2, 1) := by decide +kernel
theorem d_W_count_1 : decode c_W_count 1 = .ok (.iconst 0, 1) := by decide +kernel
theorem d_W_count_2 : decode c_W_count 2 = .ok (.aload_n 0, 1) := by decide +kernel
theorem d_W_count_3 : decode c_W_count 3 = .ok (.iload_n 1, 1) := by decide +kernel
theorem d_W_count_4 : decode c_W_count 4 = .ok (.invokevirtual 65, 3) := by decide +kernel
theorem d_W_count_7 : decode c_W_count 7 = .ok (.i2l, 1) := by decide +kernel
theorem d_W_count_8 : decode c_W_count 8 = .ok (.lastore, 1) := by decide +kernel
theorem d_W_count_9 : decode c_W_count 9 = .ok (.goto 6, 3) := by decide +kernel
theorem d_W_count_12 : decode c_W_count 12 = .ok (.astore_n 3, 1) := by decide +kernel
theorem d_W_count_13 : decode c_W_count 13 = .ok (.iconst 1, 1) := by decide +kernel
theorem d_W_count_14 : decode c_W_count 14 = .ok (.ireturn, 1) := by decide +kernel
theorem d_W_count_15 : decode c_W_count 15 = .ok (.iconst 0, 1) := by decide +kernel
theorem d_W_count_16 : decode c_W_count 16 = .ok (.ireturn, 1) := by decide +kernel
theorem d_R_init_0 : decode c_R_init 0 = .ok (.aload_n 0, 1) := by decide +kernel
theorem d_R_init_1 : decode c_R_init 1 = .ok (.invokespecial 1, 3) := by decide +kernel
theorem d_R_init_4 : decode c_R_init 4 = .ok (.aload_n 0, 1) := by decide +kernel
theorem d_R_init_5 : decode c_R_init 5 = .ok (.sipush 260, 3) := by decide +kernel
theorem d_R_init_8 : decode c_R_init 8 = .ok (.newarray .int, 2) := by decide +kernel
theorem d_R_init_10 : decode c_R_init 10 = .ok (.putfield 7, 3) := by decide +kernel
theorem d_R_init_13 : decode c_R_init 13 = .ok (.aload_n 0, 1) := by decide +kernel
theorem d_R_init_14 : decode c_R_init 14 = .ok (.sipush 260, 3) := by decide +kernel
theorem d_R_init_17 : decode c_R_init 17 = .ok (.newarray .int, 2) := by decide +kernel
theorem d_R_init_19 : decode c_R_init 19 = .ok (.putfield 13, 3) := by decide +kernel
theorem d_R_init_22 : decode c_R_init 22 = .ok (.aload_n 0, 1) := by decide +kernel
theorem d_R_init_23 : decode c_R_init 23 = .ok (.sipush 260, 3) := by decide +kernel
theorem d_R_init_26 : decode c_R_init 26 = .ok (.newarray .int, 2) := by decide +kernel
theorem d_R_init_28 : decode c_R_init 28 = .ok (.putfield 16, 3) := by decide +kernel
theorem d_R_init_31 : decode c_R_init 31 = .ok (.aload_n 0, 1) := by decide +kernel
theorem d_R_init_32 : decode c_R_init 32 = .ok (.sipush 260, 3) := by decide +kernel
theorem d_R_init_35 : decode c_R_init 35 = .ok (.newarray .boolean, 2) := by decide +kernel
theorem d_R_init_37 : decode c_R_init 37 = .ok (.putfield 19, 3) := by decide +kernel
theorem d_R_init_40 : decode c_R_init 40 = .ok (.aload_n 0, 1) := by decide +kernel
theorem d_R_init_41 : decode c_R_init 41 = .ok (.sipush 260, 3) := by decide +kernel
theorem d_R_init_44 : decode c_R_init 44 = .ok (.newarray .int, 2) := by decide +kernel
theorem d_R_init_46 : decode c_R_init 46 = .ok (.putfield 23, 3) := by decide +kernel
theorem d_R_init_49 : decode c_R_init 49 = .ok (.aload_n 0, 1) := by decide +kernel
theorem d_R_init_50 : decode c_R_init 50 = .ok (.sipush 260, 3) := by decide +kernel
theorem d_R_init_53 : decode c_R_init 53 = .ok (.newarray .int, 2) := by decide +kernel
theorem d_R_init_55 : decode c_R_init 55 = .ok (.putfield 26, 3) := by decide +kernel
theorem d_R_init_58 : decode c_R_init 58 = .ok (.aload_n 0, 1) := by decide +kernel
theorem d_R_init_59 : decode c_R_init 59 = .ok (.sipush 260, 3) := by decide +kernel
theorem d_R_init_62 : decode c_R_init 62 = .ok (.newarray .int, 2) := by decide +kernel
theorem d_R_init_64 : decode c_R_init 64 = .ok (.putfield 29, 3) := by decide +kernel
theorem d_R_init_67 : decode c_R_init 67 = .ok (.aload_n 0, 1) := by decide +kernel
theorem d_R_init_68 : decode c_R_init 68 = .ok (.sipush 260, 3) := by decide +kernel
theorem d_R_init_71 : decode c_R_init 71 = .ok (.newarray .long, 2) := by decide +kernel
theorem d_R_init_73 : decode c_R_init 73 = .ok (.putfield 32, 3) := by decide +kernel
theorem d_R_init_76 : decode c_R_init 76 = .ok (.aload_n 0, 1) := by decide +kernel
theorem d_R_init_77 : decode c_R_init 77 = .ok (.bipush 16, 2) := by decide +kernel
theorem d_R_init_79 : decode c_R_init 79 = .ok (.newarray .int, 2) := by decide +kernel
theorem d_R_init_81 : decode c_R_init 81 = .ok (.putfield 36, 3) := by decide +kernel
theorem d_R_init_84 : decode c_R_init 84 = .ok (.aload_n 0, 1) := by decide +kernel
theorem d_R_init_85 : decode c_R_init 85 = .ok (.bipush 16, 2) := by decide +kernel
theorem d_R_init_87 : decode c_R_init 87 = .ok (.newarray .int, 2) := by decide +kernel
theorem d_R_init_89 : decode c_R_init 89 = .ok (.putfield 39, 3) := by decide +kernel
theorem d_R_init_92 : decode c_R_init 92 = .ok (.aload_n 0, 1) := by decide +kernel
theorem d_R_init_93 : decode c_R_init 93 = .ok (.bipush 16, 2) := by decide +kernel
theorem d_R_init_95 : decode c_R_init 95 = .ok (.newarray .int, 2) := by decide +kernel
theorem d_R_init_97 : decode c_R_init 97 = .ok (.putfield 42, 3) := by decide +kernel
theorem d_R_init_100 : decode c_R_init 100 = .ok (.aload_n 0, 1) := by decide +kernel
theorem d_R_init_101 : decode c_R_init 101 = .ok (.bipush 16, 2) := by decide +kernel
theorem d_R_init_103 : decode c_R_init 103 = .ok (.newarray .boolean, 2) := by decide +kernel
theorem d_R_init_105 : decode c_R_init 105 = .ok (.putfield 45, 3) := by decide +kernel
theorem d_R_init_108 : decode c_R_init 108 = .ok (.aload_n 0, 1) := by decide +kernel
theorem d_R_init_109 : decode c_R_init 109 = .ok (.bipush 16, 2) := by decide +kernel
theorem d_R_init_111 : decode c_R_init 111 = .ok (.newarray .int, 2) := by decide +kernel
theorem d_R_init_113 : decode c_R_init 113 = .ok (.putfield 48, 3) := by decide +kernel
theorem d_R_init_116 : decode c_R_init 116 = .ok (.aload_n 0, 1) := by decide +kernel
theorem d_R_init_117 : decode c_R_init 117 = .ok (.iconst 4, 1) := by decide +kernel
theorem d_R_init_118 : decode c_R_init 118 = .ok (.newarray .int, 2) := by decide +kernel
theorem d_R_init_120 : decode c_R_init 120 = .ok (.putfield 51, 3) := by decide +kernel
theorem d_R_init_123 : decode c_R_init 123 = .ok (.aload_n 0, 1) := by decide +kernel
theorem d_R_init_124 : decode c_R_init 124 = .ok (.iconst 4, 1) := by decide +kernel
theorem d_R_init_125 : decode c_R_init 125 = .ok (.newarray .int, 2) := by decide +kernel
theorem d_R_init_127 : decode c_R_init 127 = .ok (.putfield 54, 3) := by decide +kernel
theorem d_R_init_130 : decode c_R_init 130 = .ok (.aload_n 0, 1) := by decide +kernel
theorem d_R_init_131 : decode c_R_init 131 = .ok (.iconst 4, 1) := by decide +kernel
theorem d_R_init_132 : decode c_R_init 132 = .ok (.newarray .boolean, 2) := by decide +kernel
theorem d_R_init_134 : decode c_R_init 134 = .ok (.putfield 57, 3) := by decide +kernel
theorem d_R_init_137 : decode c_R_init 137 = .ok (.aload_n 0, 1) := by decide +kernel
theorem d_R_init_138 : decode c_R_init 138 = .ok (.iconst (-1), 1) := by decide +kernel
theorem d_R_init_139 : decode c_R_init 139 = .ok (.putfield 60, 3) := by decide +kernel
theorem d_R_init_142 : decode c_R_init 142 = .ok (.aload_n 0, 1) := by decide +kernel
theorem d_R_init_143 : decode c_R_init 143 = .ok (.iconst 4, 1) := by decide +kernel
theorem d_R_init_144 : decode c_R_init 144 = .ok (.newarray .int, 2) := by decide +kernel
theorem d_R_init_146 : decode c_R_init 146 = .ok (.dup, 1) := by decide +kernel
theorem d_R_init_147 : decode c_R_init 147 = .ok (.iconst 0, 1) := by decide +kernel
theorem d_R_init_148 : decode c_R_init 148 = .ok (.iconst (-1), 1) := by decide +kernel
theorem d_R_init_149 : decode c_R_init 149 = .ok (.iastore, 1) := by decide +kernel
theorem d_R_init_150 : decode c_R_init 150 = .ok (.dup, 1) := by decide +kernel
theorem d_R_init_151 : decode c_R_init 151 = .ok (.iconst 1, 1) := by decide +kernel
theorem d_R_init_152 : decode c_R_init 152 = .ok (.iconst (-1), 1) := by decide +kernel
theorem d_R_init_153 : decode c_R_init 153 = .ok (.iastore, 1) := by decide +kernel
theorem d_R_init_154 : decode c_R_init 154 = .ok (.dup, 1) := by decide +kernel
theorem d_R_init_155 : decode c_R_init 155 = .ok (.iconst 2, 1) := by decide +kernel
theorem d_R_init_156 : decode c_R_init 156 = .ok (.iconst (-1), 1) := by decide +kernel
theorem d_R_init_157 : decode c_R_init 157 = .ok (.iastore, 1) := by decide +kernel
theorem d_R_init_158 : decode c_R_init 158 = .ok (.dup, 1) := by decide +kernel
theorem d_R_init_159 : decode c_R_init 159 = .ok (.iconst 3, 1) := by decide +kernel
theorem d_R_init_160 : decode c_R_init 160 = .ok (.iconst (-1), 1) := by decide +kernel
theorem d_R_init_161 : decode c_R_init 161 = .ok (.iastore, 1) := by decide +kernel
theorem d_R_init_162 : decode c_R_init 162 = .ok (.putfield 64, 3) := by decide +kernel
theorem d_R_init_165 : decode c_R_init 165 = .ok (.aload_n 0, 1) := by decide +kernel
theorem d_R_init_166 : decode c_R_init 166 = .ok (.iconst 4, 1) := by decide +kernel
theorem d_R_init_167 : decode c_R_init 167 = .ok (.newarray .int, 2) := by decide +kernel
theorem d_R_init_169 : decode c_R_init 169 = .ok (.dup, 1) := by decide +kernel
theorem d_R_init_170 : decode c_R_init 170 = .ok (.iconst 0, 1) := by decide +kernel
theorem d_R_init_171 : decode c_R_init 171 = .ok (.iconst (-1), 1) := by decide +kernel
theorem d_R_init_172 : decode c_R_init 172 = .ok (.iastore, 1) := by decide +kernel
theorem d_R_init_173 : decode c_R_init 173 = .ok (.dup, 1) := by decide +kernel
theorem d_R_init_174 : decode c_R_init 174 = .ok (.iconst 1, 1) := by decide +kernel
theorem d_R_init_175 : decode c_R_init 175 = .ok (.iconst (-1), 1) := by decide +kernel
theorem d_R_init_176 : decode c_R_init 176 = .ok (.iastore, 1) := by decide +kernel
theorem d_R_init_177 : decode c_R_init 177 = .ok (.dup, 1) := by decide +kernel
theorem d_R_init_178 : decode c_R_init 178 = .ok (.iconst 2, 1) := by decide +kernel
theorem d_R_init_179 : decode c_R_init 179 = .ok (.iconst (-1), 1) := by decide +kernel
theorem d_R_init_180 : decode c_R_init 180 = .ok (.iastore, 1) := by decide +kernel
theorem d_R_init_181 : decode c_R_init 181 = .ok (.dup, 1) := by decide +kernel
theorem d_R_init_182 : decode c_R_init 182 = .ok (.iconst 3, 1) := by decide +kernel
theorem d_R_init_183 : decode c_R_init 183 = .ok (.iconst (-1), 1) := by decide +kernel
theorem d_R_init_184 : decode c_R_init 184 = .ok (.iastore, 1) := by decide +kernel
theorem d_R_init_185 : decode c_R_init 185 = .ok (.putfield 67, 3) := by decide +kernel
theorem d_R_init_188 : decode c_R_init 188 = .ok (.aload_n 0, 1) := by decide +kernel
theorem d_R_init_189 : decode c_R_init 189 = .ok (.sipush 260, 3) := by decide +kernel
theorem d_R_init_192 : decode c_R_init 192 = .ok (.newarray .int, 2) := by decide +kernel
theorem d_R_init_194 : decode c_R_init 194 = .ok (.putfield 70, 3) := by decide +kernel
theorem d_R_init_197 : decode c_R_init 197 = .ok (.aload_n 0, 1) := by decide +kernel
theorem d_R_init_198 : decode c_R_init 198 = .ok (.sipush 260, 3) := by decide +kernel
theorem d_R_init_201 : decode c_R_init 201 = .ok (.newarray .int, 2) := by decide +kernel
theorem d_R_init_203 : decode c_R_init 203 = .ok (.putfield 73, 3) := by decide +kernel
theorem d_R_init_206 : decode c_R_init 206 = .ok (.aload_n 0, 1) := by decide +kernel
theorem d_R_init_207 : decode c_R_init 207 = .ok (.sipush 260, 3) := by decide +kernel
theorem d_R_init_210 : decode c_R_init 210 = .ok (.newarray .int, 2) := by decide +kernel
theorem d_R_init_212 : decode c_R_init 212 = .ok (.putfield 76, 3) := by decide +kernel
theorem d_R_init_215 : decode c_R_init 215 = .ok (.aload_n 0, 1) := by decide +kernel
theorem d_R_init_216 : decode c_R_init 216 = .ok (.sipush 260, 3) := by decide +kernel
theorem d_R_init_219 : decode c_R_init 219 = .ok (.newarray .boolean, 2) := by decide +kernel
theorem d_R_init_221 : decode c_R_init 221 = .ok (.putfield 79, 3) := by decide +kernel
theorem d_R_init_224 : decode c_R_init 224 = .ok (.aload_n 0, 1) := by decide +kernel
theorem d_R_init_225 : decode c_R_init 225 = .ok (.sipush 260, 3) := by decide +kernel
theorem d_R_init_228 : decode c_R_init 228 = .ok (.newarray .boolean, 2) := by decide +kernel
theorem d_R_init_230 : decode c_R_init 230 = .ok (.putfield 82, 3) := by decide +kernel
theorem d_R_init_233 : decode c_R_init 233 = .ok (.return_, 1) := by decide +kernel
theorem d_R_thrown_0 : decode c_R_thrown 0 = .ok (.aload_n 0, 1) := by decide +kernel
theorem d_R_thrown_1 : decode c_R_thrown 1 = .ok (.getfield 85, 3) := by decide +kernel
theorem d_R_thrown_4 : decode c_R_thrown 4 = .ok (.ireturn, 1) := by decide +kernel
theorem d_R_in_0 : decode c_R_in 0 = .ok (.iload_n 0, 1) := by decide +kernel
theorem d_R_in_1 : decode c_R_in 1 = .ok (.iload_n 1, 1) := by decide +kernel
theorem d_R_in_2 : decode c_R_in 2 = .ok (.if_icmp .lt 12, 3) := by decide +kernel
theorem d_R_in_5 : decode c_R_in 5 = .ok (.iload_n 0, 1) := by decide +kernel
theorem d_R_in_6 : decode c_R_in 6 = .ok (.iload_n 2, 1) := by decide +kernel
theorem d_R_in_7 : decode c_R_in 7 = .ok (.if_icmp .gt 7, 3) := by decide +kernel
theorem d_R_in_10 : decode c_R_in 10 = .ok (.iconst 1, 1) := by decide +kernel
theorem d_R_in_11 : decode c_R_in 11 = .ok (.goto 4, 3) := by decide +kernel
theorem d_R_in_14 : decode c_R_in 14 = .ok (.iconst 0, 1) := by decide +kernel
theorem d_R_in_15 : decode c_R_in 15 = .ok (.ireturn, 1) := by decide +kernel
theorem d_R_raise_0 : decode c_R_raise 0 = .ok (.aload_n 0, 1) := by decide +kernel
theorem d_R_raise_1 : decode c_R_raise 1 = .ok (.iload_n 1, 1) := by decide +kernel
theorem d_R_raise_2 : decode c_R_raise 2 = .ok (.putfield 85, 3) := by decide +kernel
theorem d_R_raise_5 : decode c_R_raise 5 = .ok (.iconst 0, 1) := by decide +kernel
theorem d_R_raise_6 : decode c_R_raise 6 = .ok (.ireturn, 1) := by decide +kernel
theorem d_R_onLevel_0 : decode c_R_onLevel 0 = .ok (.iconst 0, 1) := by decide +kernel
theorem d_R_onLevel_1 : decode c_R_onLevel 1 = .ok (.istore_n 2, 1) := by decide +kernel
theorem d_R_onLevel_2 : decode c_R_onLevel 2 = .ok (.iconst 0, 1) := by decide +kernel
theorem d_R_onLevel_3 : decode c_R_onLevel 3 = .ok (.istore_n 3, 1) := by decide +kernel
theorem d_R_onLevel_4 : decode c_R_onLevel 4 = .ok (.iload_n 3, 1) := by decide +kernel
theorem d_R_onLevel_5 : decode c_R_onLevel 5 = .ok (.aload_n 0, 1) := by decide +kernel
theorem d_R_onLevel_6 : decode c_R_onLevel 6 = .ok (.getfield 92, 3) := by decide +kernel
theorem d_R_onLevel_9 : decode c_R_onLevel 9 = .ok (.if_icmp .ge 22, 3) := by decide +kernel
theorem d_R_onLevel_12 : decode c_R_onLevel 12 = .ok (.aload_n 0, 1) := by decide +kernel
theorem d_R_onLevel_13 : decode c_R_onLevel 13 = .ok (.getfield 26, 3) := by decide +kernel
theorem d_R_onLevel_16 : decode c_R_onLevel 16 = .ok (.iload_n 3, 1) := by decide +kernel
theorem d_R_onLevel_17 : decode c_R_onLevel 17 = .ok (.iaload, 1) := by decide +kernel
theorem d_R_onLevel_18 : decode c_R_onLevel 18 = .ok (.iload_n 1, 1) := by decide +kernel
theorem d_R_onLevel_19 : decode c_R_onLevel 19 = .ok (.if_icmp .ne 6, 3) := by decide +kernel
theorem d_R_onLevel_22 : decode c_R_onLevel 22 = .ok (.iinc 2 1, 3) := by decide +kernel
theorem d_R_onLevel_25 : decode c_R_onLevel 25 = .ok (.iinc 3 1, 3) := by decide +kernel
theorem d_R_onLevel_28 : decode c_R_onLevel 28 = .ok (.goto (-24), 3) := by decide +kernel
theorem d_R_onLevel_31 : decode c_R_onLevel 31 = .ok (.iload_n 2, 1) := by decide +kernel
theorem d_R_onLevel_32 : decode c_R_onLevel 32 = .ok (.ireturn, 1) := by decide +kernel
theorem d_R_full_0 : decode c_R_full 0 = .ok (.aload_n 0, 1) := by decide +kernel
theorem d_R_full_1 : decode c_R_full 1 = .ok (.getfield 95, 3) := by decide +kernel
theorem d_R_full_4 : decode c_R_full 4 = .ok (.aload_n 0, 1) := by decide +kernel
theorem d_R_full_5 : decode c_R_full 5 = .ok (.getfield 166, 3) := by decide +kernel
theorem d_R_full_8 : decode c_R_full 8 = .ok (.iadd, 1) := by decide +kernel
theorem d_R_full_9 : decode c_R_full 9 = .ok (.iload_n 1, 1) := by decide +kernel
theorem d_R_full_10 : decode c_R_full 10 = .ok (.iadd, 1) := by decide +kernel
theorem d_R_full_11 : decode c_R_full 11 = .ok (.sipush 240, 3) := by decide +kernel
theorem d_R_full_14 : decode c_R_full 14 = .ok (.if_icmp .gt 20, 3) := by decide +kernel
theorem d_R_full_17 : decode c_R_full 17 = .ok (.aload_n 0, 1) := by decide +kernel
theorem d_R_full_18 : decode c_R_full 18 = .ok (.getfield 134, 3) := by decide +kernel
theorem d_R_full_21 : decode c_R_full 21 = .ok (.ifCond .eq 17, 3) := by decide +kernel
theorem d_R_full_24 : decode c_R_full 24 = .ok (.aload_n 0, 1) := by decide +kernel
theorem d_R_full_25 : decode c_R_full 25 = .ok (.iconst 0, 1) := by decide +kernel
theorem d_R_full_26 : decode c_R_full 26 = .ok (.invokevirtual 156, 3) := by decide +kernel
theorem d_R_full_29 : decode c_R_full 29 = .ok (.bipush 8, 2) := by decide +kernel
theorem d_R_full_31 : decode c_R_full 31 = .ok (.if_icmp .ne 7, 3) := by decide +kernel
theorem d_R_full_34 : decode c_R_full 34 = .ok (.iconst 1, 1) := by decide +kernel
theorem d_R_full_35 : decode c_R_full 35 = .ok (.goto 4, 3) := by decide +kernel
theorem d_R_full_38 : decode c_R_full 38 = .ok (.iconst 0, 1) := by decide +kernel
theorem d_R_full_39 : decode c_R_full 39 = .ok (.ireturn, 1) := by decide +kernel
theorem d_R_remember_0 : decode c_R_remember 0 = .ok (.aload_n 0, 1) := by decide +kernel
theorem d_R_remember_1 : decode c_R_remember 1 = .ok (.dup, 1) := by decide +kernel
theorem d_R_remember_2 : decode c_R_remember 2 = .ok (.getfield 114, 3) := by decide +kernel
theorem d_R_remember_5 : decode c_R_remember 5 = .ok (.iconst 1, 1) := by decide +kernel
theorem d_R_remember_6 : decode c_R_remember 6 = .ok (.iadd, 1) := by decide +kernel
theorem d_R_remember_7 : decode c_R_remember 7 = .ok (.putfield 114, 3) := by decide +kernel
theorem d_R_remember_10 : decode c_R_remember 10 = .ok (.aload_n 0, 1) := by decide +kernel
theorem d_R_remember_11 : decode c_R_remember 11 = .ok (.getfield 36, 3) := by decide +kernel
theorem d_R_remember_14 : decode c_R_remember 14 = .ok (.aload_n 0, 1) := by decide +kernel
theorem d_R_remember_15 : decode c_R_remember 15 = .ok (.getfield 166, 3) := by decide +kernel
theorem d_R_remember_18 : decode c_R_remember 18 = .ok (.iload_n 1, 1) := by decide +kernel
theorem d_R_remember_19 : decode c_R_remember 19 = .ok (.iastore, 1) := by decide +kernel
theorem d_R_remember_20 : decode c_R_remember 20 = .ok (.aload_n 0, 1) := by decide +kernel
theorem d_R_remember_21 : decode c_R_remember 21 = .ok (.getfield 39, 3) := by decide +kernel
theorem d_R_remember_24 : decode c_R_remember 24 = .ok (.aload_n 0, 1) := by decide +kernel
theorem d_R_remember_25 : decode c_R_remember 25 = .ok (.getfield 166, 3) := by decide +kernel
theorem d_R_remember_28 : decode c_R_remember 28 = .ok (.aload_n 0, 1) := by decide +kernel
theorem d_R_remember_29 : decode c_R_remember 29 = .ok (.getfield 114, 3) := by decide +kernel
theorem d_R_remember_32 : decode c_R_remember 32 = .ok (.iastore, 1) := by decide +kernel
theorem d_R_remember_33 : decode c_R_remember 33 = .ok (.aload_n 0, 1) := by decide +kernel
theorem d_R_remember_34 : decode c_R_remember 34 = .ok (.getfield 42, 3) := by decide +kernel
theorem d_R_remember_37 : decode c_R_remember 37 = .ok (.aload_n 0, 1) := by decide +kernel
theorem d_R_remember_38 : decode c_R_remember 38 = .ok (.getfield 166, 3) := by decide +kernel
theorem d_R_remember_41 : decode c_R_remember 41 = .ok (.iload_n 2, 1) := by decide +kernel
theorem d_R_remember_42 : decode c_R_remember 42 = .ok (.iastore, 1) := by decide +kernel
theorem d_R_remember_43 : decode c_R_remember 43 = .ok (.aload_n 0, 1) := by decide +kernel
theorem d_R_remember_44 : decode c_R_remember 44 = .ok (.getfield 45, 3) := by decide +kernel
theorem d_R_remember_47 : decode c_R_remember 47 = .ok (.aload_n 0, 1) := by decide +kernel
theorem d_R_remember_48 : decode c_R_remember 48 = .ok (.getfield 166, 3) := by decide +kernel
theorem d_R_remember_51 : decode c_R_remember 51 = .ok (.iload_n 3, 1) := by decide +kernel
theorem d_R_remember_52 : decode c_R_remember 52 = .ok (.bastore, 1) := by decide +kernel
theorem d_R_remember_53 : decode c_R_remember 53 = .ok (.aload_n 0, 1) := by decide +kernel
theorem d_R_remember_54 : decode c_R_remember 54 = .ok (.dup, 1) := by decide +kernel
theorem d_R_remember_55 : decode c_R_remember 55 = .ok (.getfield 166, 3) := by decide +kernel
theorem d_R_remember_58 : decode c_R_remember 58 = .ok (.iconst 1, 1) := by decide +kernel
theorem d_R_remember_59 : decode c_R_remember 59 = .ok (.iadd, 1) := by decide +kernel
theorem d_R_remember_60 : decode c_R_remember 60 = .ok (.putfield 166, 3) := by decide +kernel
theorem d_R_remember_63 : decode c_R_remember 63 = .ok (.return_, 1) := by decide +kernel
theorem d_R_copyWork_0 : decode c_R_copyWork 0 = .ok (.aload_n 0, 1) := by decide +kernel
theorem d_R_copyWork_1 : decode c_R_copyWork 1 = .ok (.getfield 70, 3) := by decide +kernel
theorem d_R_copyWork_4 : decode c_R_copyWork 4 = .ok (.iload_n 1, 1) := by decide +kernel
theorem d_R_copyWork_5 : decode c_R_copyWork 5 = .ok (.aload_n 0, 1) := by decide +kernel
theorem d_R_copyWork_6 : decode c_R_copyWork 6 = .ok (.getfield 70, 3) := by decide +kernel
theorem d_R_copyWork_9 : decode c_R_copyWork 9 = .ok (.iload_n 2, 1) := by decide +kernel
theorem d_R_copyWork_10 : decode c_R_copyWork 10 = .ok (.iaload, 1) := by decide +kernel
theorem d_R_copyWork_11 : decode c_R_copyWork 11 = .ok (.iastore, 1) := by decide +kernel
theorem d_R_copyWork_12 : decode c_R_copyWork 12 = .ok (.aload_n 0, 1) := by decide +kernel
theorem d_R_copyWork_13 : decode c_R_copyWork 13 = .ok (.getfield 73, 3) := by decide +kernel
theorem d_R_copyWork_16 : decode c_R_copyWork 16 = .ok (.iload_n 1, 1) := by decide +kernel
theorem d_R_copyWork_17 : decode c_R_copyWork 17 = .ok (.aload_n 0, 1) := by decide +kernel
theorem d_R_copyWork_18 : decode c_R_copyWork 18 = .ok (.getfield 73, 3) := by decide +kernel
theorem d_R_copyWork_21 : decode c_R_copyWork 21 = .ok (.iload_n 2, 1) := by decide +kernel
theorem d_R_copyWork_22 : decode c_R_copyWork 22 = .ok (.iaload, 1) := by decide +kernel
theorem d_R_copyWork_23 : decode c_R_copyWork 23 = .ok (.iastore, 1) := by decide +kernel
theorem d_R_copyWork_24 : decode c_R_copyWork 24 = .ok (.aload_n 0, 1) := by decide +kernel
theorem d_R_copyWork_25 : decode c_R_copyWork 25 = .ok (.getfield 76, 3) := by decide +kernel
theorem d_R_copyWork_28 : decode c_R_copyWork 28 = .ok (.iload_n 1, 1) := by decide +kernel
theorem d_R_copyWork_29 : decode c_R_copyWork 29 = .ok (.aload_n 0, 1) := by decide +kernel
theorem d_R_copyWork_30 : decode c_R_copyWork 30 = .ok (.getfield 76, 3) := by decide +kernel
theorem d_R_copyWork_33 : decode c_R_copyWork 33 = .ok (.iload_n 2, 1) := by decide +kernel
theorem d_R_copyWork_34 : decode c_R_copyWork 34 = .ok (.iaload, 1) := by decide +kernel
theorem d_R_copyWork_35 : decode c_R_copyWork 35 = .ok (.iastore, 1) := by decide +kernel
theorem d_R_copyWork_36 : decode c_R_copyWork 36 = .ok (.aload_n 0, 1) := by decide +kernel
theorem d_R_copyWork_37 : decode c_R_copyWork 37 = .ok (.getfield 79, 3) := by decide +kernel
theorem d_R_copyWork_40 : decode c_R_copyWork 40 = .ok (.iload_n 1, 1) := by decide +kernel
theorem d_R_copyWork_41 : decode c_R_copyWork 41 = .ok (.aload_n 0, 1) := by decide +kernel
theorem d_R_copyWork_42 : decode c_R_copyWork 42 = .ok (.getfield 79, 3) := by decide +kernel
theorem d_R_copyWork_45 : decode c_R_copyWork 45 = .ok (.iload_n 2, 1) := by decide +kernel
theorem d_R_copyWork_46 : decode c_R_copyWork 46 = .ok (.baload, 1) := by decide +kernel
theorem d_R_copyWork_47 : decode c_R_copyWork 47 = .ok (.bastore, 1) := by decide +kernel
theorem d_R_copyWork_48 : decode c_R_copyWork 48 = .ok (.return_, 1) := by decide +kernel
theorem d_R_enter_0 : decode c_R_enter 0 = .ok (.aload_n 0, 1) := by decide +kernel
theorem d_R_enter_1 : decode c_R_enter 1 = .ok (.getfield 108, 3) := by decide +kernel
theorem d_R_enter_4 : decode c_R_enter 4 = .ok (.istore 5, 2) := by decide +kernel
theorem d_R_enter_6 : decode c_R_enter 6 = .ok (.iload 5, 2) := by decide +kernel
theorem d_R_enter_8 : decode c_R_enter 8 = .ok (.ifCond .le 58, 3) := by decide +kernel
theorem d_R_enter_11 : decode c_R_enter 11 = .ok (.aload_n 0, 1) := by decide +kernel
theorem d_R_enter_12 : decode c_R_enter 12 = .ok (.getfield 70, 3) := by decide +kernel
theorem d_R_enter_15 : decode c_R_enter 15 = .ok (.iload 5, 2) := by decide +kernel
theorem d_R_enter_17 : decode c_R_enter 17 = .ok (.iconst 1, 1) := by decide +kernel
theorem d_R_enter_18 : decode c_R_enter 18 = .ok (.isub, 1) := by decide +kernel
theorem d_R_enter_19 : decode c_R_enter 19 = .ok (.iaload, 1) := by decide +kernel
theorem d_R_enter_20 : decode c_R_enter 20 = .ok (.iload_n 1, 1) := by decide +kernel
theorem d_R_enter_21 : decode c_R_enter 21 = .ok (.if_icmp .gt 29, 3) := by decide +kernel
theorem d_R_enter_24 : decode c_R_enter 24 = .ok (.aload_n 0, 1) := by decide +kernel
theorem d_R_enter_25 : decode c_R_enter 25 = .ok (.getfield 70, 3) := by decide +kernel
theorem d_R_enter_28 : decode c_R_enter 28 = .ok (.iload 5, 2) := by decide +kernel
theorem d_R_enter_30 : decode c_R_enter 30 = .ok (.iconst 1, 1) := by decide +kernel
theorem d_R_enter_31 : decode c_R_enter 31 = .ok (.isub, 1) := by decide +kernel
theorem d_R_enter_32 : decode c_R_enter 32 = .ok (.iaload, 1) := by decide +kernel
theorem d_R_enter_33 : decode c_R_enter 33 = .ok (.iload_n 1, 1) := by decide +kernel
theorem d_R_enter_34 : decode c_R_enter 34 = .ok (.if_icmp .ne 32, 3) := by decide +kernel
theorem d_R_enter_37 : decode c_R_enter 37 = .ok (.aload_n 0, 1) := by decide +kernel
theorem d_R_enter_38 : decode c_R_enter 38 = .ok (.getfield 73, 3) := by decide +kernel
theorem d_R_enter_41 : decode c_R_enter 41 = .ok (.iload 5, 2) := by decide +kernel
theorem d_R_enter_43 : decode c_R_enter 43 = .ok (.iconst 1, 1) := by decide +kernel
theorem d_R_enter_44 : decode c_R_enter 44 = .ok (.isub, 1) := by decide +kernel
theorem d_R_enter_45 : decode c_R_enter 45 = .ok (.iaload, 1) := by decide +kernel
theorem d_R_enter_46 : decode c_R_enter 46 = .ok (.iload_n 2, 1) := by decide +kernel
theorem d_R_enter_47 : decode c_R_enter 47 = .ok (.if_icmp .ge 19, 3) := by decide +kernel
theorem d_R_enter_50 : decode c_R_enter 50 = .ok (.aload_n 0, 1) := by decide +kernel
theorem d_R_enter_51 : decode c_R_enter 51 = .ok (.iload 5, 2) := by decide +kernel
theorem d_R_enter_53 : decode c_R_enter 53 = .ok (.iload 5, 2) := by decide +kernel
theorem d_R_enter_55 : decode c_R_enter 55 = .ok (.iconst 1, 1) := by decide +kernel
theorem d_R_enter_56 : decode c_R_enter 56 = .ok (.isub, 1) := by decide +kernel
theorem d_R_enter_57 : decode c_R_enter 57 = .ok (.invokevirtual 111, 3) := by decide +kernel
theorem d_R_enter_60 : decode c_R_enter 60 = .ok (.iinc 5 (-1), 3) := by decide +kernel
theorem d_R_enter_63 : decode c_R_enter 63 = .ok (.goto (-57), 3) := by decide +kernel
theorem d_R_enter_66 : decode c_R_enter 66 = .ok (.aload_n 0, 1) := by decide +kernel
theorem d_R_enter_67 : decode c_R_enter 67 = .ok (.getfield 70, 3) := by decide +kernel
theorem d_R_enter_70 : decode c_R_enter 70 = .ok (.iload 5, 2) := by decide +kernel
theorem d_R_enter_72 : decode c_R_enter 72 = .ok (.iload_n 1, 1) := by decide +kernel
theorem d_R_enter_73 : decode c_R_enter 73 = .ok (.iastore, 1) := by decide +kernel
theorem d_R_enter_74 : decode c_R_enter 74 = .ok (.aload_n 0, 1) := by decide +kernel
theorem d_R_enter_75 : decode c_R_enter 75 = .ok (.getfield 73, 3) := by decide +kernel
theorem d_R_enter_78 : decode c_R_enter 78 = .ok (.iload 5, 2) := by decide +kernel
theorem d_R_enter_80 : decode c_R_enter 80 = .ok (.iload_n 2, 1) := by decide +kernel
theorem d_R_enter_81 : decode c_R_enter 81 = .ok (.iastore, 1) := by decide +kernel
theorem d_R_enter_82 : decode c_R_enter 82 = .ok (.aload_n 0, 1) := by decide +kernel
theorem d_R_enter_83 : decode c_R_enter 83 = .ok (.getfield 76, 3) := by decide +kernel
theorem d_R_enter_86 : decode c_R_enter 86 = .ok (.iload 5, 2) := by decide +kernel
theorem d_R_enter_88 : decode c_R_enter 88 = .ok (.iload_n 3, 1) := by decide +kernel
theorem d_R_enter_89 : decode c_R_enter 89 = .ok (.iastore, 1) := by decide +kernel
theorem d_R_enter_90 : decode c_R_enter 90 = .ok (.aload_n 0, 1) := by decide +kernel
theorem d_R_enter_91 : decode c_R_enter 91 = .ok (.getfield 79, 3) := by decide +kernel
theorem d_R_enter_94 : decode c_R_enter 94 = .ok (.iload 5, 2) := by decide +kernel
theorem d_R_enter_96 : decode c_R_enter 96 = .ok (.iload 4, 2) := by decide +kernel
theorem d_R_enter_98 : decode c_R_enter 98 = .ok (.bastore, 1) := by decide +kernel
theorem d_R_enter_99 : decode c_R_enter 99 = .ok (.aload_n 0, 1) := by decide +kernel
theorem d_R_enter_100 : decode c_R_enter 100 = .ok (.dup, 1) := by decide +kernel
theorem d_R_enter_101 : decode c_R_enter 101 = .ok (.getfield 108, 3) := by decide +kernel
theorem d_R_enter_104 : decode c_R_enter 104 = .ok (.iconst 1, 1) := by decide +kernel
theorem d_R_enter_105 : decode c_R_enter 105 = .ok (.iadd, 1) := by decide +kernel
theorem d_R_enter_106 : decode c_R_enter 106 = .ok (.putfield 108, 3) := by decide +kernel
theorem d_R_enter_109 : decode c_R_enter 109 = .ok (.return_, 1) := by decide +kernel
theorem d_R_start_0 : decode c_R_start 0 = .ok (.iconst 0, 1) := by decide +kernel
theorem d_R_start_1 : decode c_R_start 1 = .ok (.istore_n 2, 1) := by decide +kernel
theorem d_R_start_2 : decode c_R_start 2 = .ok (.iconst 0, 1) := by decide +kernel
theorem d_R_start_3 : decode c_R_start 3 = .ok (.istore_n 3, 1) := by decide +kernel
theorem d_R_start_4 : decode c_R_start 4 = .ok (.iload_n 3, 1) := by decide +kernel
theorem d_R_start_5 : decode c_R_start 5 = .ok (.iload_n 1, 1) := by decide +kernel
theorem d_R_start_6 : decode c_R_start 6 = .ok (.if_icmp .ge 18, 3) := by decide +kernel
theorem d_R_start_9 : decode c_R_start 9 = .ok (.iload_n 2, 1) := by decide +kernel
theorem d_R_start_10 : decode c_R_start 10 = .ok (.aload_n 0, 1) := by decide +kernel
theorem d_R_start_11 : decode c_R_start 11 = .ok (.getfield 29, 3) := by decide +kernel
theorem d_R_start_14 : decode c_R_start 14 = .ok (.iload_n 3, 1) := by decide +kernel
theorem d_R_start_15 : decode c_R_start 15 = .ok (.iaload, 1) := by decide +kernel
theorem d_R_start_16 : decode c_R_start 16 = .ok (.iadd, 1) := by decide +kernel
theorem d_R_start_17 : decode c_R_start 17 = .ok (.istore_n 2, 1) := by decide +kernel
theorem d_R_start_18 : decode c_R_start 18 = .ok (.iinc 3 1, 3) := by decide +kernel
theorem d_R_start_21 : decode c_R_start 21 = .ok (.goto (-17), 3) := by decide +kernel
theorem d_R_start_24 : decode c_R_start 24 = .ok (.iload_n 2, 1) := by decide +kernel
theorem d_R_start_25 : decode c_R_start 25 = .ok (.ireturn, 1) := by decide +kernel
theorem d_R_moveEntry_0 : decode c_R_moveEntry 0 = .ok (.aload_n 0, 1) := by decide +kernel
theorem d_R_moveEntry_1 : decode c_R_moveEntry 1 = .ok (.getfield 7, 3) := by decide +kernel
theorem d_R_moveEntry_4 : decode c_R_moveEntry 4 = .ok (.iload_n 1, 1) := by decide +kernel
theorem d_R_moveEntry_5 : decode c_R_moveEntry 5 = .ok (.aload_n 0, 1) := by decide +kernel
theorem d_R_moveEntry_6 : decode c_R_moveEntry 6 = .ok (.getfield 7, 3) := by decide +kernel
theorem d_R_moveEntry_9 : decode c_R_moveEntry 9 = .ok (.iload_n 2, 1) := by decide +kernel
theorem d_R_moveEntry_10 : decode c_R_moveEntry 10 = .ok (.iaload, 1) := by decide +kernel
theorem d_R_moveEntry_11 : decode c_R_moveEntry 11 = .ok (.iastore, 1) := by decide +kernel
theorem d_R_moveEntry_12 : decode c_R_moveEntry 12 = .ok (.aload_n 0, 1) := by decide +kernel
theorem d_R_moveEntry_13 : decode c_R_moveEntry 13 = .ok (.getfield 13, 3) := by decide +kernel
theorem d_R_moveEntry_16 : decode c_R_moveEntry 16 = .ok (.iload_n 1, 1) := by decide +kernel
theorem d_R_moveEntry_17 : decode c_R_moveEntry 17 = .ok (.aload_n 0, 1) := by decide +kernel
theorem d_R_moveEntry_18 : decode c_R_moveEntry 18 = .ok (.getfield 13, 3) := by decide +kernel
theorem d_R_moveEntry_21 : decode c_R_moveEntry 21 = .ok (.iload_n 2, 1) := by decide +kernel
theorem d_R_moveEntry_22 : decode c_R_moveEntry 22 = .ok (.iaload, 1) := by decide +kernel
theorem d_R_moveEntry_23 : decode c_R_moveEntry 23 = .ok (.iastore, 1) := by decide +kernel
theorem d_R_moveEntry_24 : decode c_R_moveEntry 24 = .ok (.aload_n 0, 1) := by decide +kernel
theorem d_R_moveEntry_25 : decode c_R_moveEntry 25 = .ok (.getfield 16, 3) := by decide +kernel
theorem d_R_moveEntry_28 : decode c_R_moveEntry 28 = .ok (.iload_n 1, 1) := by decide +kernel
theorem d_R_moveEntry_29 : decode c_R_moveEntry 29 = .ok (.aload_n 0, 1) := by decide +kernel
theorem d_R_moveEntry_30 : decode c_R_moveEntry 30 = .ok (.getfield 16, 3) := by decide +kernel
theorem d_R_moveEntry_33 : decode c_R_moveEntry 33 = .ok (.iload_n 2, 1) := by decide +kernel
theorem d_R_moveEntry_34 : decode c_R_moveEntry 34 = .ok (.iaload, 1) := by decide +kernel
theorem d_R_moveEntry_35 : decode c_R_moveEntry 35 = .ok (.iastore, 1) := by decide +kernel
theorem d_R_moveEntry_36 : decode c_R_moveEntry 36 = .ok (.aload_n 0, 1) := by decide +kernel
theorem d_R_moveEntry_37 : decode c_R_moveEntry 37 = .ok (.getfield 19, 3) := by decide +kernel
theorem d_R_moveEntry_40 : decode c_R_moveEntry 40 = .ok (.iload_n 1, 1) := by decide +kernel
theorem d_R_moveEntry_41 : decode c_R_moveEntry 41 = .ok (.aload_n 0, 1) := by decide +kernel
theorem d_R_moveEntry_42 : decode c_R_moveEntry 42 = .ok (.getfield 19, 3) := by decide +kernel
theorem d_R_moveEntry_45 : decode c_R_moveEntry 45 = .ok (.iload_n 2, 1) := by decide +kernel
theorem d_R_moveEntry_46 : decode c_R_moveEntry 46 = .ok (.baload, 1) := by decide +kernel
theorem d_R_moveEntry_47 : decode c_R_moveEntry 47 = .ok (.bastore, 1) := by decide +kernel
theorem d_R_moveEntry_48 : decode c_R_moveEntry 48 = .ok (.return_, 1) := by decide +kernel
theorem d_R_moveTable_0 : decode c_R_moveTable 0 = .ok (.aload_n 0, 1) := by decide +kernel
theorem d_R_moveTable_1 : decode c_R_moveTable 1 = .ok (.getfield 23, 3) := by decide +kernel
theorem d_R_moveTable_4 : decode c_R_moveTable 4 = .ok (.iload_n 1, 1) := by decide +kernel
theorem d_R_moveTable_5 : decode c_R_moveTable 5 = .ok (.aload_n 0, 1) := by decide +kernel
theorem d_R_moveTable_6 : decode c_R_moveTable 6 = .ok (.getfield 23, 3) := by decide +kernel
theorem d_R_moveTable_9 : decode c_R_moveTable 9 = .ok (.iload_n 2, 1) := by decide +kernel
theorem d_R_moveTable_10 : decode c_R_moveTable 10 = .ok (.iaload, 1) := by decide +kernel
theorem d_R_moveTable_11 : decode c_R_moveTable 11 = .ok (.iastore, 1) := by decide +kernel
theorem d_R_moveTable_12 : decode c_R_moveTable 12 = .ok (.aload_n 0, 1) := by decide +kernel
theorem d_R_moveTable_13 : decode c_R_moveTable 13 = .ok (.getfield 26, 3) := by decide +kernel
theorem d_R_moveTable_16 : decode c_R_moveTable 16 = .ok (.iload_n 1, 1) := by decide +kernel
theorem d_R_moveTable_17 : decode c_R_moveTable 17 = .ok (.aload_n 0, 1) := by decide +kernel
theorem d_R_moveTable_18 : decode c_R_moveTable 18 = .ok (.getfield 26, 3) := by decide +kernel
theorem d_R_moveTable_21 : decode c_R_moveTable 21 = .ok (.iload_n 2, 1) := by decide +kernel
theorem d_R_moveTable_22 : decode c_R_moveTable 22 = .ok (.iaload, 1) := by decide +kernel
theorem d_R_moveTable_23 : decode c_R_moveTable 23 = .ok (.iastore, 1) := by decide +kernel
theorem d_R_moveTable_24 : decode c_R_moveTable 24 = .ok (.aload_n 0, 1) := by decide +kernel
theorem d_R_moveTable_25 : decode c_R_moveTable 25 = .ok (.getfield 29, 3) := by decide +kernel
theorem d_R_moveTable_28 : decode c_R_moveTable 28 = .ok (.iload_n 1, 1) := by decide +kernel
theorem d_R_moveTable_29 : decode c_R_moveTable 29 = .ok (.aload_n 0, 1) := by decide +kernel
theorem d_R_moveTable_30 : decode c_R_moveTable 30 = .ok (.getfield 29, 3) := by decide +kernel
theorem d_R_moveTable_33 : decode c_R_moveTable 33 = .ok (.iload_n 2, 1) := by decide +kernel
theorem d_R_moveTable_34 : decode c_R_moveTable 34 = .ok (.iaload, 1) := by decide +kernel
theorem d_R_moveTable_35 : decode c_R_moveTable 35 = .ok (.iastore, 1) := by decide +kernel
theorem d_R_moveTable_36 : decode c_R_moveTable 36 = .ok (.aload_n 0, 1) := by decide +kernel
theorem d_R_moveTable_37 : decode c_R_moveTable 37 = .ok (.getfield 32, 3) := by decide +kernel
theorem d_R_moveTable_40 : decode c_R_moveTable 40 = .ok (.iload_n 1, 1) := by decide +kernel
theorem d_R_moveTable_41 : decode c_R_moveTable 41 = .ok (.aload_n 0, 1) := by decide +kernel
theorem d_R_moveTable_42 : decode c_R_moveTable 42 = .ok (.getfield 32, 3) := by decide +kernel
theorem d_R_moveTable_45 : decode c_R_moveTable 45 = .ok (.iload_n 2, 1) := by decide +kernel
theorem d_R_moveTable_46 : decode c_R_moveTable 46 = .ok (.laload, 1) := by decide +kernel
theorem d_R_moveTable_47 : decode c_R_moveTable 47 = .ok (.lastore, 1) := by decide +kernel
theorem d_R_moveTable_48 : decode c_R_moveTable 48 = .ok (.return_, 1) := by decide +kernel
theorem d_R_insert_0 : decode c_R_insert 0 = .ok (.aload_n 0, 1) := by decide +kernel
theorem d_R_insert_1 : decode c_R_insert 1 = .ok (.iload_n 1, 1) := by decide +kernel
theorem d_R_insert_2 : decode c_R_insert 2 = .ok (.invokevirtual 88, 3) := by decide +kernel
theorem d_R_insert_5 : decode c_R_insert 5 = .ok (.istore 5, 2) := by decide +kernel
theorem d_R_insert_7 : decode c_R_insert 7 = .ok (.aload_n 0, 1) := by decide +kernel
theorem d_R_insert_8 : decode c_R_insert 8 = .ok (.getfield 95, 3) := by decide +kernel
theorem d_R_insert_11 : decode c_R_insert 11 = .ok (.iconst 1, 1) := by decide +kernel
theorem d_R_insert_12 : decode c_R_insert 12 = .ok (.isub, 1) := by decide +kernel
theorem d_R_insert_13 : decode c_R_insert 13 = .ok (.istore 6, 2) := by decide +kernel
theorem d_R_insert_15 : decode c_R_insert 15 = .ok (.iload 6, 2) := by decide +kernel
theorem d_R_insert_17 : decode c_R_insert 17 = .ok (.iload 5, 2) := by decide +kernel
theorem d_R_insert_19 : decode c_R_insert 19 = .ok (.if_icmp .lt 20, 3) := by decide +kernel
theorem d_R_insert_22 : decode c_R_insert 22 = .ok (.aload_n 0, 1) := by decide +kernel
theorem d_R_insert_23 : decode c_R_insert 23 = .ok (.iload 6, 2) := by decide +kernel
theorem d_R_insert_25 : decode c_R_insert 25 = .ok (.iload 4, 2) := by decide +kernel
theorem d_R_insert_27 : decode c_R_insert 27 = .ok (.iadd, 1) := by decide +kernel
theorem d_R_insert_28 : decode c_R_insert 28 = .ok (.iload 6, 2) := by decide +kernel
theorem d_R_insert_30 : decode c_R_insert 30 = .ok (.invokevirtual 98, 3) := by decide +kernel
theorem d_R_insert_33 : decode c_R_insert 33 = .ok (.iinc 6 (-1), 3) := by decide +kernel
theorem d_R_insert_36 : decode c_R_insert 36 = .ok (.goto (-21), 3) := by decide +kernel
theorem d_R_insert_39 : decode c_R_insert 39 = .ok (.iconst 0, 1) := by decide +kernel
theorem d_R_insert_40 : decode c_R_insert 40 = .ok (.istore 6, 2) := by decide +kernel
theorem d_R_insert_42 : decode c_R_insert 42 = .ok (.iload 6, 2) := by decide +kernel
theorem d_R_insert_44 : decode c_R_insert 44 = .ok (.iload 4, 2) := by decide +kernel
theorem d_R_insert_46 : decode c_R_insert 46 = .ok (.if_icmp .ge 85, 3) := by decide +kernel
theorem d_R_insert_49 : decode c_R_insert 49 = .ok (.aload_n 0, 1) := by decide +kernel
theorem d_R_insert_50 : decode c_R_insert 50 = .ok (.getfield 7, 3) := by decide +kernel
theorem d_R_insert_53 : decode c_R_insert 53 = .ok (.iload 5, 2) := by decide +kernel
theorem d_R_insert_55 : decode c_R_insert 55 = .ok (.iload 6, 2) := by decide +kernel
theorem d_R_insert_57 : decode c_R_insert 57 = .ok (.iadd, 1) := by decide +kernel
theorem d_R_insert_58 : decode c_R_insert 58 = .ok (.aload_n 0, 1) := by decide +kernel
theorem d_R_insert_59 : decode c_R_insert 59 = .ok (.getfield 70, 3) := by decide +kernel
theorem d_R_insert_62 : decode c_R_insert 62 = .ok (.iload_n 3, 1) := by decide +kernel
theorem d_R_insert_63 : decode c_R_insert 63 = .ok (.iload 6, 2) := by decide +kernel
theorem d_R_insert_65 : decode c_R_insert 65 = .ok (.iadd, 1) := by decide +kernel
theorem d_R_insert_66 : decode c_R_insert 66 = .ok (.iaload, 1) := by decide +kernel
theorem d_R_insert_67 : decode c_R_insert 67 = .ok (.iastore, 1) := by decide +kernel
theorem d_R_insert_68 : decode c_R_insert 68 = .ok (.aload_n 0, 1) := by decide +kernel
theorem d_R_insert_69 : decode c_R_insert 69 = .ok (.getfield 13, 3) := by decide +kernel
theorem d_R_insert_72 : decode c_R_insert 72 = .ok (.iload 5, 2) := by decide +kernel
theorem d_R_insert_74 : decode c_R_insert 74 = .ok (.iload 6, 2) := by decide +kernel
theorem d_R_insert_76 : decode c_R_insert 76 = .ok (.iadd, 1) := by decide +kernel
theorem d_R_insert_77 : decode c_R_insert 77 = .ok (.aload_n 0, 1) := by decide +kernel
theorem d_R_insert_78 : decode c_R_insert 78 = .ok (.getfield 73, 3) := by decide +kernel
theorem d_R_insert_81 : decode c_R_insert 81 = .ok (.iload_n 3, 1) := by decide +kernel
theorem d_R_insert_82 : decode c_R_insert 82 = .ok (.iload 6, 2) := by decide +kernel
theorem d_R_insert_84 : decode c_R_insert 84 = .ok (.iadd, 1) := by decide +kernel
theorem d_R_insert_85 : decode c_R_insert 85 = .ok (.iaload, 1) := by decide +kernel
theorem d_R_insert_86 : decode c_R_insert 86 = .ok (.iastore, 1) := by decide +kernel
theorem d_R_insert_87 : decode c_R_insert 87 = .ok (.aload_n 0, 1) := by decide +kernel
theorem d_R_insert_88 : decode c_R_insert 88 = .ok (.getfield 16, 3) := by decide +kernel
theorem d_R_insert_91 : decode c_R_insert 91 = .ok (.iload 5, 2) := by decide +kernel
theorem d_R_insert_93 : decode c_R_insert 93 = .ok (.iload 6, 2) := by decide +kernel
theorem d_R_insert_95 : decode c_R_insert 95 = .ok (.iadd, 1) := by decide +kernel
theorem d_R_insert_96 : decode c_R_insert 96 = .ok (.aload_n 0, 1) := by decide +kernel
end
section
/-! DECODED INSTRUCTIONS -/
theorem d_R_insert_97 : decode c_R_insert 97 = .ok (.getfield 76, 3) := by decide +kernel
theorem d_R_insert_100 : decode c_R_insert 100 = .ok (.iload_n 3, 1) := by decide +kernel
theorem d_R_insert_101 : decode c_R_insert 101 = .ok (.iload 6, 2) := by decide +kernel
theorem d_R_insert_103 : decode c_R_insert 103 = .ok (.iadd, 1) := by decide +kernel
theorem d_R_insert_104 : decode c_R_insert 104 = .ok (.iaload, 1) := by decide +kernel
theorem d_R_insert_105 : decode c_R_insert 105 = .ok (.iastore, 1) := by decide +kernel
theorem d_R_insert_106 : decode c_R_insert 106 = .ok (.aload_n 0, 1) := by decide +kernel
theorem d_R_insert_107 : decode c_R_insert 107 = .ok (.getfield 19, 3) := by decide +kernel
theorem d_R_insert_110 : decode c_R_insert 110 = .ok (.iload 5, 2) := by decide +kernel
theorem d_R_insert_112 : decode c_R_insert 112 = .ok (.iload 6, 2) := by decide +kernel
theorem d_R_insert_114 : decode c_R_insert 114 = .ok (.iadd, 1) := by decide +kernel
theorem d_R_insert_115 : decode c_R_insert 115 = .ok (.aload_n 0, 1) := by decide +kernel
theorem d_R_insert_116 : decode c_R_insert 116 = .ok (.getfield 79, 3) := by decide +kernel
theorem d_R_insert_119 : decode c_R_insert 119 = .ok (.iload_n 3, 1) := by decide +kernel
theorem d_R_insert_120 : decode c_R_insert 120 = .ok (.iload 6, 2) := by decide +kernel
theorem d_R_insert_122 : decode c_R_insert 122 = .ok (.iadd, 1) := by decide +kernel
theorem d_R_insert_123 : decode c_R_insert 123 = .ok (.baload, 1) := by decide +kernel
theorem d_R_insert_124 : decode c_R_insert 124 = .ok (.bastore, 1) := by decide +kernel
theorem d_R_insert_125 : decode c_R_insert 125 = .ok (.iinc 6 1, 3) := by decide +kernel
theorem d_R_insert_128 : decode c_R_insert 128 = .ok (.goto (-86), 3) := by decide +kernel
theorem d_R_insert_131 : decode c_R_insert 131 = .ok (.aload_n 0, 1) := by decide +kernel
theorem d_R_insert_132 : decode c_R_insert 132 = .ok (.dup, 1) := by decide +kernel
theorem d_R_insert_133 : decode c_R_insert 133 = .ok (.getfield 95, 3) := by decide +kernel
theorem d_R_insert_136 : decode c_R_insert 136 = .ok (.iload 4, 2) := by decide +kernel
theorem d_R_insert_138 : decode c_R_insert 138 = .ok (.iadd, 1) := by decide +kernel
theorem d_R_insert_139 : decode c_R_insert 139 = .ok (.putfield 95, 3) := by decide +kernel
theorem d_R_insert_142 : decode c_R_insert 142 = .ok (.aload_n 0, 1) := by decide +kernel
theorem d_R_insert_143 : decode c_R_insert 143 = .ok (.getfield 92, 3) := by decide +kernel
theorem d_R_insert_146 : decode c_R_insert 146 = .ok (.iconst 1, 1) := by decide +kernel
theorem d_R_insert_147 : decode c_R_insert 147 = .ok (.isub, 1) := by decide +kernel
theorem d_R_insert_148 : decode c_R_insert 148 = .ok (.istore 6, 2) := by decide +kernel
theorem d_R_insert_150 : decode c_R_insert 150 = .ok (.iload 6, 2) := by decide +kernel
theorem d_R_insert_152 : decode c_R_insert 152 = .ok (.iload_n 1, 1) := by decide +kernel
theorem d_R_insert_153 : decode c_R_insert 153 = .ok (.if_icmp .lt 19, 3) := by decide +kernel
theorem d_R_insert_156 : decode c_R_insert 156 = .ok (.aload_n 0, 1) := by decide +kernel
theorem d_R_insert_157 : decode c_R_insert 157 = .ok (.iload 6, 2) := by decide +kernel
theorem d_R_insert_159 : decode c_R_insert 159 = .ok (.iconst 1, 1) := by decide +kernel
theorem d_R_insert_160 : decode c_R_insert 160 = .ok (.iadd, 1) := by decide +kernel
theorem d_R_insert_161 : decode c_R_insert 161 = .ok (.iload 6, 2) := by decide +kernel
theorem d_R_insert_163 : decode c_R_insert 163 = .ok (.invokevirtual 102, 3) := by decide +kernel
theorem d_R_insert_166 : decode c_R_insert 166 = .ok (.iinc 6 (-1), 3) := by decide +kernel
theorem d_R_insert_169 : decode c_R_insert 169 = .ok (.goto (-19), 3) := by decide +kernel
theorem d_R_insert_172 : decode c_R_insert 172 = .ok (.aload_n 0, 1) := by decide +kernel
theorem d_R_insert_173 : decode c_R_insert 173 = .ok (.getfield 23, 3) := by decide +kernel
theorem d_R_insert_176 : decode c_R_insert 176 = .ok (.iload_n 1, 1) := by decide +kernel
theorem d_R_insert_177 : decode c_R_insert 177 = .ok (.aload_n 0, 1) := by decide +kernel
theorem d_R_insert_178 : decode c_R_insert 178 = .ok (.getfield 105, 3) := by decide +kernel
theorem d_R_insert_181 : decode c_R_insert 181 = .ok (.iastore, 1) := by decide +kernel
theorem d_R_insert_182 : decode c_R_insert 182 = .ok (.aload_n 0, 1) := by decide +kernel
theorem d_R_insert_183 : decode c_R_insert 183 = .ok (.getfield 26, 3) := by decide +kernel
theorem d_R_insert_186 : decode c_R_insert 186 = .ok (.iload_n 1, 1) := by decide +kernel
theorem d_R_insert_187 : decode c_R_insert 187 = .ok (.iload_n 2, 1) := by decide +kernel
theorem d_R_insert_188 : decode c_R_insert 188 = .ok (.iastore, 1) := by decide +kernel
theorem d_R_insert_189 : decode c_R_insert 189 = .ok (.aload_n 0, 1) := by decide +kernel
theorem d_R_insert_190 : decode c_R_insert 190 = .ok (.getfield 29, 3) := by decide +kernel
theorem d_R_insert_193 : decode c_R_insert 193 = .ok (.iload_n 1, 1) := by decide +kernel
theorem d_R_insert_194 : decode c_R_insert 194 = .ok (.iload 4, 2) := by decide +kernel
theorem d_R_insert_196 : decode c_R_insert 196 = .ok (.iastore, 1) := by decide +kernel
theorem d_R_insert_197 : decode c_R_insert 197 = .ok (.aload_n 0, 1) := by decide +kernel
theorem d_R_insert_198 : decode c_R_insert 198 = .ok (.getfield 32, 3) := by decide +kernel
theorem d_R_insert_201 : decode c_R_insert 201 = .ok (.iload_n 1, 1) := by decide +kernel
theorem d_R_insert_202 : decode c_R_insert 202 = .ok (.lconst 0, 1) := by decide +kernel
theorem d_R_insert_203 : decode c_R_insert 203 = .ok (.lastore, 1) := by decide +kernel
theorem d_R_insert_204 : decode c_R_insert 204 = .ok (.aload_n 0, 1) := by decide +kernel
theorem d_R_insert_205 : decode c_R_insert 205 = .ok (.dup, 1) := by decide +kernel
theorem d_R_insert_206 : decode c_R_insert 206 = .ok (.getfield 105, 3) := by decide +kernel
theorem d_R_insert_209 : decode c_R_insert 209 = .ok (.iconst 1, 1) := by decide +kernel
theorem d_R_insert_210 : decode c_R_insert 210 = .ok (.iadd, 1) := by decide +kernel
theorem d_R_insert_211 : decode c_R_insert 211 = .ok (.putfield 105, 3) := by decide +kernel
theorem d_R_insert_214 : decode c_R_insert 214 = .ok (.aload_n 0, 1) := by decide +kernel
theorem d_R_insert_215 : decode c_R_insert 215 = .ok (.dup, 1) := by decide +kernel
theorem d_R_insert_216 : decode c_R_insert 216 = .ok (.getfield 92, 3) := by decide +kernel
theorem d_R_insert_219 : decode c_R_insert 219 = .ok (.iconst 1, 1) := by decide +kernel
theorem d_R_insert_220 : decode c_R_insert 220 = .ok (.iadd, 1) := by decide +kernel
theorem d_R_insert_221 : decode c_R_insert 221 = .ok (.putfield 92, 3) := by decide +kernel
theorem d_R_insert_224 : decode c_R_insert 224 = .ok (.return_, 1) := by decide +kernel
theorem d_R_low_0 : decode c_R_low 0 = .ok (.aload_n 0, 1) := by decide +kernel
theorem d_R_low_1 : decode c_R_low 1 = .ok (.getfield 7, 3) := by decide +kernel
theorem d_R_low_4 : decode c_R_low 4 = .ok (.aload_n 0, 1) := by decide +kernel
theorem d_R_low_5 : decode c_R_low 5 = .ok (.iload_n 1, 1) := by decide +kernel
theorem d_R_low_6 : decode c_R_low 6 = .ok (.invokevirtual 88, 3) := by decide +kernel
theorem d_R_low_9 : decode c_R_low 9 = .ok (.iaload, 1) := by decide +kernel
theorem d_R_low_10 : decode c_R_low 10 = .ok (.ireturn, 1) := by decide +kernel
theorem d_R_high_0 : decode c_R_high 0 = .ok (.aload_n 0, 1) := by decide +kernel
theorem d_R_high_1 : decode c_R_high 1 = .ok (.getfield 7, 3) := by decide +kernel
theorem d_R_high_4 : decode c_R_high 4 = .ok (.aload_n 0, 1) := by decide +kernel
theorem d_R_high_5 : decode c_R_high 5 = .ok (.iload_n 1, 1) := by decide +kernel
theorem d_R_high_6 : decode c_R_high 6 = .ok (.invokevirtual 88, 3) := by decide +kernel
theorem d_R_high_9 : decode c_R_high 9 = .ok (.aload_n 0, 1) := by decide +kernel
theorem d_R_high_10 : decode c_R_high 10 = .ok (.getfield 29, 3) := by decide +kernel
theorem d_R_high_13 : decode c_R_high 13 = .ok (.iload_n 1, 1) := by decide +kernel
theorem d_R_high_14 : decode c_R_high 14 = .ok (.iaload, 1) := by decide +kernel
theorem d_R_high_15 : decode c_R_high 15 = .ok (.iadd, 1) := by decide +kernel
theorem d_R_high_16 : decode c_R_high 16 = .ok (.iconst 1, 1) := by decide +kernel
theorem d_R_high_17 : decode c_R_high 17 = .ok (.isub, 1) := by decide +kernel
theorem d_R_high_18 : decode c_R_high 18 = .ok (.iaload, 1) := by decide +kernel
theorem d_R_high_19 : decode c_R_high 19 = .ok (.ireturn, 1) := by decide +kernel
theorem d_R_oldest_0 : decode c_R_oldest 0 = .ok (.aload_n 0, 1) := by decide +kernel
theorem d_R_oldest_1 : decode c_R_oldest 1 = .ok (.getfield 114, 3) := by decide +kernel
theorem d_R_oldest_4 : decode c_R_oldest 4 = .ok (.istore_n 1, 1) := by decide +kernel
theorem d_R_oldest_5 : decode c_R_oldest 5 = .ok (.iconst 0, 1) := by decide +kernel
theorem d_R_oldest_6 : decode c_R_oldest 6 = .ok (.istore_n 2, 1) := by decide +kernel
theorem d_R_oldest_7 : decode c_R_oldest 7 = .ok (.iload_n 2, 1) := by decide +kernel
theorem d_R_oldest_8 : decode c_R_oldest 8 = .ok (.iconst 4, 1) := by decide +kernel
theorem d_R_oldest_9 : decode c_R_oldest 9 = .ok (.if_icmp .ge 35, 3) := by decide +kernel
theorem d_R_oldest_12 : decode c_R_oldest 12 = .ok (.aload_n 0, 1) := by decide +kernel
theorem d_R_oldest_13 : decode c_R_oldest 13 = .ok (.getfield 64, 3) := by decide +kernel
theorem d_R_oldest_16 : decode c_R_oldest 16 = .ok (.iload_n 2, 1) := by decide +kernel
theorem d_R_oldest_17 : decode c_R_oldest 17 = .ok (.iaload, 1) := by decide +kernel
theorem d_R_oldest_18 : decode c_R_oldest 18 = .ok (.ifCond .lt 20, 3) := by decide +kernel
theorem d_R_oldest_21 : decode c_R_oldest 21 = .ok (.aload_n 0, 1) := by decide +kernel
theorem d_R_oldest_22 : decode c_R_oldest 22 = .ok (.getfield 64, 3) := by decide +kernel
theorem d_R_oldest_25 : decode c_R_oldest 25 = .ok (.iload_n 2, 1) := by decide +kernel
theorem d_R_oldest_26 : decode c_R_oldest 26 = .ok (.iaload, 1) := by decide +kernel
theorem d_R_oldest_27 : decode c_R_oldest 27 = .ok (.iload_n 1, 1) := by decide +kernel
theorem d_R_oldest_28 : decode c_R_oldest 28 = .ok (.if_icmp .ge 10, 3) := by decide +kernel
theorem d_R_oldest_31 : decode c_R_oldest 31 = .ok (.aload_n 0, 1) := by decide +kernel
theorem d_R_oldest_32 : decode c_R_oldest 32 = .ok (.getfield 64, 3) := by decide +kernel
theorem d_R_oldest_35 : decode c_R_oldest 35 = .ok (.iload_n 2, 1) := by decide +kernel
theorem d_R_oldest_36 : decode c_R_oldest 36 = .ok (.iaload, 1) := by decide +kernel
theorem d_R_oldest_37 : decode c_R_oldest 37 = .ok (.istore_n 1, 1) := by decide +kernel
theorem d_R_oldest_38 : decode c_R_oldest 38 = .ok (.iinc 2 1, 3) := by decide +kernel
theorem d_R_oldest_41 : decode c_R_oldest 41 = .ok (.goto (-34), 3) := by decide +kernel
theorem d_R_oldest_44 : decode c_R_oldest 44 = .ok (.iload_n 1, 1) := by decide +kernel
theorem d_R_oldest_45 : decode c_R_oldest 45 = .ok (.ireturn, 1) := by decide +kernel
theorem d_R_deeper_0 : decode c_R_deeper 0 = .ok (.iconst 0, 1) := by decide +kernel
theorem d_R_deeper_1 : decode c_R_deeper 1 = .ok (.istore_n 3, 1) := by decide +kernel
theorem d_R_deeper_2 : decode c_R_deeper 2 = .ok (.iload_n 3, 1) := by decide +kernel
theorem d_R_deeper_3 : decode c_R_deeper 3 = .ok (.aload_n 0, 1) := by decide +kernel
theorem d_R_deeper_4 : decode c_R_deeper 4 = .ok (.getfield 92, 3) := by decide +kernel
theorem d_R_deeper_7 : decode c_R_deeper 7 = .ok (.if_icmp .ge 48, 3) := by decide +kernel
theorem d_R_deeper_10 : decode c_R_deeper 10 = .ok (.aload_n 0, 1) := by decide +kernel
theorem d_R_deeper_11 : decode c_R_deeper 11 = .ok (.getfield 82, 3) := by decide +kernel
theorem d_R_deeper_14 : decode c_R_deeper 14 = .ok (.iload_n 3, 1) := by decide +kernel
theorem d_R_deeper_15 : decode c_R_deeper 15 = .ok (.baload, 1) := by decide +kernel
theorem d_R_deeper_16 : decode c_R_deeper 16 = .ok (.ifCond .ne 33, 3) := by decide +kernel
theorem d_R_deeper_19 : decode c_R_deeper 19 = .ok (.aload_n 0, 1) := by decide +kernel
theorem d_R_deeper_20 : decode c_R_deeper 20 = .ok (.getfield 26, 3) := by decide +kernel
theorem d_R_deeper_23 : decode c_R_deeper 23 = .ok (.iload_n 3, 1) := by decide +kernel
theorem d_R_deeper_24 : decode c_R_deeper 24 = .ok (.iaload, 1) := by decide +kernel
theorem d_R_deeper_25 : decode c_R_deeper 25 = .ok (.iload_n 2, 1) := by decide +kernel
theorem d_R_deeper_26 : decode c_R_deeper 26 = .ok (.if_icmp .le 23, 3) := by decide +kernel
theorem d_R_deeper_29 : decode c_R_deeper 29 = .ok (.aload_n 0, 1) := by decide +kernel
theorem d_R_deeper_30 : decode c_R_deeper 30 = .ok (.iload_n 3, 1) := by decide +kernel
theorem d_R_deeper_31 : decode c_R_deeper 31 = .ok (.invokevirtual 117, 3) := by decide +kernel
theorem d_R_deeper_34 : decode c_R_deeper 34 = .ok (.iload_n 1, 1) := by decide +kernel
theorem d_R_deeper_35 : decode c_R_deeper 35 = .ok (.if_icmp .gt 14, 3) := by decide +kernel
theorem d_R_deeper_38 : decode c_R_deeper 38 = .ok (.aload_n 0, 1) := by decide +kernel
theorem d_R_deeper_39 : decode c_R_deeper 39 = .ok (.iload_n 3, 1) := by decide +kernel
theorem d_R_deeper_40 : decode c_R_deeper 40 = .ok (.invokevirtual 120, 3) := by decide +kernel
theorem d_R_deeper_43 : decode c_R_deeper 43 = .ok (.iload_n 1, 1) := by decide +kernel
theorem d_R_deeper_44 : decode c_R_deeper 44 = .ok (.if_icmp .lt 5, 3) := by decide +kernel
theorem d_R_deeper_47 : decode c_R_deeper 47 = .ok (.iconst 1, 1) := by decide +kernel
theorem d_R_deeper_48 : decode c_R_deeper 48 = .ok (.ireturn, 1) := by decide +kernel
theorem d_R_deeper_49 : decode c_R_deeper 49 = .ok (.iinc 3 1, 3) := by decide +kernel
theorem d_R_deeper_52 : decode c_R_deeper 52 = .ok (.goto (-50), 3) := by decide +kernel
theorem d_R_deeper_55 : decode c_R_deeper 55 = .ok (.iconst 0, 1) := by decide +kernel
theorem d_R_deeper_56 : decode c_R_deeper 56 = .ok (.ireturn, 1) := by decide +kernel
theorem d_R_dropAll_0 : decode c_R_dropAll 0 = .ok (.aload_n 0, 1) := by decide +kernel
theorem d_R_dropAll_1 : decode c_R_dropAll 1 = .ok (.invokevirtual 123, 3) := by decide +kernel
theorem d_R_dropAll_4 : decode c_R_dropAll 4 = .ok (.istore_n 2, 1) := by decide +kernel
theorem d_R_dropAll_5 : decode c_R_dropAll 5 = .ok (.iconst 0, 1) := by decide +kernel
theorem d_R_dropAll_6 : decode c_R_dropAll 6 = .ok (.istore_n 3, 1) := by decide +kernel
theorem d_R_dropAll_7 : decode c_R_dropAll 7 = .ok (.iconst (-1), 1) := by decide +kernel
theorem d_R_dropAll_8 : decode c_R_dropAll 8 = .ok (.istore 4, 2) := by decide +kernel
theorem d_R_dropAll_10 : decode c_R_dropAll 10 = .ok (.iconst (-1), 1) := by decide +kernel
theorem d_R_dropAll_11 : decode c_R_dropAll 11 = .ok (.istore 5, 2) := by decide +kernel
theorem d_R_dropAll_13 : decode c_R_dropAll 13 = .ok (.iconst 0, 1) := by decide +kernel
theorem d_R_dropAll_14 : decode c_R_dropAll 14 = .ok (.istore 6, 2) := by decide +kernel
theorem d_R_dropAll_16 : decode c_R_dropAll 16 = .ok (.iload 6, 2) := by decide +kernel
theorem d_R_dropAll_18 : decode c_R_dropAll 18 = .ok (.aload_n 0, 1) := by decide +kernel
theorem d_R_dropAll_19 : decode c_R_dropAll 19 = .ok (.getfield 108, 3) := by decide +kernel
theorem d_R_dropAll_22 : decode c_R_dropAll 22 = .ok (.if_icmp .ge 124, 3) := by decide +kernel
theorem d_R_dropAll_25 : decode c_R_dropAll 25 = .ok (.aload_n 0, 1) := by decide +kernel
theorem d_R_dropAll_26 : decode c_R_dropAll 26 = .ok (.getfield 70, 3) := by decide +kernel
theorem d_R_dropAll_29 : decode c_R_dropAll 29 = .ok (.iload 6, 2) := by decide +kernel
theorem d_R_dropAll_31 : decode c_R_dropAll 31 = .ok (.iaload, 1) := by decide +kernel
theorem d_R_dropAll_32 : decode c_R_dropAll 32 = .ok (.iload 5, 2) := by decide +kernel
theorem d_R_dropAll_34 : decode c_R_dropAll 34 = .ok (.if_icmp .eq 6, 3) := by decide +kernel
theorem d_R_dropAll_37 : decode c_R_dropAll 37 = .ok (.iconst (-1), 1) := by decide +kernel
theorem d_R_dropAll_38 : decode c_R_dropAll 38 = .ok (.istore 4, 2) := by decide +kernel
theorem d_R_dropAll_40 : decode c_R_dropAll 40 = .ok (.aload_n 0, 1) := by decide +kernel
theorem d_R_dropAll_41 : decode c_R_dropAll 41 = .ok (.getfield 70, 3) := by decide +kernel
theorem d_R_dropAll_44 : decode c_R_dropAll 44 = .ok (.iload 6, 2) := by decide +kernel
theorem d_R_dropAll_46 : decode c_R_dropAll 46 = .ok (.iaload, 1) := by decide +kernel
theorem d_R_dropAll_47 : decode c_R_dropAll 47 = .ok (.istore 5, 2) := by decide +kernel
theorem d_R_dropAll_49 : decode c_R_dropAll 49 = .ok (.iload 4, 2) := by decide +kernel
theorem d_R_dropAll_51 : decode c_R_dropAll 51 = .ok (.ifCond .ge 34, 3) := by decide +kernel
theorem d_R_dropAll_54 : decode c_R_dropAll 54 = .ok (.aload_n 0, 1) := by decide +kernel
theorem d_R_dropAll_55 : decode c_R_dropAll 55 = .ok (.getfield 79, 3) := by decide +kernel
theorem d_R_dropAll_58 : decode c_R_dropAll 58 = .ok (.iload 6, 2) := by decide +kernel
theorem d_R_dropAll_60 : decode c_R_dropAll 60 = .ok (.baload, 1) := by decide +kernel
theorem d_R_dropAll_61 : decode c_R_dropAll 61 = .ok (.ifCond .eq 28, 3) := by decide +kernel
theorem d_R_dropAll_64 : decode c_R_dropAll 64 = .ok (.aload_n 0, 1) := by decide +kernel
theorem d_R_dropAll_65 : decode c_R_dropAll 65 = .ok (.getfield 73, 3) := by decide +kernel
theorem d_R_dropAll_68 : decode c_R_dropAll 68 = .ok (.iload 6, 2) := by decide +kernel
theorem d_R_dropAll_70 : decode c_R_dropAll 70 = .ok (.iaload, 1) := by decide +kernel
theorem d_R_dropAll_71 : decode c_R_dropAll 71 = .ok (.iload_n 2, 1) := by decide +kernel
theorem d_R_dropAll_72 : decode c_R_dropAll 72 = .ok (.if_icmp .gt 17, 3) := by decide +kernel
theorem d_R_dropAll_75 : decode c_R_dropAll 75 = .ok (.aload_n 0, 1) := by decide +kernel
theorem d_R_dropAll_76 : decode c_R_dropAll 76 = .ok (.iload 5, 2) := by decide +kernel
theorem d_R_dropAll_78 : decode c_R_dropAll 78 = .ok (.iload_n 1, 1) := by decide +kernel
theorem d_R_dropAll_79 : decode c_R_dropAll 79 = .ok (.invokevirtual 127, 3) := by decide +kernel
theorem d_R_dropAll_82 : decode c_R_dropAll 82 = .ok (.ifCond .ne 7, 3) := by decide +kernel
theorem d_R_dropAll_85 : decode c_R_dropAll 85 = .ok (.iconst 1, 1) := by decide +kernel
theorem d_R_dropAll_86 : decode c_R_dropAll 86 = .ok (.goto 4, 3) := by decide +kernel
theorem d_R_dropAll_89 : decode c_R_dropAll 89 = .ok (.iconst 0, 1) := by decide +kernel
theorem d_R_dropAll_90 : decode c_R_dropAll 90 = .ok (.istore 7, 2) := by decide +kernel
theorem d_R_dropAll_92 : decode c_R_dropAll 92 = .ok (.aload_n 0, 1) := by decide +kernel
theorem d_R_dropAll_93 : decode c_R_dropAll 93 = .ok (.getfield 73, 3) := by decide +kernel
theorem d_R_dropAll_96 : decode c_R_dropAll 96 = .ok (.iload 6, 2) := by decide +kernel
theorem d_R_dropAll_98 : decode c_R_dropAll 98 = .ok (.iaload, 1) := by decide +kernel
theorem d_R_dropAll_99 : decode c_R_dropAll 99 = .ok (.iload_n 2, 1) := by decide +kernel
theorem d_R_dropAll_100 : decode c_R_dropAll 100 = .ok (.if_icmp .gt 12, 3) := by decide +kernel
theorem d_R_dropAll_103 : decode c_R_dropAll 103 = .ok (.aload_n 0, 1) := by decide +kernel
theorem d_R_dropAll_104 : decode c_R_dropAll 104 = .ok (.getfield 73, 3) := by decide +kernel
theorem d_R_dropAll_107 : decode c_R_dropAll 107 = .ok (.iload 6, 2) := by decide +kernel
theorem d_R_dropAll_109 : decode c_R_dropAll 109 = .ok (.iaload, 1) := by decide +kernel
theorem d_R_dropAll_110 : decode c_R_dropAll 110 = .ok (.istore 4, 2) := by decide +kernel
theorem d_R_dropAll_112 : decode c_R_dropAll 112 = .ok (.iload 7, 2) := by decide +kernel
theorem d_R_dropAll_114 : decode c_R_dropAll 114 = .ok (.ifCond .eq 16, 3) := by decide +kernel
theorem d_R_dropAll_117 : decode c_R_dropAll 117 = .ok (.aload_n 0, 1) := by decide +kernel
theorem d_R_dropAll_118 : decode c_R_dropAll 118 = .ok (.dup, 1) := by decide +kernel
theorem d_R_dropAll_119 : decode c_R_dropAll 119 = .ok (.getfield 131, 3) := by decide +kernel
theorem d_R_dropAll_122 : decode c_R_dropAll 122 = .ok (.iconst 1, 1) := by decide +kernel
theorem d_R_dropAll_123 : decode c_R_dropAll 123 = .ok (.iadd, 1) := by decide +kernel
theorem d_R_dropAll_124 : decode c_R_dropAll 124 = .ok (.putfield 131, 3) := by decide +kernel
theorem d_R_dropAll_127 : decode c_R_dropAll 127 = .ok (.goto 13, 3) := by decide +kernel
theorem d_R_dropAll_130 : decode c_R_dropAll 130 = .ok (.aload_n 0, 1) := by decide +kernel
theorem d_R_dropAll_131 : decode c_R_dropAll 131 = .ok (.iload_n 3, 1) := by decide +kernel
theorem d_R_dropAll_132 : decode c_R_dropAll 132 = .ok (.iload 6, 2) := by decide +kernel
theorem d_R_dropAll_134 : decode c_R_dropAll 134 = .ok (.invokevirtual 111, 3) := by decide +kernel
theorem d_R_dropAll_137 : decode c_R_dropAll 137 = .ok (.iinc 3 1, 3) := by decide +kernel
theorem d_R_dropAll_140 : decode c_R_dropAll 140 = .ok (.iinc 6 1, 3) := by decide +kernel
theorem d_R_dropAll_143 : decode c_R_dropAll 143 = .ok (.goto (-127), 3) := by decide +kernel
theorem d_R_dropAll_146 : decode c_R_dropAll 146 = .ok (.aload_n 0, 1) := by decide +kernel
theorem d_R_dropAll_147 : decode c_R_dropAll 147 = .ok (.iload_n 3, 1) := by decide +kernel
theorem d_R_dropAll_148 : decode c_R_dropAll 148 = .ok (.putfield 108, 3) := by decide +kernel
theorem d_R_dropAll_151 : decode c_R_dropAll 151 = .ok (.return_, 1) := by decide +kernel
theorem d_R_takeOut_0 : decode c_R_takeOut 0 = .ok (.aload_n 0, 1) := by decide +kernel
theorem d_R_takeOut_1 : decode c_R_takeOut 1 = .ok (.iload_n 1, 1) := by decide +kernel
theorem d_R_takeOut_2 : decode c_R_takeOut 2 = .ok (.invokevirtual 88, 3) := by decide +kernel
theorem d_R_takeOut_5 : decode c_R_takeOut 5 = .ok (.istore_n 2, 1) := by decide +kernel
theorem d_R_takeOut_6 : decode c_R_takeOut 6 = .ok (.aload_n 0, 1) := by decide +kernel
theorem d_R_takeOut_7 : decode c_R_takeOut 7 = .ok (.getfield 29, 3) := by decide +kernel
theorem d_R_takeOut_10 : decode c_R_takeOut 10 = .ok (.iload_n 1, 1) := by decide +kernel
theorem d_R_takeOut_11 : decode c_R_takeOut 11 = .ok (.iaload, 1) := by decide +kernel
theorem d_R_takeOut_12 : decode c_R_takeOut 12 = .ok (.istore_n 3, 1) := by decide +kernel
theorem d_R_takeOut_13 : decode c_R_takeOut 13 = .ok (.iload_n 2, 1) := by decide +kernel
theorem d_R_takeOut_14 : decode c_R_takeOut 14 = .ok (.istore 4, 2) := by decide +kernel
theorem d_R_takeOut_16 : decode c_R_takeOut 16 = .ok (.iload 4, 2) := by decide +kernel
theorem d_R_takeOut_18 : decode c_R_takeOut 18 = .ok (.iload_n 3, 1) := by decide +kernel
theorem d_R_takeOut_19 : decode c_R_takeOut 19 = .ok (.iadd, 1) := by decide +kernel
theorem d_R_takeOut_20 : decode c_R_takeOut 20 = .ok (.aload_n 0, 1) := by decide +kernel
theorem d_R_takeOut_21 : decode c_R_takeOut 21 = .ok (.getfield 95, 3) := by decide +kernel
theorem d_R_takeOut_24 : decode c_R_takeOut 24 = .ok (.if_icmp .ge 19, 3) := by decide +kernel
theorem d_R_takeOut_27 : decode c_R_takeOut 27 = .ok (.aload_n 0, 1) := by decide +kernel
theorem d_R_takeOut_28 : decode c_R_takeOut 28 = .ok (.iload 4, 2) := by decide +kernel
theorem d_R_takeOut_30 : decode c_R_takeOut 30 = .ok (.iload 4, 2) := by decide +kernel
theorem d_R_takeOut_32 : decode c_R_takeOut 32 = .ok (.iload_n 3, 1) := by decide +kernel
theorem d_R_takeOut_33 : decode c_R_takeOut 33 = .ok (.iadd, 1) := by decide +kernel
theorem d_R_takeOut_34 : decode c_R_takeOut 34 = .ok (.invokevirtual 98, 3) := by decide +kernel
theorem d_R_takeOut_37 : decode c_R_takeOut 37 = .ok (.iinc 4 1, 3) := by decide +kernel
theorem d_R_takeOut_40 : decode c_R_takeOut 40 = .ok (.goto (-24), 3) := by decide +kernel
theorem d_R_takeOut_43 : decode c_R_takeOut 43 = .ok (.aload_n 0, 1) := by decide +kernel
theorem d_R_takeOut_44 : decode c_R_takeOut 44 = .ok (.dup, 1) := by decide +kernel
theorem d_R_takeOut_45 : decode c_R_takeOut 45 = .ok (.getfield 95, 3) := by decide +kernel
theorem d_R_takeOut_48 : decode c_R_takeOut 48 = .ok (.iload_n 3, 1) := by decide +kernel
theorem d_R_takeOut_49 : decode c_R_takeOut 49 = .ok (.isub, 1) := by decide +kernel
theorem d_R_takeOut_50 : decode c_R_takeOut 50 = .ok (.putfield 95, 3) := by decide +kernel
theorem d_R_takeOut_53 : decode c_R_takeOut 53 = .ok (.aload_n 0, 1) := by decide +kernel
theorem d_R_takeOut_54 : decode c_R_takeOut 54 = .ok (.dup, 1) := by decide +kernel
theorem d_R_takeOut_55 : decode c_R_takeOut 55 = .ok (.getfield 92, 3) := by decide +kernel
theorem d_R_takeOut_58 : decode c_R_takeOut 58 = .ok (.iconst 1, 1) := by decide +kernel
theorem d_R_takeOut_59 : decode c_R_takeOut 59 = .ok (.isub, 1) := by decide +kernel
theorem d_R_takeOut_60 : decode c_R_takeOut 60 = .ok (.putfield 92, 3) := by decide +kernel
theorem d_R_takeOut_63 : decode c_R_takeOut 63 = .ok (.iload_n 1, 1) := by decide +kernel
theorem d_R_takeOut_64 : decode c_R_takeOut 64 = .ok (.istore 4, 2) := by decide +kernel
theorem d_R_takeOut_66 : decode c_R_takeOut 66 = .ok (.iload 4, 2) := by decide +kernel
theorem d_R_takeOut_68 : decode c_R_takeOut 68 = .ok (.aload_n 0, 1) := by decide +kernel
theorem d_R_takeOut_69 : decode c_R_takeOut 69 = .ok (.getfield 92, 3) := by decide +kernel
theorem d_R_takeOut_72 : decode c_R_takeOut 72 = .ok (.if_icmp .ge 19, 3) := by decide +kernel
theorem d_R_takeOut_75 : decode c_R_takeOut 75 = .ok (.aload_n 0, 1) := by decide +kernel
theorem d_R_takeOut_76 : decode c_R_takeOut 76 = .ok (.iload 4, 2) := by decide +kernel
theorem d_R_takeOut_78 : decode c_R_takeOut 78 = .ok (.iload 4, 2) := by decide +kernel
theorem d_R_takeOut_80 : decode c_R_takeOut 80 = .ok (.iconst 1, 1) := by decide +kernel
theorem d_R_takeOut_81 : decode c_R_takeOut 81 = .ok (.iadd, 1) := by decide +kernel
theorem d_R_takeOut_82 : decode c_R_takeOut 82 = .ok (.invokevirtual 102, 3) := by decide +kernel
theorem d_R_takeOut_85 : decode c_R_takeOut 85 = .ok (.iinc 4 1, 3) := by decide +kernel
theorem d_R_takeOut_88 : decode c_R_takeOut 88 = .ok (.goto (-22), 3) := by decide +kernel
theorem d_R_takeOut_91 : decode c_R_takeOut 91 = .ok (.return_, 1) := by decide +kernel
theorem d_R_place_0 : decode c_R_place 0 = .ok (.iconst 0, 1) := by decide +kernel
theorem d_R_place_1 : decode c_R_place 1 = .ok (.istore_n 2, 1) := by decide +kernel
theorem d_R_place_2 : decode c_R_place 2 = .ok (.iload_n 2, 1) := by decide +kernel
theorem d_R_place_3 : decode c_R_place 3 = .ok (.aload_n 0, 1) := by decide +kernel
theorem d_R_place_4 : decode c_R_place 4 = .ok (.getfield 92, 3) := by decide +kernel
theorem d_R_place_7 : decode c_R_place 7 = .ok (.if_icmp .ge 50, 3) := by decide +kernel
theorem d_R_place_10 : decode c_R_place 10 = .ok (.aload_n 0, 1) := by decide +kernel
theorem d_R_place_11 : decode c_R_place 11 = .ok (.getfield 26, 3) := by decide +kernel
theorem d_R_place_14 : decode c_R_place 14 = .ok (.iload_n 2, 1) := by decide +kernel
theorem d_R_place_15 : decode c_R_place 15 = .ok (.iaload, 1) := by decide +kernel
theorem d_R_place_16 : decode c_R_place 16 = .ok (.iload_n 1, 1) := by decide +kernel
theorem d_R_place_17 : decode c_R_place 17 = .ok (.if_icmp .lt 34, 3) := by decide +kernel
theorem d_R_place_20 : decode c_R_place 20 = .ok (.aload_n 0, 1) := by decide +kernel
theorem d_R_place_21 : decode c_R_place 21 = .ok (.getfield 26, 3) := by decide +kernel
theorem d_R_place_24 : decode c_R_place 24 = .ok (.iload_n 2, 1) := by decide +kernel
theorem d_R_place_25 : decode c_R_place 25 = .ok (.iaload, 1) := by decide +kernel
theorem d_R_place_26 : decode c_R_place 26 = .ok (.iload_n 1, 1) := by decide +kernel
theorem d_R_place_27 : decode c_R_place 27 = .ok (.if_icmp .ne 30, 3) := by decide +kernel
theorem d_R_place_30 : decode c_R_place 30 = .ok (.aload_n 0, 1) := by decide +kernel
theorem d_R_place_31 : decode c_R_place 31 = .ok (.getfield 108, 3) := by decide +kernel
theorem d_R_place_34 : decode c_R_place 34 = .ok (.ifCond .le 23, 3) := by decide +kernel
theorem d_R_place_37 : decode c_R_place 37 = .ok (.aload_n 0, 1) := by decide +kernel
theorem d_R_place_38 : decode c_R_place 38 = .ok (.iload_n 2, 1) := by decide +kernel
theorem d_R_place_39 : decode c_R_place 39 = .ok (.invokevirtual 117, 3) := by decide +kernel
theorem d_R_place_42 : decode c_R_place 42 = .ok (.aload_n 0, 1) := by decide +kernel
theorem d_R_place_43 : decode c_R_place 43 = .ok (.getfield 70, 3) := by decide +kernel
theorem d_R_place_46 : decode c_R_place 46 = .ok (.iconst 0, 1) := by decide +kernel
theorem d_R_place_47 : decode c_R_place 47 = .ok (.iaload, 1) := by decide +kernel
theorem d_R_place_48 : decode c_R_place 48 = .ok (.if_icmp .ge 9, 3) := by decide +kernel
theorem d_R_place_51 : decode c_R_place 51 = .ok (.iinc 2 1, 3) := by decide +kernel
theorem d_R_place_54 : decode c_R_place 54 = .ok (.goto (-52), 3) := by decide +kernel
theorem d_R_place_57 : decode c_R_place 57 = .ok (.iconst 0, 1) := by decide +kernel
theorem d_R_place_58 : decode c_R_place 58 = .ok (.istore_n 3, 1) := by decide +kernel
theorem d_R_place_59 : decode c_R_place 59 = .ok (.iconst 0, 1) := by decide +kernel
theorem d_R_place_60 : decode c_R_place 60 = .ok (.istore 4, 2) := by decide +kernel
theorem d_R_place_62 : decode c_R_place 62 = .ok (.iload 4, 2) := by decide +kernel
theorem d_R_place_64 : decode c_R_place 64 = .ok (.aload_n 0, 1) := by decide +kernel
theorem d_R_place_65 : decode c_R_place 65 = .ok (.getfield 108, 3) := by decide +kernel
theorem d_R_place_68 : decode c_R_place 68 = .ok (.if_icmp .ge 74, 3) := by decide +kernel
theorem d_R_place_71 : decode c_R_place 71 = .ok (.iload 4, 2) := by decide +kernel
theorem d_R_place_73 : decode c_R_place 73 = .ok (.iload_n 3, 1) := by decide +kernel
theorem d_R_place_74 : decode c_R_place 74 = .ok (.isub, 1) := by decide +kernel
theorem d_R_place_75 : decode c_R_place 75 = .ok (.iconst 1, 1) := by decide +kernel
theorem d_R_place_76 : decode c_R_place 76 = .ok (.iadd, 1) := by decide +kernel
theorem d_R_place_77 : decode c_R_place 77 = .ok (.istore 5, 2) := by decide +kernel
theorem d_R_place_79 : decode c_R_place 79 = .ok (.iload 4, 2) := by decide +kernel
theorem d_R_place_81 : decode c_R_place 81 = .ok (.iconst 1, 1) := by decide +kernel
theorem d_R_place_82 : decode c_R_place 82 = .ok (.iadd, 1) := by decide +kernel
theorem d_R_place_83 : decode c_R_place 83 = .ok (.aload_n 0, 1) := by decide +kernel
theorem d_R_place_84 : decode c_R_place 84 = .ok (.getfield 108, 3) := by decide +kernel
theorem d_R_place_87 : decode c_R_place 87 = .ok (.if_icmp .ge 32, 3) := by decide +kernel
theorem d_R_place_90 : decode c_R_place 90 = .ok (.iload 5, 2) := by decide +kernel
theorem d_R_place_92 : decode c_R_place 92 = .ok (.bipush 6, 2) := by decide +kernel
theorem d_R_place_94 : decode c_R_place 94 = .ok (.if_icmp .lt 42, 3) := by decide +kernel
theorem d_R_place_97 : decode c_R_place 97 = .ok (.aload_n 0, 1) := by decide +kernel
theorem d_R_place_98 : decode c_R_place 98 = .ok (.getfield 70, 3) := by decide +kernel
theorem d_R_place_101 : decode c_R_place 101 = .ok (.iload 4, 2) := by decide +kernel
theorem d_R_place_103 : decode c_R_place 103 = .ok (.iconst 1, 1) := by decide +kernel
theorem d_R_place_104 : decode c_R_place 104 = .ok (.iadd, 1) := by decide +kernel
theorem d_R_place_105 : decode c_R_place 105 = .ok (.iaload, 1) := by decide +kernel
theorem d_R_place_106 : decode c_R_place 106 = .ok (.aload_n 0, 1) := by decide +kernel
theorem d_R_place_107 : decode c_R_place 107 = .ok (.getfield 70, 3) := by decide +kernel
theorem d_R_place_110 : decode c_R_place 110 = .ok (.iload 4, 2) := by decide +kernel
theorem d_R_place_112 : decode c_R_place 112 = .ok (.iaload, 1) := by decide +kernel
theorem d_R_place_113 : decode c_R_place 113 = .ok (.if_icmp .ne 6, 3) := by decide +kernel
theorem d_R_place_116 : decode c_R_place 116 = .ok (.goto 20, 3) := by decide +kernel
theorem d_R_place_119 : decode c_R_place 119 = .ok (.aload_n 0, 1) := by decide +kernel
theorem d_R_place_120 : decode c_R_place 120 = .ok (.iload_n 2, 1) := by decide +kernel
theorem d_R_place_121 : decode c_R_place 121 = .ok (.iload_n 1, 1) := by decide +kernel
theorem d_R_place_122 : decode c_R_place 122 = .ok (.iload_n 3, 1) := by decide +kernel
theorem d_R_place_123 : decode c_R_place 123 = .ok (.iload 5, 2) := by decide +kernel
theorem d_R_place_125 : decode c_R_place 125 = .ok (.invokevirtual 152, 3) := by decide +kernel
theorem d_R_place_128 : decode c_R_place 128 = .ok (.iinc 2 1, 3) := by decide +kernel
theorem d_R_place_131 : decode c_R_place 131 = .ok (.iload 4, 2) := by decide +kernel
theorem d_R_place_133 : decode c_R_place 133 = .ok (.iconst 1, 1) := by decide +kernel
theorem d_R_place_134 : decode c_R_place 134 = .ok (.iadd, 1) := by decide +kernel
theorem d_R_place_135 : decode c_R_place 135 = .ok (.istore_n 3, 1) := by decide +kernel
theorem d_R_place_136 : decode c_R_place 136 = .ok (.iinc 4 1, 3) := by decide +kernel
theorem d_R_place_139 : decode c_R_place 139 = .ok (.goto (-77), 3) := by decide +kernel
theorem d_R_place_142 : decode c_R_place 142 = .ok (.return_, 1) := by decide +kernel
theorem d_R_merge_0 : decode c_R_merge 0 = .ok (.bipush 64, 2) := by decide +kernel
theorem d_R_merge_2 : decode c_R_merge 2 = .ok (.istore_n 2, 1) := by decide +kernel
theorem d_R_merge_3 : decode c_R_merge 3 = .ok (.iconst (-1), 1) := by decide +kernel
theorem d_R_merge_4 : decode c_R_merge 4 = .ok (.istore_n 3, 1) := by decide +kernel
theorem d_R_merge_5 : decode c_R_merge 5 = .ok (.iconst 0, 1) := by decide +kernel
theorem d_R_merge_6 : decode c_R_merge 6 = .ok (.istore 4, 2) := by decide +kernel
theorem d_R_merge_8 : decode c_R_merge 8 = .ok (.iload 4, 2) := by decide +kernel
theorem d_R_merge_10 : decode c_R_merge 10 = .ok (.aload_n 0, 1) := by decide +kernel
theorem d_R_merge_11 : decode c_R_merge 11 = .ok (.getfield 92, 3) := by decide +kernel
theorem d_R_merge_14 : decode c_R_merge 14 = .ok (.if_icmp .ge 63, 3) := by decide +kernel
theorem d_R_merge_17 : decode c_R_merge 17 = .ok (.aload_n 0, 1) := by decide +kernel
theorem d_R_merge_18 : decode c_R_merge 18 = .ok (.getfield 82, 3) := by decide +kernel
theorem d_R_merge_21 : decode c_R_merge 21 = .ok (.iload 4, 2) := by decide +kernel
theorem d_R_merge_23 : decode c_R_merge 23 = .ok (.baload, 1) := by decide +kernel
theorem d_R_merge_24 : decode c_R_merge 24 = .ok (.ifCond .eq 20, 3) := by decide +kernel
theorem d_R_merge_27 : decode c_R_merge 27 = .ok (.aload_n 0, 1) := by decide +kernel
theorem d_R_merge_28 : decode c_R_merge 28 = .ok (.iload 4, 2) := by decide +kernel
theorem d_R_merge_30 : decode c_R_merge 30 = .ok (.invokevirtual 117, 3) := by decide +kernel
theorem d_R_merge_33 : decode c_R_merge 33 = .ok (.iload_n 2, 1) := by decide +kernel
theorem d_R_merge_34 : decode c_R_merge 34 = .ok (.if_icmp .ge 10, 3) := by decide +kernel
theorem d_R_merge_37 : decode c_R_merge 37 = .ok (.aload_n 0, 1) := by decide +kernel
theorem d_R_merge_38 : decode c_R_merge 38 = .ok (.iload 4, 2) := by decide +kernel
theorem d_R_merge_40 : decode c_R_merge 40 = .ok (.invokevirtual 117, 3) := by decide +kernel
theorem d_R_merge_43 : decode c_R_merge 43 = .ok (.istore_n 2, 1) := by decide +kernel
theorem d_R_merge_44 : decode c_R_merge 44 = .ok (.aload_n 0, 1) := by decide +kernel
theorem d_R_merge_45 : decode c_R_merge 45 = .ok (.getfield 82, 3) := by decide +kernel
theorem d_R_merge_48 : decode c_R_merge 48 = .ok (.iload 4, 2) := by decide +kernel
theorem d_R_merge_50 : decode c_R_merge 50 = .ok (.baload, 1) := by decide +kernel
theorem d_R_merge_51 : decode c_R_merge 51 = .ok (.ifCond .eq 20, 3) := by decide +kernel
theorem d_R_merge_54 : decode c_R_merge 54 = .ok (.aload_n 0, 1) := by decide +kernel
theorem d_R_merge_55 : decode c_R_merge 55 = .ok (.iload 4, 2) := by decide +kernel
theorem d_R_merge_57 : decode c_R_merge 57 = .ok (.invokevirtual 120, 3) := by decide +kernel
theorem d_R_merge_60 : decode c_R_merge 60 = .ok (.iload_n 3, 1) := by decide +kernel
theorem d_R_merge_61 : decode c_R_merge 61 = .ok (.if_icmp .le 10, 3) := by decide +kernel
theorem d_R_merge_64 : decode c_R_merge 64 = .ok (.aload_n 0, 1) := by decide +kernel
theorem d_R_merge_65 : decode c_R_merge 65 = .ok (.iload 4, 2) := by decide +kernel
theorem d_R_merge_67 : decode c_R_merge 67 = .ok (.invokevirtual 120, 3) := by decide +kernel
theorem d_R_merge_70 : decode c_R_merge 70 = .ok (.istore_n 3, 1) := by decide +kernel
theorem d_R_merge_71 : decode c_R_merge 71 = .ok (.iinc 4 1, 3) := by decide +kernel
theorem d_R_merge_74 : decode c_R_merge 74 = .ok (.goto (-66), 3) := by decide +kernel
theorem d_R_merge_77 : decode c_R_merge 77 = .ok (.iconst 0, 1) := by decide +kernel
theorem d_R_merge_78 : decode c_R_merge 78 = .ok (.istore 4, 2) := by decide +kernel
theorem d_R_merge_80 : decode c_R_merge 80 = .ok (.iload 4, 2) := by decide +kernel
theorem d_R_merge_82 : decode c_R_merge 82 = .ok (.aload_n 0, 1) := by decide +kernel
theorem d_R_merge_83 : decode c_R_merge 83 = .ok (.getfield 92, 3) := by decide +kernel
theorem d_R_merge_86 : decode c_R_merge 86 = .ok (.if_icmp .ge 75, 3) := by decide +kernel
theorem d_R_merge_89 : decode c_R_merge 89 = .ok (.aload_n 0, 1) := by decide +kernel
theorem d_R_merge_90 : decode c_R_merge 90 = .ok (.getfield 26, 3) := by decide +kernel
theorem d_R_merge_93 : decode c_R_merge 93 = .ok (.iload 4, 2) := by decide +kernel
theorem d_R_merge_95 : decode c_R_merge 95 = .ok (.iaload, 1) := by decide +kernel
theorem d_R_merge_96 : decode c_R_merge 96 = .ok (.iload_n 1, 1) := by decide +kernel
theorem d_R_merge_97 : decode c_R_merge 97 = .ok (.if_icmp .ne 31, 3) := by decide +kernel
theorem d_R_merge_100 : decode c_R_merge 100 = .ok (.aload_n 0, 1) := by decide +kernel
theorem d_R_merge_101 : decode c_R_merge 101 = .ok (.iload 4, 2) := by decide +kernel
theorem d_R_merge_103 : decode c_R_merge 103 = .ok (.invokevirtual 117, 3) := by decide +kernel
theorem d_R_merge_106 : decode c_R_merge 106 = .ok (.iload_n 3, 1) := by decide +kernel
theorem d_R_merge_107 : decode c_R_merge 107 = .ok (.if_icmp .gt 21, 3) := by decide +kernel
theorem d_R_merge_110 : decode c_R_merge 110 = .ok (.aload_n 0, 1) := by decide +kernel
theorem d_R_merge_111 : decode c_R_merge 111 = .ok (.iload 4, 2) := by decide +kernel
theorem d_R_merge_113 : decode c_R_merge 113 = .ok (.invokevirtual 120, 3) := by decide +kernel
theorem d_R_merge_116 : decode c_R_merge 116 = .ok (.iload_n 2, 1) := by decide +kernel
theorem d_R_merge_117 : decode c_R_merge 117 = .ok (.if_icmp .lt 11, 3) := by decide +kernel
theorem d_R_merge_120 : decode c_R_merge 120 = .ok (.aload_n 0, 1) := by decide +kernel
theorem d_R_merge_121 : decode c_R_merge 121 = .ok (.getfield 82, 3) := by decide +kernel
theorem d_R_merge_124 : decode c_R_merge 124 = .ok (.iload 4, 2) := by decide +kernel
theorem d_R_merge_126 : decode c_R_merge 126 = .ok (.iconst 1, 1) := by decide +kernel
theorem d_R_merge_127 : decode c_R_merge 127 = .ok (.bastore, 1) := by decide +kernel
theorem d_R_merge_128 : decode c_R_merge 128 = .ok (.aload_n 0, 1) := by decide +kernel
theorem d_R_merge_129 : decode c_R_merge 129 = .ok (.getfield 82, 3) := by decide +kernel
theorem d_R_merge_132 : decode c_R_merge 132 = .ok (.iload 4, 2) := by decide +kernel
theorem d_R_merge_134 : decode c_R_merge 134 = .ok (.baload, 1) := by decide +kernel
theorem d_R_merge_135 : decode c_R_merge 135 = .ok (.ifCond .eq 20, 3) := by decide +kernel
theorem d_R_merge_138 : decode c_R_merge 138 = .ok (.aload_n 0, 1) := by decide +kernel
theorem d_R_merge_139 : decode c_R_merge 139 = .ok (.getfield 32, 3) := by decide +kernel
theorem d_R_merge_142 : decode c_R_merge 142 = .ok (.iload 4, 2) := by decide +kernel
theorem d_R_merge_144 : decode c_R_merge 144 = .ok (.laload, 1) := by decide +kernel
theorem d_R_merge_145 : decode c_R_merge 145 = .ok (.lconst 0, 1) := by decide +kernel
theorem d_R_merge_146 : decode c_R_merge 146 = .ok (.lcmp, 1) := by decide +kernel
theorem d_R_merge_147 : decode c_R_merge 147 = .ok (.ifCond .eq 8, 3) := by decide +kernel
theorem d_R_merge_150 : decode c_R_merge 150 = .ok (.aload_n 0, 1) := by decide +kernel
theorem d_R_merge_151 : decode c_R_merge 151 = .ok (.iconst 1, 1) := by decide +kernel
theorem d_R_merge_152 : decode c_R_merge 152 = .ok (.putfield 134, 3) := by decide +kernel
theorem d_R_merge_155 : decode c_R_merge 155 = .ok (.iinc 4 1, 3) := by decide +kernel
theorem d_R_merge_158 : decode c_R_merge 158 = .ok (.goto (-78), 3) := by decide +kernel
theorem d_R_merge_161 : decode c_R_merge 161 = .ok (.aload_n 0, 1) := by decide +kernel
theorem d_R_merge_162 : decode c_R_merge 162 = .ok (.getfield 134, 3) := by decide +kernel
theorem d_R_merge_165 : decode c_R_merge 165 = .ok (.ifCond .eq 5, 3) := by decide +kernel
theorem d_R_merge_168 : decode c_R_merge 168 = .ok (.iconst 0, 1) := by decide +kernel
theorem d_R_merge_169 : decode c_R_merge 169 = .ok (.ireturn, 1) := by decide +kernel
theorem d_R_merge_170 : decode c_R_merge 170 = .ok (.aload_n 0, 1) := by decide +kernel
theorem d_R_merge_171 : decode c_R_merge 171 = .ok (.iconst 0, 1) := by decide +kernel
theorem d_R_merge_172 : decode c_R_merge 172 = .ok (.putfield 108, 3) := by decide +kernel
theorem d_R_merge_175 : decode c_R_merge 175 = .ok (.iconst 0, 1) := by decide +kernel
theorem d_R_merge_176 : decode c_R_merge 176 = .ok (.istore 4, 2) := by decide +kernel
theorem d_R_merge_178 : decode c_R_merge 178 = .ok (.iconst 0, 1) := by decide +kernel
theorem d_R_merge_179 : decode c_R_merge 179 = .ok (.istore 5, 2) := by decide +kernel
theorem d_R_merge_181 : decode c_R_merge 181 = .ok (.iload 5, 2) := by decide +kernel
theorem d_R_merge_183 : decode c_R_merge 183 = .ok (.aload_n 0, 1) := by decide +kernel
theorem d_R_merge_184 : decode c_R_merge 184 = .ok (.getfield 92, 3) := by decide +kernel
theorem d_R_merge_187 : decode c_R_merge 187 = .ok (.if_icmp .ge 88, 3) := by decide +kernel
theorem d_R_merge_190 : decode c_R_merge 190 = .ok (.iload 4, 2) := by decide +kernel
theorem d_R_merge_192 : decode c_R_merge 192 = .ok (.istore 6, 2) := by decide +kernel
theorem d_R_merge_194 : decode c_R_merge 194 = .ok (.iload 6, 2) := by decide +kernel
theorem d_R_merge_196 : decode c_R_merge 196 = .ok (.iload 4, 2) := by decide +kernel
theorem d_R_merge_198 : decode c_R_merge 198 = .ok (.aload_n 0, 1) := by decide +kernel
theorem d_R_merge_199 : decode c_R_merge 199 = .ok (.getfield 29, 3) := by decide +kernel
theorem d_R_merge_202 : decode c_R_merge 202 = .ok (.iload 5, 2) := by decide +kernel
theorem d_R_merge_204 : decode c_R_merge 204 = .ok (.iaload, 1) := by decide +kernel
theorem d_R_merge_205 : decode c_R_merge 205 = .ok (.iadd, 1) := by decide +kernel
theorem d_R_merge_206 : decode c_R_merge 206 = .ok (.if_icmp .ge 51, 3) := by decide +kernel
theorem d_R_merge_209 : decode c_R_merge 209 = .ok (.aload_n 0, 1) := by decide +kernel
theorem d_R_merge_210 : decode c_R_merge 210 = .ok (.getfield 82, 3) := by decide +kernel
theorem d_R_merge_213 : decode c_R_merge 213 = .ok (.iload 5, 2) := by decide +kernel
theorem d_R_merge_215 : decode c_R_merge 215 = .ok (.baload, 1) := by decide +kernel
theorem d_R_merge_216 : decode c_R_merge 216 = .ok (.ifCond .eq 41, 3) := by decide +kernel
theorem d_R_merge_219 : decode c_R_merge 219 = .ok (.aload_n 0, 1) := by decide +kernel
theorem d_R_merge_220 : decode c_R_merge 220 = .ok (.aload_n 0, 1) := by decide +kernel
theorem d_R_merge_221 : decode c_R_merge 221 = .ok (.getfield 7, 3) := by decide +kernel
theorem d_R_merge_224 : decode c_R_merge 224 = .ok (.iload 6, 2) := by decide +kernel
theorem d_R_merge_226 : decode c_R_merge 226 = .ok (.iaload, 1) := by decide +kernel
theorem d_R_merge_227 : decode c_R_merge 227 = .ok (.aload_n 0, 1) := by decide +kernel
theorem d_R_merge_228 : decode c_R_merge 228 = .ok (.getfield 13, 3) := by decide +kernel
theorem d_R_merge_231 : decode c_R_merge 231 = .ok (.iload 6, 2) := by decide +kernel
theorem d_R_merge_233 : decode c_R_merge 233 = .ok (.iaload, 1) := by decide +kernel
theorem d_R_merge_234 : decode c_R_merge 234 = .ok (.aload_n 0, 1) := by decide +kernel
theorem d_R_merge_235 : decode c_R_merge 235 = .ok (.getfield 16, 3) := by decide +kernel
theorem d_R_merge_238 : decode c_R_merge 238 = .ok (.iload 6, 2) := by decide +kernel
theorem d_R_merge_240 : decode c_R_merge 240 = .ok (.iaload, 1) := by decide +kernel
theorem d_R_merge_241 : decode c_R_merge 241 = .ok (.aload_n 0, 1) := by decide +kernel
theorem d_R_merge_242 : decode c_R_merge 242 = .ok (.getfield 19, 3) := by decide +kernel
theorem d_R_merge_245 : decode c_R_merge 245 = .ok (.iload 6, 2) := by decide +kernel
theorem d_R_merge_247 : decode c_R_merge 247 = .ok (.baload, 1) := by decide +kernel
theorem d_R_merge_248 : decode c_R_merge 248 = .ok (.invokevirtual 138, 3) := by decide +kernel
theorem d_R_merge_251 : decode c_R_merge 251 = .ok (.iinc 6 1, 3) := by decide +kernel
theorem d_R_merge_254 : decode c_R_merge 254 = .ok (.goto (-60), 3) := by decide +kernel
theorem d_R_merge_257 : decode c_R_merge 257 = .ok (.iload 4, 2) := by decide +kernel
theorem d_R_merge_259 : decode c_R_merge 259 = .ok (.aload_n 0, 1) := by decide +kernel
theorem d_R_merge_260 : decode c_R_merge 260 = .ok (.getfield 29, 3) := by decide +kernel
theorem d_R_merge_263 : decode c_R_merge 263 = .ok (.iload 5, 2) := by decide +kernel
theorem d_R_merge_265 : decode c_R_merge 265 = .ok (.iaload, 1) := by decide +kernel
theorem d_R_merge_266 : decode c_R_merge 266 = .ok (.iadd, 1) := by decide +kernel
theorem d_R_merge_267 : decode c_R_merge 267 = .ok (.istore 4, 2) := by decide +kernel
theorem d_R_merge_269 : decode c_R_merge 269 = .ok (.iinc 5 1, 3) := by decide +kernel
theorem d_R_merge_272 : decode c_R_merge 272 = .ok (.goto (-91), 3) := by decide +kernel
theorem d_R_merge_275 : decode c_R_merge 275 = .ok (.aload_n 0, 1) := by decide +kernel
theorem d_R_merge_276 : decode c_R_merge 276 = .ok (.iload_n 1, 1) := by decide +kernel
theorem d_R_merge_277 : decode c_R_merge 277 = .ok (.invokevirtual 142, 3) := by decide +kernel
theorem d_R_merge_280 : decode c_R_merge 280 = .ok (.aload_n 0, 1) := by decide +kernel
theorem d_R_merge_281 : decode c_R_merge 281 = .ok (.getfield 92, 3) := by decide +kernel
theorem d_R_merge_284 : decode c_R_merge 284 = .ok (.iconst 1, 1) := by decide +kernel
theorem d_R_merge_285 : decode c_R_merge 285 = .ok (.isub, 1) := by decide +kernel
theorem d_R_merge_286 : decode c_R_merge 286 = .ok (.istore 5, 2) := by decide +kernel
theorem d_R_merge_288 : decode c_R_merge 288 = .ok (.iload 5, 2) := by decide +kernel
theorem d_R_merge_290 : decode c_R_merge 290 = .ok (.ifCond .lt 25, 3) := by decide +kernel
theorem d_R_merge_293 : decode c_R_merge 293 = .ok (.aload_n 0, 1) := by decide +kernel
theorem d_R_merge_294 : decode c_R_merge 294 = .ok (.getfield 82, 3) := by decide +kernel
theorem d_R_merge_297 : decode c_R_merge 297 = .ok (.iload 5, 2) := by decide +kernel
theorem d_R_merge_299 : decode c_R_merge 299 = .ok (.baload, 1) := by decide +kernel
theorem d_R_merge_300 : decode c_R_merge 300 = .ok (.ifCond .eq 9, 3) := by decide +kernel
theorem d_R_merge_303 : decode c_R_merge 303 = .ok (.aload_n 0, 1) := by decide +kernel
theorem d_R_merge_304 : decode c_R_merge 304 = .ok (.iload 5, 2) := by decide +kernel
theorem d_R_merge_306 : decode c_R_merge 306 = .ok (.invokevirtual 146, 3) := by decide +kernel
theorem d_R_merge_309 : decode c_R_merge 309 = .ok (.iinc 5 (-1), 3) := by decide +kernel
theorem d_R_merge_312 : decode c_R_merge 312 = .ok (.goto (-24), 3) := by decide +kernel
theorem d_R_merge_315 : decode c_R_merge 315 = .ok (.aload_n 0, 1) := by decide +kernel
theorem d_R_merge_316 : decode c_R_merge 316 = .ok (.iload_n 1, 1) := by decide +kernel
theorem d_R_merge_317 : decode c_R_merge 317 = .ok (.invokevirtual 149, 3) := by decide +kernel
theorem d_R_merge_320 : decode c_R_merge 320 = .ok (.iconst 1, 1) := by decide +kernel
theorem d_R_merge_321 : decode c_R_merge 321 = .ok (.ireturn, 1) := by decide +kernel
theorem d_R_pick_0 : decode c_R_pick 0 = .ok (.iconst (-1), 1) := by decide +kernel
theorem d_R_pick_1 : decode c_R_pick 1 = .ok (.istore_n 2, 1) := by decide +kernel
theorem d_R_pick_2 : decode c_R_pick 2 = .ok (.iconst (-1), 1) := by decide +kernel
theorem d_R_pick_3 : decode c_R_pick 3 = .ok (.istore_n 3, 1) := by decide +kernel
theorem d_R_pick_4 : decode c_R_pick 4 = .ok (.iconst 0, 1) := by decide +kernel
theorem d_R_pick_5 : decode c_R_pick 5 = .ok (.istore 4, 2) := by decide +kernel
theorem d_R_pick_7 : decode c_R_pick 7 = .ok (.iload 4, 2) := by decide +kernel
theorem d_R_pick_9 : decode c_R_pick 9 = .ok (.aload_n 0, 1) := by decide +kernel
theorem d_R_pick_10 : decode c_R_pick 10 = .ok (.getfield 92, 3) := by decide +kernel
theorem d_R_pick_13 : decode c_R_pick 13 = .ok (.if_icmp .ge 52, 3) := by decide +kernel
theorem d_R_pick_16 : decode c_R_pick 16 = .ok (.aload_n 0, 1) := by decide +kernel
theorem d_R_pick_17 : decode c_R_pick 17 = .ok (.getfield 26, 3) := by decide +kernel
theorem d_R_pick_20 : decode c_R_pick 20 = .ok (.iload 4, 2) := by decide +kernel
theorem d_R_pick_22 : decode c_R_pick 22 = .ok (.iaload, 1) := by decide +kernel
theorem d_R_pick_23 : decode c_R_pick 23 = .ok (.iload_n 1, 1) := by decide +kernel
theorem d_R_pick_24 : decode c_R_pick 24 = .ok (.if_icmp .eq 6, 3) := by decide +kernel
theorem d_R_pick_27 : decode c_R_pick 27 = .ok (.goto 32, 3) := by decide +kernel
theorem d_R_pick_30 : decode c_R_pick 30 = .ok (.iload_n 3, 1) := by decide +kernel
theorem d_R_pick_31 : decode c_R_pick 31 = .ok (.ifCond .ge 6, 3) := by decide +kernel
theorem d_R_pick_34 : decode c_R_pick 34 = .ok (.iload 4, 2) := by decide +kernel
theorem d_R_pick_36 : decode c_R_pick 36 = .ok (.istore_n 3, 1) := by decide +kernel
theorem d_R_pick_37 : decode c_R_pick 37 = .ok (.iload_n 2, 1) := by decide +kernel
theorem d_R_pick_38 : decode c_R_pick 38 = .ok (.ifCond .ge 21, 3) := by decide +kernel
theorem d_R_pick_41 : decode c_R_pick 41 = .ok (.aload_n 0, 1) := by decide +kernel
theorem d_R_pick_42 : decode c_R_pick 42 = .ok (.iload 4, 2) := by decide +kernel
theorem d_R_pick_44 : decode c_R_pick 44 = .ok (.invokevirtual 117, 3) := by decide +kernel
theorem d_R_pick_47 : decode c_R_pick 47 = .ok (.aload_n 0, 1) := by decide +kernel
theorem d_R_pick_48 : decode c_R_pick 48 = .ok (.getfield 67, 3) := by decide +kernel
theorem d_R_pick_51 : decode c_R_pick 51 = .ok (.iload_n 1, 1) := by decide +kernel
theorem d_R_pick_52 : decode c_R_pick 52 = .ok (.iaload, 1) := by decide +kernel
theorem d_R_pick_53 : decode c_R_pick 53 = .ok (.if_icmp .le 6, 3) := by decide +kernel
theorem d_R_pick_56 : decode c_R_pick 56 = .ok (.iload 4, 2) := by decide +kernel
theorem d_R_pick_58 : decode c_R_pick 58 = .ok (.istore_n 2, 1) := by decide +kernel
theorem d_R_pick_59 : decode c_R_pick 59 = .ok (.iinc 4 1, 3) := by decide +kernel
theorem d_R_pick_62 : decode c_R_pick 62 = .ok (.goto (-55), 3) := by decide +kernel
theorem d_R_pick_65 : decode c_R_pick 65 = .ok (.iload_n 2, 1) := by decide +kernel
theorem d_R_pick_66 : decode c_R_pick 66 = .ok (.ifCond .ge 5, 3) := by decide +kernel
theorem d_R_pick_69 : decode c_R_pick 69 = .ok (.iload_n 3, 1) := by decide +kernel
theorem d_R_pick_70 : decode c_R_pick 70 = .ok (.istore_n 2, 1) := by decide +kernel
theorem d_R_pick_71 : decode c_R_pick 71 = .ok (.aload_n 0, 1) := by decide +kernel
theorem d_R_pick_72 : decode c_R_pick 72 = .ok (.getfield 82, 3) := by decide +kernel
theorem d_R_pick_75 : decode c_R_pick 75 = .ok (.iload_n 2, 1) := by decide +kernel
theorem d_R_pick_76 : decode c_R_pick 76 = .ok (.iconst 1, 1) := by decide +kernel
theorem d_R_pick_77 : decode c_R_pick 77 = .ok (.bastore, 1) := by decide +kernel
theorem d_R_pick_78 : decode c_R_pick 78 = .ok (.aload_n 0, 1) := by decide +kernel
theorem d_R_pick_79 : decode c_R_pick 79 = .ok (.iload_n 2, 1) := by decide +kernel
theorem d_R_pick_80 : decode c_R_pick 80 = .ok (.invokevirtual 120, 3) := by decide +kernel
theorem d_R_pick_83 : decode c_R_pick 83 = .ok (.ireturn, 1) := by decide +kernel
theorem d_R_tidy_0 : decode c_R_tidy 0 = .ok (.iconst 1, 1) := by decide +kernel
theorem d_R_tidy_1 : decode c_R_tidy 1 = .ok (.istore_n 1, 1) := by decide +kernel
theorem d_R_tidy_2 : decode c_R_tidy 2 = .ok (.iload_n 1, 1) := by decide +kernel
theorem d_R_tidy_3 : decode c_R_tidy 3 = .ok (.ifCond .eq 157, 3) := by decide +kernel
theorem d_R_tidy_6 : decode c_R_tidy 6 = .ok (.aload_n 0, 1) := by decide +kernel
theorem d_R_tidy_7 : decode c_R_tidy 7 = .ok (.getfield 134, 3) := by decide +kernel
theorem d_R_tidy_10 : decode c_R_tidy 10 = .ok (.ifCond .ne 150, 3) := by decide +kernel
theorem d_R_tidy_13 : decode c_R_tidy 13 = .ok (.iconst 0, 1) := by decide +kernel
theorem d_R_tidy_14 : decode c_R_tidy 14 = .ok (.istore_n 2, 1) := by decide +kernel
theorem d_R_tidy_15 : decode c_R_tidy 15 = .ok (.iload_n 2, 1) := by decide +kernel
theorem d_R_tidy_16 : decode c_R_tidy 16 = .ok (.sipush 260, 3) := by decide +kernel
theorem d_R_tidy_19 : decode c_R_tidy 19 = .ok (.if_icmp .ge 16, 3) := by decide +kernel
end
section
/-! DECODED INSTRUCTIONS -/
theorem d_R_tidy_22 : decode c_R_tidy 22 = .ok (.aload_n 0, 1) := by decide +kernel
theorem d_R_tidy_23 : decode c_R_tidy 23 = .ok (.getfield 82, 3) := by decide +kernel
theorem d_R_tidy_26 : decode c_R_tidy 26 = .ok (.iload_n 2, 1) := by decide +kernel
theorem d_R_tidy_27 : decode c_R_tidy 27 = .ok (.iconst 0, 1) := by decide +kernel
theorem d_R_tidy_28 : decode c_R_tidy 28 = .ok (.bastore, 1) := by decide +kernel
theorem d_R_tidy_29 : decode c_R_tidy 29 = .ok (.iinc 2 1, 3) := by decide +kernel
theorem d_R_tidy_32 : decode c_R_tidy 32 = .ok (.goto (-17), 3) := by decide +kernel
theorem d_R_tidy_35 : decode c_R_tidy 35 = .ok (.aload_n 0, 1) := by decide +kernel
theorem d_R_tidy_36 : decode c_R_tidy 36 = .ok (.iconst 0, 1) := by decide +kernel
theorem d_R_tidy_37 : decode c_R_tidy 37 = .ok (.invokevirtual 156, 3) := by decide +kernel
theorem d_R_tidy_40 : decode c_R_tidy 40 = .ok (.iconst 4, 1) := by decide +kernel
theorem d_R_tidy_41 : decode c_R_tidy 41 = .ok (.if_icmp .lt 48, 3) := by decide +kernel
theorem d_R_tidy_44 : decode c_R_tidy 44 = .ok (.iconst 0, 1) := by decide +kernel
theorem d_R_tidy_45 : decode c_R_tidy 45 = .ok (.istore_n 2, 1) := by decide +kernel
theorem d_R_tidy_46 : decode c_R_tidy 46 = .ok (.iload_n 2, 1) := by decide +kernel
theorem d_R_tidy_47 : decode c_R_tidy 47 = .ok (.aload_n 0, 1) := by decide +kernel
theorem d_R_tidy_48 : decode c_R_tidy 48 = .ok (.getfield 92, 3) := by decide +kernel
theorem d_R_tidy_51 : decode c_R_tidy 51 = .ok (.if_icmp .ge 29, 3) := by decide +kernel
theorem d_R_tidy_54 : decode c_R_tidy 54 = .ok (.aload_n 0, 1) := by decide +kernel
theorem d_R_tidy_55 : decode c_R_tidy 55 = .ok (.getfield 82, 3) := by decide +kernel
theorem d_R_tidy_58 : decode c_R_tidy 58 = .ok (.iload_n 2, 1) := by decide +kernel
theorem d_R_tidy_59 : decode c_R_tidy 59 = .ok (.aload_n 0, 1) := by decide +kernel
theorem d_R_tidy_60 : decode c_R_tidy 60 = .ok (.getfield 26, 3) := by decide +kernel
theorem d_R_tidy_63 : decode c_R_tidy 63 = .ok (.iload_n 2, 1) := by decide +kernel
theorem d_R_tidy_64 : decode c_R_tidy 64 = .ok (.iaload, 1) := by decide +kernel
theorem d_R_tidy_65 : decode c_R_tidy 65 = .ok (.ifCond .ne 7, 3) := by decide +kernel
theorem d_R_tidy_68 : decode c_R_tidy 68 = .ok (.iconst 1, 1) := by decide +kernel
theorem d_R_tidy_69 : decode c_R_tidy 69 = .ok (.goto 4, 3) := by decide +kernel
theorem d_R_tidy_72 : decode c_R_tidy 72 = .ok (.iconst 0, 1) := by decide +kernel
theorem d_R_tidy_73 : decode c_R_tidy 73 = .ok (.bastore, 1) := by decide +kernel
theorem d_R_tidy_74 : decode c_R_tidy 74 = .ok (.iinc 2 1, 3) := by decide +kernel
theorem d_R_tidy_77 : decode c_R_tidy 77 = .ok (.goto (-31), 3) := by decide +kernel
theorem d_R_tidy_80 : decode c_R_tidy 80 = .ok (.aload_n 0, 1) := by decide +kernel
theorem d_R_tidy_81 : decode c_R_tidy 81 = .ok (.iconst 1, 1) := by decide +kernel
theorem d_R_tidy_82 : decode c_R_tidy 82 = .ok (.invokevirtual 159, 3) := by decide +kernel
theorem d_R_tidy_85 : decode c_R_tidy 85 = .ok (.pop, 1) := by decide +kernel
theorem d_R_tidy_86 : decode c_R_tidy 86 = .ok (.goto (-84), 3) := by decide +kernel
theorem d_R_tidy_89 : decode c_R_tidy 89 = .ok (.aload_n 0, 1) := by decide +kernel
theorem d_R_tidy_90 : decode c_R_tidy 90 = .ok (.iconst 1, 1) := by decide +kernel
theorem d_R_tidy_91 : decode c_R_tidy 91 = .ok (.invokevirtual 156, 3) := by decide +kernel
theorem d_R_tidy_94 : decode c_R_tidy 94 = .ok (.iconst 3, 1) := by decide +kernel
theorem d_R_tidy_95 : decode c_R_tidy 95 = .ok (.if_icmp .le 7, 3) := by decide +kernel
theorem d_R_tidy_98 : decode c_R_tidy 98 = .ok (.iconst 1, 1) := by decide +kernel
theorem d_R_tidy_99 : decode c_R_tidy 99 = .ok (.goto 17, 3) := by decide +kernel
theorem d_R_tidy_102 : decode c_R_tidy 102 = .ok (.aload_n 0, 1) := by decide +kernel
theorem d_R_tidy_103 : decode c_R_tidy 103 = .ok (.iconst 2, 1) := by decide +kernel
theorem d_R_tidy_104 : decode c_R_tidy 104 = .ok (.invokevirtual 156, 3) := by decide +kernel
theorem d_R_tidy_107 : decode c_R_tidy 107 = .ok (.iconst 5, 1) := by decide +kernel
theorem d_R_tidy_108 : decode c_R_tidy 108 = .ok (.if_icmp .le 7, 3) := by decide +kernel
theorem d_R_tidy_111 : decode c_R_tidy 111 = .ok (.iconst 2, 1) := by decide +kernel
theorem d_R_tidy_112 : decode c_R_tidy 112 = .ok (.goto 4, 3) := by decide +kernel
theorem d_R_tidy_115 : decode c_R_tidy 115 = .ok (.iconst 0, 1) := by decide +kernel
theorem d_R_tidy_116 : decode c_R_tidy 116 = .ok (.istore_n 2, 1) := by decide +kernel
theorem d_R_tidy_117 : decode c_R_tidy 117 = .ok (.iload_n 2, 1) := by decide +kernel
theorem d_R_tidy_118 : decode c_R_tidy 118 = .ok (.ifCond .le 7, 3) := by decide +kernel
theorem d_R_tidy_121 : decode c_R_tidy 121 = .ok (.iconst 1, 1) := by decide +kernel
theorem d_R_tidy_122 : decode c_R_tidy 122 = .ok (.goto 4, 3) := by decide +kernel
theorem d_R_tidy_125 : decode c_R_tidy 125 = .ok (.iconst 0, 1) := by decide +kernel
theorem d_R_tidy_126 : decode c_R_tidy 126 = .ok (.istore_n 1, 1) := by decide +kernel
theorem d_R_tidy_127 : decode c_R_tidy 127 = .ok (.iload_n 1, 1) := by decide +kernel
theorem d_R_tidy_128 : decode c_R_tidy 128 = .ok (.ifCond .ne 6, 3) := by decide +kernel
theorem d_R_tidy_131 : decode c_R_tidy 131 = .ok (.goto (-129), 3) := by decide +kernel
theorem d_R_tidy_134 : decode c_R_tidy 134 = .ok (.aload_n 0, 1) := by decide +kernel
theorem d_R_tidy_135 : decode c_R_tidy 135 = .ok (.iload_n 2, 1) := by decide +kernel
theorem d_R_tidy_136 : decode c_R_tidy 136 = .ok (.invokevirtual 163, 3) := by decide +kernel
theorem d_R_tidy_139 : decode c_R_tidy 139 = .ok (.istore_n 3, 1) := by decide +kernel
theorem d_R_tidy_140 : decode c_R_tidy 140 = .ok (.aload_n 0, 1) := by decide +kernel
theorem d_R_tidy_141 : decode c_R_tidy 141 = .ok (.iload_n 2, 1) := by decide +kernel
theorem d_R_tidy_142 : decode c_R_tidy 142 = .ok (.iconst 1, 1) := by decide +kernel
theorem d_R_tidy_143 : decode c_R_tidy 143 = .ok (.iadd, 1) := by decide +kernel
theorem d_R_tidy_144 : decode c_R_tidy 144 = .ok (.invokevirtual 159, 3) := by decide +kernel
theorem d_R_tidy_147 : decode c_R_tidy 147 = .ok (.ifCond .eq 10, 3) := by decide +kernel
theorem d_R_tidy_150 : decode c_R_tidy 150 = .ok (.aload_n 0, 1) := by decide +kernel
theorem d_R_tidy_151 : decode c_R_tidy 151 = .ok (.getfield 67, 3) := by decide +kernel
theorem d_R_tidy_154 : decode c_R_tidy 154 = .ok (.iload_n 2, 1) := by decide +kernel
theorem d_R_tidy_155 : decode c_R_tidy 155 = .ok (.iload_n 3, 1) := by decide +kernel
theorem d_R_tidy_156 : decode c_R_tidy 156 = .ok (.iastore, 1) := by decide +kernel
theorem d_R_tidy_157 : decode c_R_tidy 157 = .ok (.goto (-155), 3) := by decide +kernel
theorem d_R_tidy_160 : decode c_R_tidy 160 = .ok (.return_, 1) := by decide +kernel
theorem d_R_flushAll_0 : decode c_R_flushAll 0 = .ok (.aload_n 0, 1) := by decide +kernel
theorem d_R_flushAll_1 : decode c_R_flushAll 1 = .ok (.iconst 0, 1) := by decide +kernel
theorem d_R_flushAll_2 : decode c_R_flushAll 2 = .ok (.putfield 108, 3) := by decide +kernel
theorem d_R_flushAll_5 : decode c_R_flushAll 5 = .ok (.iconst 0, 1) := by decide +kernel
theorem d_R_flushAll_6 : decode c_R_flushAll 6 = .ok (.istore_n 1, 1) := by decide +kernel
theorem d_R_flushAll_7 : decode c_R_flushAll 7 = .ok (.iload_n 1, 1) := by decide +kernel
theorem d_R_flushAll_8 : decode c_R_flushAll 8 = .ok (.aload_n 0, 1) := by decide +kernel
theorem d_R_flushAll_9 : decode c_R_flushAll 9 = .ok (.getfield 166, 3) := by decide +kernel
theorem d_R_flushAll_12 : decode c_R_flushAll 12 = .ok (.if_icmp .ge 37, 3) := by decide +kernel
theorem d_R_flushAll_15 : decode c_R_flushAll 15 = .ok (.aload_n 0, 1) := by decide +kernel
theorem d_R_flushAll_16 : decode c_R_flushAll 16 = .ok (.aload_n 0, 1) := by decide +kernel
theorem d_R_flushAll_17 : decode c_R_flushAll 17 = .ok (.getfield 36, 3) := by decide +kernel
theorem d_R_flushAll_20 : decode c_R_flushAll 20 = .ok (.iload_n 1, 1) := by decide +kernel
theorem d_R_flushAll_21 : decode c_R_flushAll 21 = .ok (.iaload, 1) := by decide +kernel
theorem d_R_flushAll_22 : decode c_R_flushAll 22 = .ok (.aload_n 0, 1) := by decide +kernel
theorem d_R_flushAll_23 : decode c_R_flushAll 23 = .ok (.getfield 39, 3) := by decide +kernel
theorem d_R_flushAll_26 : decode c_R_flushAll 26 = .ok (.iload_n 1, 1) := by decide +kernel
theorem d_R_flushAll_27 : decode c_R_flushAll 27 = .ok (.iaload, 1) := by decide +kernel
theorem d_R_flushAll_28 : decode c_R_flushAll 28 = .ok (.aload_n 0, 1) := by decide +kernel
theorem d_R_flushAll_29 : decode c_R_flushAll 29 = .ok (.getfield 42, 3) := by decide +kernel
theorem d_R_flushAll_32 : decode c_R_flushAll 32 = .ok (.iload_n 1, 1) := by decide +kernel
theorem d_R_flushAll_33 : decode c_R_flushAll 33 = .ok (.iaload, 1) := by decide +kernel
theorem d_R_flushAll_34 : decode c_R_flushAll 34 = .ok (.aload_n 0, 1) := by decide +kernel
theorem d_R_flushAll_35 : decode c_R_flushAll 35 = .ok (.getfield 45, 3) := by decide +kernel
theorem d_R_flushAll_38 : decode c_R_flushAll 38 = .ok (.iload_n 1, 1) := by decide +kernel
theorem d_R_flushAll_39 : decode c_R_flushAll 39 = .ok (.baload, 1) := by decide +kernel
theorem d_R_flushAll_40 : decode c_R_flushAll 40 = .ok (.invokevirtual 138, 3) := by decide +kernel
theorem d_R_flushAll_43 : decode c_R_flushAll 43 = .ok (.iinc 1 1, 3) := by decide +kernel
theorem d_R_flushAll_46 : decode c_R_flushAll 46 = .ok (.goto (-39), 3) := by decide +kernel
theorem d_R_flushAll_49 : decode c_R_flushAll 49 = .ok (.aload_n 0, 1) := by decide +kernel
theorem d_R_flushAll_50 : decode c_R_flushAll 50 = .ok (.iconst 0, 1) := by decide +kernel
theorem d_R_flushAll_51 : decode c_R_flushAll 51 = .ok (.iconst 0, 1) := by decide +kernel
theorem d_R_flushAll_52 : decode c_R_flushAll 52 = .ok (.iconst 0, 1) := by decide +kernel
theorem d_R_flushAll_53 : decode c_R_flushAll 53 = .ok (.aload_n 0, 1) := by decide +kernel
theorem d_R_flushAll_54 : decode c_R_flushAll 54 = .ok (.getfield 108, 3) := by decide +kernel
theorem d_R_flushAll_57 : decode c_R_flushAll 57 = .ok (.invokevirtual 152, 3) := by decide +kernel
theorem d_R_flushAll_60 : decode c_R_flushAll 60 = .ok (.aload_n 0, 1) := by decide +kernel
theorem d_R_flushAll_61 : decode c_R_flushAll 61 = .ok (.iconst 0, 1) := by decide +kernel
theorem d_R_flushAll_62 : decode c_R_flushAll 62 = .ok (.putfield 166, 3) := by decide +kernel
theorem d_R_flushAll_65 : decode c_R_flushAll 65 = .ok (.aload_n 0, 1) := by decide +kernel
theorem d_R_flushAll_66 : decode c_R_flushAll 66 = .ok (.iconst 0, 1) := by decide +kernel
theorem d_R_flushAll_67 : decode c_R_flushAll 67 = .ok (.putfield 169, 3) := by decide +kernel
theorem d_R_flushAll_70 : decode c_R_flushAll 70 = .ok (.aload_n 0, 1) := by decide +kernel
theorem d_R_flushAll_71 : decode c_R_flushAll 71 = .ok (.iconst 0, 1) := by decide +kernel
theorem d_R_flushAll_72 : decode c_R_flushAll 72 = .ok (.putfield 172, 3) := by decide +kernel
theorem d_R_flushAll_75 : decode c_R_flushAll 75 = .ok (.aload_n 0, 1) := by decide +kernel
theorem d_R_flushAll_76 : decode c_R_flushAll 76 = .ok (.getfield 134, 3) := by decide +kernel
theorem d_R_flushAll_79 : decode c_R_flushAll 79 = .ok (.ifCond .ne 7, 3) := by decide +kernel
theorem d_R_flushAll_82 : decode c_R_flushAll 82 = .ok (.aload_n 0, 1) := by decide +kernel
theorem d_R_flushAll_83 : decode c_R_flushAll 83 = .ok (.invokevirtual 175, 3) := by decide +kernel
theorem d_R_flushAll_86 : decode c_R_flushAll 86 = .ok (.return_, 1) := by decide +kernel
theorem d_R_logged_0 : decode c_R_logged 0 = .ok (.aload_n 0, 1) := by decide +kernel
theorem d_R_logged_1 : decode c_R_logged 1 = .ok (.getfield 48, 3) := by decide +kernel
theorem d_R_logged_4 : decode c_R_logged 4 = .ok (.aload_n 0, 1) := by decide +kernel
theorem d_R_logged_5 : decode c_R_logged 5 = .ok (.getfield 169, 3) := by decide +kernel
theorem d_R_logged_8 : decode c_R_logged 8 = .ok (.iload_n 1, 1) := by decide +kernel
theorem d_R_logged_9 : decode c_R_logged 9 = .ok (.iastore, 1) := by decide +kernel
theorem d_R_logged_10 : decode c_R_logged 10 = .ok (.aload_n 0, 1) := by decide +kernel
theorem d_R_logged_11 : decode c_R_logged 11 = .ok (.dup, 1) := by decide +kernel
theorem d_R_logged_12 : decode c_R_logged 12 = .ok (.getfield 169, 3) := by decide +kernel
theorem d_R_logged_15 : decode c_R_logged 15 = .ok (.iconst 1, 1) := by decide +kernel
theorem d_R_logged_16 : decode c_R_logged 16 = .ok (.iadd, 1) := by decide +kernel
theorem d_R_logged_17 : decode c_R_logged 17 = .ok (.putfield 169, 3) := by decide +kernel
theorem d_R_logged_20 : decode c_R_logged 20 = .ok (.aload_n 0, 1) := by decide +kernel
theorem d_R_logged_21 : decode c_R_logged 21 = .ok (.getfield 166, 3) := by decide +kernel
theorem d_R_logged_24 : decode c_R_logged 24 = .ok (.bipush 8, 2) := by decide +kernel
theorem d_R_logged_26 : decode c_R_logged 26 = .ok (.if_icmp .lt 7, 3) := by decide +kernel
theorem d_R_logged_29 : decode c_R_logged 29 = .ok (.aload_n 0, 1) := by decide +kernel
theorem d_R_logged_30 : decode c_R_logged 30 = .ok (.invokevirtual 178, 3) := by decide +kernel
theorem d_R_logged_33 : decode c_R_logged 33 = .ok (.return_, 1) := by decide +kernel
theorem d_R_write_0 : decode c_R_write 0 = .ok (.aload_n 0, 1) := by decide +kernel
theorem d_R_write_1 : decode c_R_write 1 = .ok (.iconst 0, 1) := by decide +kernel
theorem d_R_write_2 : decode c_R_write 2 = .ok (.putfield 85, 3) := by decide +kernel
theorem d_R_write_5 : decode c_R_write 5 = .ok (.iload_n 1, 1) := by decide +kernel
theorem d_R_write_6 : decode c_R_write 6 = .ok (.iconst 0, 1) := by decide +kernel
theorem d_R_write_7 : decode c_R_write 7 = .ok (.bipush 63, 2) := by decide +kernel
theorem d_R_write_9 : decode c_R_write 9 = .ok (.invokestatic 181, 3) := by decide +kernel
theorem d_R_write_12 : decode c_R_write 12 = .ok (.ifCond .ne 9, 3) := by decide +kernel
theorem d_R_write_15 : decode c_R_write 15 = .ok (.aload_n 0, 1) := by decide +kernel
theorem d_R_write_16 : decode c_R_write 16 = .ok (.iconst 1, 1) := by decide +kernel
theorem d_R_write_17 : decode c_R_write 17 = .ok (.invokevirtual 185, 3) := by decide +kernel
theorem d_R_write_20 : decode c_R_write 20 = .ok (.ireturn, 1) := by decide +kernel
theorem d_R_write_21 : decode c_R_write 21 = .ok (.aload_n 0, 1) := by decide +kernel
theorem d_R_write_22 : decode c_R_write 22 = .ok (.getfield 60, 3) := by decide +kernel
theorem d_R_write_25 : decode c_R_write 25 = .ok (.iconst 4, 1) := by decide +kernel
theorem d_R_write_26 : decode c_R_write 26 = .ok (.if_icmp .ne 9, 3) := by decide +kernel
theorem d_R_write_29 : decode c_R_write 29 = .ok (.aload_n 0, 1) := by decide +kernel
theorem d_R_write_30 : decode c_R_write 30 = .ok (.iconst 3, 1) := by decide +kernel
theorem d_R_write_31 : decode c_R_write 31 = .ok (.invokevirtual 185, 3) := by decide +kernel
theorem d_R_write_34 : decode c_R_write 34 = .ok (.ireturn, 1) := by decide +kernel
theorem d_R_write_35 : decode c_R_write 35 = .ok (.aload_n 0, 1) := by decide +kernel
theorem d_R_write_36 : decode c_R_write 36 = .ok (.getfield 60, 3) := by decide +kernel
theorem d_R_write_39 : decode c_R_write 39 = .ok (.ifCond .lt 48, 3) := by decide +kernel
theorem d_R_write_42 : decode c_R_write 42 = .ok (.aload_n 0, 1) := by decide +kernel
theorem d_R_write_43 : decode c_R_write 43 = .ok (.getfield 51, 3) := by decide +kernel
theorem d_R_write_46 : decode c_R_write 46 = .ok (.aload_n 0, 1) := by decide +kernel
theorem d_R_write_47 : decode c_R_write 47 = .ok (.getfield 60, 3) := by decide +kernel
theorem d_R_write_50 : decode c_R_write 50 = .ok (.iload_n 1, 1) := by decide +kernel
theorem d_R_write_51 : decode c_R_write 51 = .ok (.iastore, 1) := by decide +kernel
theorem d_R_write_52 : decode c_R_write 52 = .ok (.aload_n 0, 1) := by decide +kernel
theorem d_R_write_53 : decode c_R_write 53 = .ok (.getfield 54, 3) := by decide +kernel
theorem d_R_write_56 : decode c_R_write 56 = .ok (.aload_n 0, 1) := by decide +kernel
theorem d_R_write_57 : decode c_R_write 57 = .ok (.getfield 60, 3) := by decide +kernel
theorem d_R_write_60 : decode c_R_write 60 = .ok (.iload_n 2, 1) := by decide +kernel
theorem d_R_write_61 : decode c_R_write 61 = .ok (.iastore, 1) := by decide +kernel
theorem d_R_write_62 : decode c_R_write 62 = .ok (.aload_n 0, 1) := by decide +kernel
theorem d_R_write_63 : decode c_R_write 63 = .ok (.getfield 57, 3) := by decide +kernel
theorem d_R_write_66 : decode c_R_write 66 = .ok (.aload_n 0, 1) := by decide +kernel
theorem d_R_write_67 : decode c_R_write 67 = .ok (.getfield 60, 3) := by decide +kernel
theorem d_R_write_70 : decode c_R_write 70 = .ok (.iload_n 3, 1) := by decide +kernel
theorem d_R_write_71 : decode c_R_write 71 = .ok (.bastore, 1) := by decide +kernel
theorem d_R_write_72 : decode c_R_write 72 = .ok (.aload_n 0, 1) := by decide +kernel
theorem d_R_write_73 : decode c_R_write 73 = .ok (.dup, 1) := by decide +kernel
theorem d_R_write_74 : decode c_R_write 74 = .ok (.getfield 60, 3) := by decide +kernel
theorem d_R_write_77 : decode c_R_write 77 = .ok (.iconst 1, 1) := by decide +kernel
theorem d_R_write_78 : decode c_R_write 78 = .ok (.iadd, 1) := by decide +kernel
theorem d_R_write_79 : decode c_R_write 79 = .ok (.putfield 60, 3) := by decide +kernel
theorem d_R_write_82 : decode c_R_write 82 = .ok (.aload_n 0, 1) := by decide +kernel
theorem d_R_write_83 : decode c_R_write 83 = .ok (.getfield 60, 3) := by decide +kernel
theorem d_R_write_86 : decode c_R_write 86 = .ok (.ireturn, 1) := by decide +kernel
theorem d_R_write_87 : decode c_R_write 87 = .ok (.aload_n 0, 1) := by decide +kernel
theorem d_R_write_88 : decode c_R_write 88 = .ok (.iconst 1, 1) := by decide +kernel
theorem d_R_write_89 : decode c_R_write 89 = .ok (.invokevirtual 188, 3) := by decide +kernel
theorem d_R_write_92 : decode c_R_write 92 = .ok (.ifCond .eq 9, 3) := by decide +kernel
theorem d_R_write_95 : decode c_R_write 95 = .ok (.aload_n 0, 1) := by decide +kernel
theorem d_R_write_96 : decode c_R_write 96 = .ok (.iconst 2, 1) := by decide +kernel
theorem d_R_write_97 : decode c_R_write 97 = .ok (.invokevirtual 185, 3) := by decide +kernel
theorem d_R_write_100 : decode c_R_write 100 = .ok (.ireturn, 1) := by decide +kernel
theorem d_R_write_101 : decode c_R_write 101 = .ok (.aload_n 0, 1) := by decide +kernel
theorem d_R_write_102 : decode c_R_write 102 = .ok (.iload_n 1, 1) := by decide +kernel
theorem d_R_write_103 : decode c_R_write 103 = .ok (.iload_n 2, 1) := by decide +kernel
theorem d_R_write_104 : decode c_R_write 104 = .ok (.iload_n 3, 1) := by decide +kernel
theorem d_R_write_105 : decode c_R_write 105 = .ok (.invokevirtual 191, 3) := by decide +kernel
theorem d_R_write_108 : decode c_R_write 108 = .ok (.aload_n 0, 1) := by decide +kernel
theorem d_R_write_109 : decode c_R_write 109 = .ok (.getfield 114, 3) := by decide +kernel
theorem d_R_write_112 : decode c_R_write 112 = .ok (.istore 4, 2) := by decide +kernel
theorem d_R_write_114 : decode c_R_write 114 = .ok (.aload_n 0, 1) := by decide +kernel
theorem d_R_write_115 : decode c_R_write 115 = .ok (.iconst 1, 1) := by decide +kernel
theorem d_R_write_116 : decode c_R_write 116 = .ok (.invokevirtual 195, 3) := by decide +kernel
theorem d_R_write_119 : decode c_R_write 119 = .ok (.iload 4, 2) := by decide +kernel
theorem d_R_write_121 : decode c_R_write 121 = .ok (.ireturn, 1) := by decide +kernel
theorem d_R_put_0 : decode c_R_put 0 = .ok (.aload_n 0, 1) := by decide +kernel
theorem d_R_put_1 : decode c_R_put 1 = .ok (.iload_n 1, 1) := by decide +kernel
theorem d_R_put_2 : decode c_R_put 2 = .ok (.iload_n 2, 1) := by decide +kernel
theorem d_R_put_3 : decode c_R_put 3 = .ok (.iconst 0, 1) := by decide +kernel
theorem d_R_put_4 : decode c_R_put 4 = .ok (.invokevirtual 198, 3) := by decide +kernel
theorem d_R_put_7 : decode c_R_put 7 = .ok (.ireturn, 1) := by decide +kernel
theorem d_R_remove_0 : decode c_R_remove 0 = .ok (.aload_n 0, 1) := by decide +kernel
theorem d_R_remove_1 : decode c_R_remove 1 = .ok (.iload_n 1, 1) := by decide +kernel
theorem d_R_remove_2 : decode c_R_remove 2 = .ok (.iconst 0, 1) := by decide +kernel
theorem d_R_remove_3 : decode c_R_remove 3 = .ok (.iconst 1, 1) := by decide +kernel
theorem d_R_remove_4 : decode c_R_remove 4 = .ok (.invokevirtual 198, 3) := by decide +kernel
theorem d_R_remove_7 : decode c_R_remove 7 = .ok (.ireturn, 1) := by decide +kernel
theorem d_R_open_0 : decode c_R_open 0 = .ok (.aload_n 0, 1) := by decide +kernel
theorem d_R_open_1 : decode c_R_open 1 = .ok (.iconst 0, 1) := by decide +kernel
theorem d_R_open_2 : decode c_R_open 2 = .ok (.putfield 85, 3) := by decide +kernel
theorem d_R_open_5 : decode c_R_open 5 = .ok (.aload_n 0, 1) := by decide +kernel
theorem d_R_open_6 : decode c_R_open 6 = .ok (.getfield 60, 3) := by decide +kernel
theorem d_R_open_9 : decode c_R_open 9 = .ok (.ifCond .lt 9, 3) := by decide +kernel
theorem d_R_open_12 : decode c_R_open 12 = .ok (.aload_n 0, 1) := by decide +kernel
theorem d_R_open_13 : decode c_R_open 13 = .ok (.iconst 1, 1) := by decide +kernel
theorem d_R_open_14 : decode c_R_open 14 = .ok (.invokevirtual 185, 3) := by decide +kernel
theorem d_R_open_17 : decode c_R_open 17 = .ok (.ireturn, 1) := by decide +kernel
theorem d_R_open_18 : decode c_R_open 18 = .ok (.aload_n 0, 1) := by decide +kernel
theorem d_R_open_19 : decode c_R_open 19 = .ok (.iconst 0, 1) := by decide +kernel
theorem d_R_open_20 : decode c_R_open 20 = .ok (.putfield 60, 3) := by decide +kernel
theorem d_R_open_23 : decode c_R_open 23 = .ok (.aload_n 0, 1) := by decide +kernel
theorem d_R_open_24 : decode c_R_open 24 = .ok (.getfield 114, 3) := by decide +kernel
theorem d_R_open_27 : decode c_R_open 27 = .ok (.ireturn, 1) := by decide +kernel
theorem d_R_close_0 : decode c_R_close 0 = .ok (.aload_n 0, 1) := by decide +kernel
theorem d_R_close_1 : decode c_R_close 1 = .ok (.iconst 0, 1) := by decide +kernel
theorem d_R_close_2 : decode c_R_close 2 = .ok (.putfield 85, 3) := by decide +kernel
theorem d_R_close_5 : decode c_R_close 5 = .ok (.aload_n 0, 1) := by decide +kernel
theorem d_R_close_6 : decode c_R_close 6 = .ok (.getfield 60, 3) := by decide +kernel
theorem d_R_close_9 : decode c_R_close 9 = .ok (.ifCond .ge 9, 3) := by decide +kernel
theorem d_R_close_12 : decode c_R_close 12 = .ok (.aload_n 0, 1) := by decide +kernel
theorem d_R_close_13 : decode c_R_close 13 = .ok (.iconst 2, 1) := by decide +kernel
theorem d_R_close_14 : decode c_R_close 14 = .ok (.invokevirtual 185, 3) := by decide +kernel
theorem d_R_close_17 : decode c_R_close 17 = .ok (.ireturn, 1) := by decide +kernel
theorem d_R_close_18 : decode c_R_close 18 = .ok (.iload_n 1, 1) := by decide +kernel
theorem d_R_close_19 : decode c_R_close 19 = .ok (.ifCond .eq 73, 3) := by decide +kernel
theorem d_R_close_22 : decode c_R_close 22 = .ok (.aload_n 0, 1) := by decide +kernel
theorem d_R_close_23 : decode c_R_close 23 = .ok (.getfield 60, 3) := by decide +kernel
theorem d_R_close_26 : decode c_R_close 26 = .ok (.ifCond .le 66, 3) := by decide +kernel
theorem d_R_close_29 : decode c_R_close 29 = .ok (.aload_n 0, 1) := by decide +kernel
theorem d_R_close_30 : decode c_R_close 30 = .ok (.aload_n 0, 1) := by decide +kernel
theorem d_R_close_31 : decode c_R_close 31 = .ok (.getfield 60, 3) := by decide +kernel
theorem d_R_close_34 : decode c_R_close 34 = .ok (.invokevirtual 188, 3) := by decide +kernel
theorem d_R_close_37 : decode c_R_close 37 = .ok (.ifCond .eq 9, 3) := by decide +kernel
theorem d_R_close_40 : decode c_R_close 40 = .ok (.aload_n 0, 1) := by decide +kernel
theorem d_R_close_41 : decode c_R_close 41 = .ok (.iconst 1, 1) := by decide +kernel
theorem d_R_close_42 : decode c_R_close 42 = .ok (.invokevirtual 185, 3) := by decide +kernel
theorem d_R_close_45 : decode c_R_close 45 = .ok (.ireturn, 1) := by decide +kernel
theorem d_R_close_46 : decode c_R_close 46 = .ok (.iconst 0, 1) := by decide +kernel
theorem d_R_close_47 : decode c_R_close 47 = .ok (.istore_n 2, 1) := by decide +kernel
theorem d_R_close_48 : decode c_R_close 48 = .ok (.iload_n 2, 1) := by decide +kernel
theorem d_R_close_49 : decode c_R_close 49 = .ok (.aload_n 0, 1) := by decide +kernel
theorem d_R_close_50 : decode c_R_close 50 = .ok (.getfield 60, 3) := by decide +kernel
theorem d_R_close_53 : decode c_R_close 53 = .ok (.if_icmp .ge 31, 3) := by decide +kernel
theorem d_R_close_56 : decode c_R_close 56 = .ok (.aload_n 0, 1) := by decide +kernel
theorem d_R_close_57 : decode c_R_close 57 = .ok (.aload_n 0, 1) := by decide +kernel
theorem d_R_close_58 : decode c_R_close 58 = .ok (.getfield 51, 3) := by decide +kernel
theorem d_R_close_61 : decode c_R_close 61 = .ok (.iload_n 2, 1) := by decide +kernel
theorem d_R_close_62 : decode c_R_close 62 = .ok (.iaload, 1) := by decide +kernel
theorem d_R_close_63 : decode c_R_close 63 = .ok (.aload_n 0, 1) := by decide +kernel
theorem d_R_close_64 : decode c_R_close 64 = .ok (.getfield 54, 3) := by decide +kernel
theorem d_R_close_67 : decode c_R_close 67 = .ok (.iload_n 2, 1) := by decide +kernel
theorem d_R_close_68 : decode c_R_close 68 = .ok (.iaload, 1) := by decide +kernel
theorem d_R_close_69 : decode c_R_close 69 = .ok (.aload_n 0, 1) := by decide +kernel
theorem d_R_close_70 : decode c_R_close 70 = .ok (.getfield 57, 3) := by decide +kernel
theorem d_R_close_73 : decode c_R_close 73 = .ok (.iload_n 2, 1) := by decide +kernel
theorem d_R_close_74 : decode c_R_close 74 = .ok (.baload, 1) := by decide +kernel
theorem d_R_close_75 : decode c_R_close 75 = .ok (.invokevirtual 191, 3) := by decide +kernel
theorem d_R_close_78 : decode c_R_close 78 = .ok (.iinc 2 1, 3) := by decide +kernel
theorem d_R_close_81 : decode c_R_close 81 = .ok (.goto (-33), 3) := by decide +kernel
theorem d_R_close_84 : decode c_R_close 84 = .ok (.aload_n 0, 1) := by decide +kernel
theorem d_R_close_85 : decode c_R_close 85 = .ok (.aload_n 0, 1) := by decide +kernel
theorem d_R_close_86 : decode c_R_close 86 = .ok (.getfield 60, 3) := by decide +kernel
theorem d_R_close_89 : decode c_R_close 89 = .ok (.invokevirtual 195, 3) := by decide +kernel
theorem d_R_close_92 : decode c_R_close 92 = .ok (.aload_n 0, 1) := by decide +kernel
theorem d_R_close_93 : decode c_R_close 93 = .ok (.iconst (-1), 1) := by decide +kernel
theorem d_R_close_94 : decode c_R_close 94 = .ok (.putfield 60, 3) := by decide +kernel
theorem d_R_close_97 : decode c_R_close 97 = .ok (.aload_n 0, 1) := by decide +kernel
theorem d_R_close_98 : decode c_R_close 98 = .ok (.getfield 114, 3) := by decide +kernel
theorem d_R_close_101 : decode c_R_close 101 = .ok (.ireturn, 1) := by decide +kernel
theorem d_R_sync_0 : decode c_R_sync 0 = .ok (.aload_n 0, 1) := by decide +kernel
theorem d_R_sync_1 : decode c_R_sync 1 = .ok (.iconst 0, 1) := by decide +kernel
theorem d_R_sync_2 : decode c_R_sync 2 = .ok (.putfield 85, 3) := by decide +kernel
theorem d_R_sync_5 : decode c_R_sync 5 = .ok (.aload_n 0, 1) := by decide +kernel
theorem d_R_sync_6 : decode c_R_sync 6 = .ok (.aload_n 0, 1) := by decide +kernel
theorem d_R_sync_7 : decode c_R_sync 7 = .ok (.getfield 169, 3) := by decide +kernel
theorem d_R_sync_10 : decode c_R_sync 10 = .ok (.putfield 172, 3) := by decide +kernel
theorem d_R_sync_13 : decode c_R_sync 13 = .ok (.aload_n 0, 1) := by decide +kernel
theorem d_R_sync_14 : decode c_R_sync 14 = .ok (.getfield 169, 3) := by decide +kernel
theorem d_R_sync_17 : decode c_R_sync 17 = .ok (.ireturn, 1) := by decide +kernel
theorem d_R_crash_0 : decode c_R_crash 0 = .ok (.aload_n 0, 1) := by decide +kernel
theorem d_R_crash_1 : decode c_R_crash 1 = .ok (.iconst 0, 1) := by decide +kernel
theorem d_R_crash_2 : decode c_R_crash 2 = .ok (.putfield 85, 3) := by decide +kernel
theorem d_R_crash_5 : decode c_R_crash 5 = .ok (.iload_n 1, 1) := by decide +kernel
theorem d_R_crash_6 : decode c_R_crash 6 = .ok (.iconst 0, 1) := by decide +kernel
theorem d_R_crash_7 : decode c_R_crash 7 = .ok (.bipush 100, 2) := by decide +kernel
theorem d_R_crash_9 : decode c_R_crash 9 = .ok (.invokestatic 181, 3) := by decide +kernel
theorem d_R_crash_12 : decode c_R_crash 12 = .ok (.ifCond .ne 9, 3) := by decide +kernel
theorem d_R_crash_15 : decode c_R_crash 15 = .ok (.aload_n 0, 1) := by decide +kernel
theorem d_R_crash_16 : decode c_R_crash 16 = .ok (.iconst 1, 1) := by decide +kernel
theorem d_R_crash_17 : decode c_R_crash 17 = .ok (.invokevirtual 185, 3) := by decide +kernel
theorem d_R_crash_20 : decode c_R_crash 20 = .ok (.ireturn, 1) := by decide +kernel
theorem d_R_crash_21 : decode c_R_crash 21 = .ok (.aload_n 0, 1) := by decide +kernel
theorem d_R_crash_22 : decode c_R_crash 22 = .ok (.iconst (-1), 1) := by decide +kernel
theorem d_R_crash_23 : decode c_R_crash 23 = .ok (.putfield 60, 3) := by decide +kernel
theorem d_R_crash_26 : decode c_R_crash 26 = .ok (.iconst 0, 1) := by decide +kernel
theorem d_R_crash_27 : decode c_R_crash 27 = .ok (.istore_n 2, 1) := by decide +kernel
theorem d_R_crash_28 : decode c_R_crash 28 = .ok (.iload_n 2, 1) := by decide +kernel
theorem d_R_crash_29 : decode c_R_crash 29 = .ok (.iconst 4, 1) := by decide +kernel
theorem d_R_crash_30 : decode c_R_crash 30 = .ok (.if_icmp .ge 16, 3) := by decide +kernel
theorem d_R_crash_33 : decode c_R_crash 33 = .ok (.aload_n 0, 1) := by decide +kernel
theorem d_R_crash_34 : decode c_R_crash 34 = .ok (.getfield 64, 3) := by decide +kernel
theorem d_R_crash_37 : decode c_R_crash 37 = .ok (.iload_n 2, 1) := by decide +kernel
theorem d_R_crash_38 : decode c_R_crash 38 = .ok (.iconst (-1), 1) := by decide +kernel
theorem d_R_crash_39 : decode c_R_crash 39 = .ok (.iastore, 1) := by decide +kernel
theorem d_R_crash_40 : decode c_R_crash 40 = .ok (.iinc 2 1, 3) := by decide +kernel
theorem d_R_crash_43 : decode c_R_crash 43 = .ok (.goto (-15), 3) := by decide +kernel
theorem d_R_crash_46 : decode c_R_crash 46 = .ok (.aload_n 0, 1) := by decide +kernel
theorem d_R_crash_47 : decode c_R_crash 47 = .ok (.getfield 172, 3) := by decide +kernel
theorem d_R_crash_50 : decode c_R_crash 50 = .ok (.iload_n 1, 1) := by decide +kernel
theorem d_R_crash_51 : decode c_R_crash 51 = .ok (.iadd, 1) := by decide +kernel
theorem d_R_crash_52 : decode c_R_crash 52 = .ok (.aload_n 0, 1) := by decide +kernel
theorem d_R_crash_53 : decode c_R_crash 53 = .ok (.getfield 169, 3) := by decide +kernel
theorem d_R_crash_56 : decode c_R_crash 56 = .ok (.if_icmp .ge 13, 3) := by decide +kernel
theorem d_R_crash_59 : decode c_R_crash 59 = .ok (.aload_n 0, 1) := by decide +kernel
theorem d_R_crash_60 : decode c_R_crash 60 = .ok (.aload_n 0, 1) := by decide +kernel
theorem d_R_crash_61 : decode c_R_crash 61 = .ok (.getfield 172, 3) := by decide +kernel
theorem d_R_crash_64 : decode c_R_crash 64 = .ok (.iload_n 1, 1) := by decide +kernel
theorem d_R_crash_65 : decode c_R_crash 65 = .ok (.iadd, 1) := by decide +kernel
theorem d_R_crash_66 : decode c_R_crash 66 = .ok (.putfield 169, 3) := by decide +kernel
theorem d_R_crash_69 : decode c_R_crash 69 = .ok (.aload_n 0, 1) := by decide +kernel
theorem d_R_crash_70 : decode c_R_crash 70 = .ok (.aload_n 0, 1) := by decide +kernel
theorem d_R_crash_71 : decode c_R_crash 71 = .ok (.getfield 169, 3) := by decide +kernel
theorem d_R_crash_74 : decode c_R_crash 74 = .ok (.putfield 172, 3) := by decide +kernel
theorem d_R_crash_77 : decode c_R_crash 77 = .ok (.aload_n 0, 1) := by decide +kernel
theorem d_R_crash_78 : decode c_R_crash 78 = .ok (.iconst 0, 1) := by decide +kernel
theorem d_R_crash_79 : decode c_R_crash 79 = .ok (.putfield 166, 3) := by decide +kernel
theorem d_R_crash_82 : decode c_R_crash 82 = .ok (.iconst 0, 1) := by decide +kernel
theorem d_R_crash_83 : decode c_R_crash 83 = .ok (.istore_n 2, 1) := by decide +kernel
theorem d_R_crash_84 : decode c_R_crash 84 = .ok (.iload_n 2, 1) := by decide +kernel
theorem d_R_crash_85 : decode c_R_crash 85 = .ok (.aload_n 0, 1) := by decide +kernel
theorem d_R_crash_86 : decode c_R_crash 86 = .ok (.getfield 169, 3) := by decide +kernel
theorem d_R_crash_89 : decode c_R_crash 89 = .ok (.if_icmp .ge 24, 3) := by decide +kernel
theorem d_R_crash_92 : decode c_R_crash 92 = .ok (.aload_n 0, 1) := by decide +kernel
theorem d_R_crash_93 : decode c_R_crash 93 = .ok (.dup, 1) := by decide +kernel
theorem d_R_crash_94 : decode c_R_crash 94 = .ok (.getfield 166, 3) := by decide +kernel
theorem d_R_crash_97 : decode c_R_crash 97 = .ok (.aload_n 0, 1) := by decide +kernel
theorem d_R_crash_98 : decode c_R_crash 98 = .ok (.getfield 48, 3) := by decide +kernel
theorem d_R_crash_101 : decode c_R_crash 101 = .ok (.iload_n 2, 1) := by decide +kernel
theorem d_R_crash_102 : decode c_R_crash 102 = .ok (.iaload, 1) := by decide +kernel
theorem d_R_crash_103 : decode c_R_crash 103 = .ok (.iadd, 1) := by decide +kernel
theorem d_R_crash_104 : decode c_R_crash 104 = .ok (.putfield 166, 3) := by decide +kernel
theorem d_R_crash_107 : decode c_R_crash 107 = .ok (.iinc 2 1, 3) := by decide +kernel
theorem d_R_crash_110 : decode c_R_crash 110 = .ok (.goto (-26), 3) := by decide +kernel
theorem d_R_crash_113 : decode c_R_crash 113 = .ok (.aload_n 0, 1) := by decide +kernel
theorem d_R_crash_114 : decode c_R_crash 114 = .ok (.iconst 0, 1) := by decide +kernel
theorem d_R_crash_115 : decode c_R_crash 115 = .ok (.putfield 114, 3) := by decide +kernel
theorem d_R_crash_118 : decode c_R_crash 118 = .ok (.iconst 0, 1) := by decide +kernel
theorem d_R_crash_119 : decode c_R_crash 119 = .ok (.istore_n 2, 1) := by decide +kernel
theorem d_R_crash_120 : decode c_R_crash 120 = .ok (.iload_n 2, 1) := by decide +kernel
theorem d_R_crash_121 : decode c_R_crash 121 = .ok (.aload_n 0, 1) := by decide +kernel
theorem d_R_crash_122 : decode c_R_crash 122 = .ok (.getfield 166, 3) := by decide +kernel
theorem d_R_crash_125 : decode c_R_crash 125 = .ok (.if_icmp .ge 32, 3) := by decide +kernel
theorem d_R_crash_128 : decode c_R_crash 128 = .ok (.aload_n 0, 1) := by decide +kernel
theorem d_R_crash_129 : decode c_R_crash 129 = .ok (.getfield 39, 3) := by decide +kernel
theorem d_R_crash_132 : decode c_R_crash 132 = .ok (.iload_n 2, 1) := by decide +kernel
theorem d_R_crash_133 : decode c_R_crash 133 = .ok (.iaload, 1) := by decide +kernel
theorem d_R_crash_134 : decode c_R_crash 134 = .ok (.aload_n 0, 1) := by decide +kernel
theorem d_R_crash_135 : decode c_R_crash 135 = .ok (.getfield 114, 3) := by decide +kernel
theorem d_R_crash_138 : decode c_R_crash 138 = .ok (.if_icmp .le 13, 3) := by decide +kernel
theorem d_R_crash_141 : decode c_R_crash 141 = .ok (.aload_n 0, 1) := by decide +kernel
theorem d_R_crash_142 : decode c_R_crash 142 = .ok (.aload_n 0, 1) := by decide +kernel
theorem d_R_crash_143 : decode c_R_crash 143 = .ok (.getfield 39, 3) := by decide +kernel
theorem d_R_crash_146 : decode c_R_crash 146 = .ok (.iload_n 2, 1) := by decide +kernel
theorem d_R_crash_147 : decode c_R_crash 147 = .ok (.iaload, 1) := by decide +kernel
theorem d_R_crash_148 : decode c_R_crash 148 = .ok (.putfield 114, 3) := by decide +kernel
theorem d_R_crash_151 : decode c_R_crash 151 = .ok (.iinc 2 1, 3) := by decide +kernel
theorem d_R_crash_154 : decode c_R_crash 154 = .ok (.goto (-34), 3) := by decide +kernel
theorem d_R_crash_157 : decode c_R_crash 157 = .ok (.iconst 0, 1) := by decide +kernel
theorem d_R_crash_158 : decode c_R_crash 158 = .ok (.istore_n 2, 1) := by decide +kernel
theorem d_R_crash_159 : decode c_R_crash 159 = .ok (.iload_n 2, 1) := by decide +kernel
theorem d_R_crash_160 : decode c_R_crash 160 = .ok (.aload_n 0, 1) := by decide +kernel
theorem d_R_crash_161 : decode c_R_crash 161 = .ok (.getfield 95, 3) := by decide +kernel
theorem d_R_crash_164 : decode c_R_crash 164 = .ok (.if_icmp .ge 32, 3) := by decide +kernel
theorem d_R_crash_167 : decode c_R_crash 167 = .ok (.aload_n 0, 1) := by decide +kernel
theorem d_R_crash_168 : decode c_R_crash 168 = .ok (.getfield 13, 3) := by decide +kernel
theorem d_R_crash_171 : decode c_R_crash 171 = .ok (.iload_n 2, 1) := by decide +kernel
theorem d_R_crash_172 : decode c_R_crash 172 = .ok (.iaload, 1) := by decide +kernel
theorem d_R_crash_173 : decode c_R_crash 173 = .ok (.aload_n 0, 1) := by decide +kernel
theorem d_R_crash_174 : decode c_R_crash 174 = .ok (.getfield 114, 3) := by decide +kernel
theorem d_R_crash_177 : decode c_R_crash 177 = .ok (.if_icmp .le 13, 3) := by decide +kernel
theorem d_R_crash_180 : decode c_R_crash 180 = .ok (.aload_n 0, 1) := by decide +kernel
theorem d_R_crash_181 : decode c_R_crash 181 = .ok (.aload_n 0, 1) := by decide +kernel
theorem d_R_crash_182 : decode c_R_crash 182 = .ok (.getfield 13, 3) := by decide +kernel
theorem d_R_crash_185 : decode c_R_crash 185 = .ok (.iload_n 2, 1) := by decide +kernel
theorem d_R_crash_186 : decode c_R_crash 186 = .ok (.iaload, 1) := by decide +kernel
theorem d_R_crash_187 : decode c_R_crash 187 = .ok (.putfield 114, 3) := by decide +kernel
theorem d_R_crash_190 : decode c_R_crash 190 = .ok (.iinc 2 1, 3) := by decide +kernel
theorem d_R_crash_193 : decode c_R_crash 193 = .ok (.goto (-34), 3) := by decide +kernel
theorem d_R_crash_196 : decode c_R_crash 196 = .ok (.aload_n 0, 1) := by decide +kernel
theorem d_R_crash_197 : decode c_R_crash 197 = .ok (.getfield 169, 3) := by decide +kernel
theorem d_R_crash_200 : decode c_R_crash 200 = .ok (.ireturn, 1) := by decide +kernel
theorem d_R_flush_0 : decode c_R_flush 0 = .ok (.aload_n 0, 1) := by decide +kernel
theorem d_R_flush_1 : decode c_R_flush 1 = .ok (.iconst 0, 1) := by decide +kernel
theorem d_R_flush_2 : decode c_R_flush 2 = .ok (.putfield 85, 3) := by decide +kernel
theorem d_R_flush_5 : decode c_R_flush 5 = .ok (.aload_n 0, 1) := by decide +kernel
theorem d_R_flush_6 : decode c_R_flush 6 = .ok (.getfield 166, 3) := by decide +kernel
theorem d_R_flush_9 : decode c_R_flush 9 = .ok (.ifCond .ne 9, 3) := by decide +kernel
theorem d_R_flush_12 : decode c_R_flush 12 = .ok (.aload_n 0, 1) := by decide +kernel
theorem d_R_flush_13 : decode c_R_flush 13 = .ok (.iconst 2, 1) := by decide +kernel
theorem d_R_flush_14 : decode c_R_flush 14 = .ok (.invokevirtual 185, 3) := by decide +kernel
theorem d_R_flush_17 : decode c_R_flush 17 = .ok (.ireturn, 1) := by decide +kernel
theorem d_R_flush_18 : decode c_R_flush 18 = .ok (.aload_n 0, 1) := by decide +kernel
theorem d_R_flush_19 : decode c_R_flush 19 = .ok (.getfield 134, 3) := by decide +kernel
theorem d_R_flush_22 : decode c_R_flush 22 = .ok (.ifCond .eq 19, 3) := by decide +kernel
theorem d_R_flush_25 : decode c_R_flush 25 = .ok (.aload_n 0, 1) := by decide +kernel
theorem d_R_flush_26 : decode c_R_flush 26 = .ok (.iconst 0, 1) := by decide +kernel
theorem d_R_flush_27 : decode c_R_flush 27 = .ok (.invokevirtual 156, 3) := by decide +kernel
theorem d_R_flush_30 : decode c_R_flush 30 = .ok (.bipush 8, 2) := by decide +kernel
theorem d_R_flush_32 : decode c_R_flush 32 = .ok (.if_icmp .ne 9, 3) := by decide +kernel
theorem d_R_flush_35 : decode c_R_flush 35 = .ok (.aload_n 0, 1) := by decide +kernel
theorem d_R_flush_36 : decode c_R_flush 36 = .ok (.iconst 1, 1) := by decide +kernel
theorem d_R_flush_37 : decode c_R_flush 37 = .ok (.invokevirtual 185, 3) := by decide +kernel
theorem d_R_flush_40 : decode c_R_flush 40 = .ok (.ireturn, 1) := by decide +kernel
theorem d_R_flush_41 : decode c_R_flush 41 = .ok (.aload_n 0, 1) := by decide +kernel
theorem d_R_flush_42 : decode c_R_flush 42 = .ok (.invokevirtual 178, 3) := by decide +kernel
theorem d_R_flush_45 : decode c_R_flush 45 = .ok (.aload_n 0, 1) := by decide +kernel
theorem d_R_flush_46 : decode c_R_flush 46 = .ok (.getfield 92, 3) := by decide +kernel
theorem d_R_flush_49 : decode c_R_flush 49 = .ok (.ireturn, 1) := by decide +kernel
theorem d_R_upTo_0 : decode c_R_upTo 0 = .ok (.iload_n 1, 1) := by decide +kernel
theorem d_R_upTo_1 : decode c_R_upTo 1 = .ok (.ifCond .ge 10, 3) := by decide +kernel
theorem d_R_upTo_4 : decode c_R_upTo 4 = .ok (.aload_n 0, 1) := by decide +kernel
theorem d_R_upTo_5 : decode c_R_upTo 5 = .ok (.getfield 114, 3) := by decide +kernel
theorem d_R_upTo_8 : decode c_R_upTo 8 = .ok (.goto 9, 3) := by decide +kernel
theorem d_R_upTo_11 : decode c_R_upTo 11 = .ok (.aload_n 0, 1) := by decide +kernel
theorem d_R_upTo_12 : decode c_R_upTo 12 = .ok (.getfield 64, 3) := by decide +kernel
theorem d_R_upTo_15 : decode c_R_upTo 15 = .ok (.iload_n 1, 1) := by decide +kernel
theorem d_R_upTo_16 : decode c_R_upTo 16 = .ok (.iaload, 1) := by decide +kernel
theorem d_R_upTo_17 : decode c_R_upTo 17 = .ok (.ireturn, 1) := by decide +kernel
theorem d_R_lookInMemory_0 : decode c_R_lookInMemory 0 = .ok (.iconst 0, 1) := by decide +kernel
theorem d_R_lookInMemory_1 : decode c_R_lookInMemory 1 = .ok (.istore_n 3, 1) := by decide +kernel
theorem d_R_lookInMemory_2 : decode c_R_lookInMemory 2 = .ok (.iload_n 3, 1) := by decide +kernel
theorem d_R_lookInMemory_3 : decode c_R_lookInMemory 3 = .ok (.aload_n 0, 1) := by decide +kernel
theorem d_R_lookInMemory_4 : decode c_R_lookInMemory 4 = .ok (.getfield 166, 3) := by decide +kernel
theorem d_R_lookInMemory_7 : decode c_R_lookInMemory 7 = .ok (.if_icmp .ge 38, 3) := by decide +kernel
theorem d_R_lookInMemory_10 : decode c_R_lookInMemory 10 = .ok (.aload_n 0, 1) := by decide +kernel
theorem d_R_lookInMemory_11 : decode c_R_lookInMemory 11 = .ok (.getfield 36, 3) := by decide +kernel
theorem d_R_lookInMemory_14 : decode c_R_lookInMemory 14 = .ok (.iload_n 3, 1) := by decide +kernel
theorem d_R_lookInMemory_15 : decode c_R_lookInMemory 15 = .ok (.iaload, 1) := by decide +kernel
theorem d_R_lookInMemory_16 : decode c_R_lookInMemory 16 = .ok (.iload_n 1, 1) := by decide +kernel
theorem d_R_lookInMemory_17 : decode c_R_lookInMemory 17 = .ok (.if_icmp .ne 22, 3) := by decide +kernel
theorem d_R_lookInMemory_20 : decode c_R_lookInMemory 20 = .ok (.aload_n 0, 1) := by decide +kernel
theorem d_R_lookInMemory_21 : decode c_R_lookInMemory 21 = .ok (.getfield 39, 3) := by decide +kernel
theorem d_R_lookInMemory_24 : decode c_R_lookInMemory 24 = .ok (.iload_n 3, 1) := by decide +kernel
theorem d_R_lookInMemory_25 : decode c_R_lookInMemory 25 = .ok (.iaload, 1) := by decide +kernel
theorem d_R_lookInMemory_26 : decode c_R_lookInMemory 26 = .ok (.iload_n 2, 1) := by decide +kernel
theorem d_R_lookInMemory_27 : decode c_R_lookInMemory 27 = .ok (.if_icmp .gt 12, 3) := by decide +kernel
theorem d_R_lookInMemory_30 : decode c_R_lookInMemory 30 = .ok (.aload_n 0, 1) := by decide +kernel
theorem d_R_lookInMemory_31 : decode c_R_lookInMemory 31 = .ok (.sipush 1000, 3) := by decide +kernel
theorem d_R_lookInMemory_34 : decode c_R_lookInMemory 34 = .ok (.iload_n 3, 1) := by decide +kernel
theorem d_R_lookInMemory_35 : decode c_R_lookInMemory 35 = .ok (.iadd, 1) := by decide +kernel
theorem d_R_lookInMemory_36 : decode c_R_lookInMemory 36 = .ok (.putfield 208, 3) := by decide +kernel
theorem d_R_lookInMemory_39 : decode c_R_lookInMemory 39 = .ok (.iinc 3 1, 3) := by decide +kernel
theorem d_R_lookInMemory_42 : decode c_R_lookInMemory 42 = .ok (.goto (-40), 3) := by decide +kernel
theorem d_R_lookInMemory_45 : decode c_R_lookInMemory 45 = .ok (.return_, 1) := by decide +kernel
theorem d_R_first_0 : decode c_R_first 0 = .ok (.bipush 7, 2) := by decide +kernel
theorem d_R_first_2 : decode c_R_first 2 = .ok (.iload_n 0, 1) := by decide +kernel
theorem d_R_first_3 : decode c_R_first 3 = .ok (.imul, 1) := by decide +kernel
theorem d_R_first_4 : decode c_R_first 4 = .ok (.iconst 3, 1) := by decide +kernel
theorem d_R_first_5 : decode c_R_first 5 = .ok (.iadd, 1) := by decide +kernel
theorem d_R_first_6 : decode c_R_first 6 = .ok (.bipush 16, 2) := by decide +kernel
theorem d_R_first_8 : decode c_R_first 8 = .ok (.irem, 1) := by decide +kernel
theorem d_R_first_9 : decode c_R_first 9 = .ok (.ireturn, 1) := by decide +kernel
theorem d_R_second_0 : decode c_R_second 0 = .ok (.iconst 5, 1) := by decide +kernel
theorem d_R_second_1 : decode c_R_second 1 = .ok (.iload_n 0, 1) := by decide +kernel
theorem d_R_second_2 : decode c_R_second 2 = .ok (.imul, 1) := by decide +kernel
theorem d_R_second_3 : decode c_R_second 3 = .ok (.iconst 1, 1) := by decide +kernel
theorem d_R_second_4 : decode c_R_second 4 = .ok (.iadd, 1) := by decide +kernel
theorem d_R_second_5 : decode c_R_second 5 = .ok (.bipush 16, 2) := by decide +kernel
theorem d_R_second_7 : decode c_R_second 7 = .ok (.irem, 1) := by decide +kernel
theorem d_R_second_8 : decode c_R_second 8 = .ok (.ireturn, 1) := by decide +kernel
theorem d_R_passes_0 : decode c_R_passes 0 = .ok (.iconst 0, 1) := by decide +kernel
theorem d_R_passes_1 : decode c_R_passes 1 = .ok (.istore_n 3, 1) := by decide +kernel
theorem d_R_passes_2 : decode c_R_passes 2 = .ok (.iconst 0, 1) := by decide +kernel
theorem d_R_passes_3 : decode c_R_passes 3 = .ok (.istore 4, 2) := by decide +kernel
theorem d_R_passes_5 : decode c_R_passes 5 = .ok (.aload_n 0, 1) := by decide +kernel
theorem d_R_passes_6 : decode c_R_passes 6 = .ok (.iload_n 1, 1) := by decide +kernel
theorem d_R_passes_7 : decode c_R_passes 7 = .ok (.invokevirtual 88, 3) := by decide +kernel
theorem d_R_passes_10 : decode c_R_passes 10 = .ok (.istore 5, 2) := by decide +kernel
theorem d_R_passes_12 : decode c_R_passes 12 = .ok (.iload 5, 2) := by decide +kernel
theorem d_R_passes_14 : decode c_R_passes 14 = .ok (.istore 6, 2) := by decide +kernel
theorem d_R_passes_16 : decode c_R_passes 16 = .ok (.iload 6, 2) := by decide +kernel
theorem d_R_passes_18 : decode c_R_passes 18 = .ok (.iload 5, 2) := by decide +kernel
theorem d_R_passes_20 : decode c_R_passes 20 = .ok (.aload_n 0, 1) := by decide +kernel
theorem d_R_passes_21 : decode c_R_passes 21 = .ok (.getfield 29, 3) := by decide +kernel
theorem d_R_passes_24 : decode c_R_passes 24 = .ok (.iload_n 1, 1) := by decide +kernel
theorem d_R_passes_25 : decode c_R_passes 25 = .ok (.iaload, 1) := by decide +kernel
theorem d_R_passes_26 : decode c_R_passes 26 = .ok (.iadd, 1) := by decide +kernel
theorem d_R_passes_27 : decode c_R_passes 27 = .ok (.if_icmp .ge 74, 3) := by decide +kernel
theorem d_R_passes_30 : decode c_R_passes 30 = .ok (.aload_n 0, 1) := by decide +kernel
theorem d_R_passes_31 : decode c_R_passes 31 = .ok (.getfield 7, 3) := by decide +kernel
theorem d_R_passes_34 : decode c_R_passes 34 = .ok (.iload 6, 2) := by decide +kernel
theorem d_R_passes_36 : decode c_R_passes 36 = .ok (.iaload, 1) := by decide +kernel
theorem d_R_passes_37 : decode c_R_passes 37 = .ok (.invokestatic 202, 3) := by decide +kernel
theorem d_R_passes_40 : decode c_R_passes 40 = .ok (.istore 7, 2) := by decide +kernel
theorem d_R_passes_42 : decode c_R_passes 42 = .ok (.aload_n 0, 1) := by decide +kernel
theorem d_R_passes_43 : decode c_R_passes 43 = .ok (.getfield 7, 3) := by decide +kernel
theorem d_R_passes_46 : decode c_R_passes 46 = .ok (.iload 6, 2) := by decide +kernel
theorem d_R_passes_48 : decode c_R_passes 48 = .ok (.iaload, 1) := by decide +kernel
theorem d_R_passes_49 : decode c_R_passes 49 = .ok (.invokestatic 205, 3) := by decide +kernel
theorem d_R_passes_52 : decode c_R_passes 52 = .ok (.istore 8, 2) := by decide +kernel
theorem d_R_passes_54 : decode c_R_passes 54 = .ok (.iload 7, 2) := by decide +kernel
theorem d_R_passes_56 : decode c_R_passes 56 = .ok (.iload_n 2, 1) := by decide +kernel
theorem d_R_passes_57 : decode c_R_passes 57 = .ok (.invokestatic 202, 3) := by decide +kernel
theorem d_R_passes_60 : decode c_R_passes 60 = .ok (.if_icmp .eq 12, 3) := by decide +kernel
theorem d_R_passes_63 : decode c_R_passes 63 = .ok (.iload 8, 2) := by decide +kernel
theorem d_R_passes_65 : decode c_R_passes 65 = .ok (.iload_n 2, 1) := by decide +kernel
theorem d_R_passes_66 : decode c_R_passes 66 = .ok (.invokestatic 202, 3) := by decide +kernel
theorem d_R_passes_69 : decode c_R_passes 69 = .ok (.if_icmp .ne 5, 3) := by decide +kernel
theorem d_R_passes_72 : decode c_R_passes 72 = .ok (.iconst 1, 1) := by decide +kernel
theorem d_R_passes_73 : decode c_R_passes 73 = .ok (.istore_n 3, 1) := by decide +kernel
theorem d_R_passes_74 : decode c_R_passes 74 = .ok (.iload 7, 2) := by decide +kernel
theorem d_R_passes_76 : decode c_R_passes 76 = .ok (.iload_n 2, 1) := by decide +kernel
theorem d_R_passes_77 : decode c_R_passes 77 = .ok (.invokestatic 205, 3) := by decide +kernel
theorem d_R_passes_80 : decode c_R_passes 80 = .ok (.if_icmp .eq 12, 3) := by decide +kernel
theorem d_R_passes_83 : decode c_R_passes 83 = .ok (.iload 8, 2) := by decide +kernel
theorem d_R_passes_85 : decode c_R_passes 85 = .ok (.iload_n 2, 1) := by decide +kernel
theorem d_R_passes_86 : decode c_R_passes 86 = .ok (.invokestatic 205, 3) := by decide +kernel
theorem d_R_passes_89 : decode c_R_passes 89 = .ok (.if_icmp .ne 6, 3) := by decide +kernel
theorem d_R_passes_92 : decode c_R_passes 92 = .ok (.iconst 1, 1) := by decide +kernel
theorem d_R_passes_93 : decode c_R_passes 93 = .ok (.istore 4, 2) := by decide +kernel
theorem d_R_passes_95 : decode c_R_passes 95 = .ok (.iinc 6 1, 3) := by decide +kernel
theorem d_R_passes_98 : decode c_R_passes 98 = .ok (.goto (-82), 3) := by decide +kernel
theorem d_R_passes_101 : decode c_R_passes 101 = .ok (.iload_n 3, 1) := by decide +kernel
theorem d_R_passes_102 : decode c_R_passes 102 = .ok (.ifCond .eq 12, 3) := by decide +kernel
theorem d_R_passes_105 : decode c_R_passes 105 = .ok (.iload 4, 2) := by decide +kernel
theorem d_R_passes_107 : decode c_R_passes 107 = .ok (.ifCond .eq 7, 3) := by decide +kernel
theorem d_R_passes_110 : decode c_R_passes 110 = .ok (.iconst 1, 1) := by decide +kernel
theorem d_R_passes_111 : decode c_R_passes 111 = .ok (.goto 4, 3) := by decide +kernel
theorem d_R_passes_114 : decode c_R_passes 114 = .ok (.iconst 0, 1) := by decide +kernel
theorem d_R_passes_115 : decode c_R_passes 115 = .ok (.ireturn, 1) := by decide +kernel
theorem d_R_readBlocks_0 : decode c_R_readBlocks 0 = .ok (.aload_n 0, 1) := by decide +kernel
theorem d_R_readBlocks_1 : decode c_R_readBlocks 1 = .ok (.iload_n 1, 1) := by decide +kernel
theorem d_R_readBlocks_2 : decode c_R_readBlocks 2 = .ok (.invokevirtual 88, 3) := by decide +kernel
theorem d_R_readBlocks_5 : decode c_R_readBlocks 5 = .ok (.istore 4, 2) := by decide +kernel
theorem d_R_readBlocks_7 : decode c_R_readBlocks 7 = .ok (.iload 4, 2) := by decide +kernel
theorem d_R_readBlocks_9 : decode c_R_readBlocks 9 = .ok (.aload_n 0, 1) := by decide +kernel
theorem d_R_readBlocks_10 : decode c_R_readBlocks 10 = .ok (.getfield 29, 3) := by decide +kernel
theorem d_R_readBlocks_13 : decode c_R_readBlocks 13 = .ok (.iload_n 1, 1) := by decide +kernel
theorem d_R_readBlocks_14 : decode c_R_readBlocks 14 = .ok (.iaload, 1) := by decide +kernel
theorem d_R_readBlocks_15 : decode c_R_readBlocks 15 = .ok (.iadd, 1) := by decide +kernel
theorem d_R_readBlocks_16 : decode c_R_readBlocks 16 = .ok (.istore 5, 2) := by decide +kernel
theorem d_R_readBlocks_18 : decode c_R_readBlocks 18 = .ok (.iload 4, 2) := by decide +kernel
theorem d_R_readBlocks_20 : decode c_R_readBlocks 20 = .ok (.istore 6, 2) := by decide +kernel
theorem d_R_readBlocks_22 : decode c_R_readBlocks 22 = .ok (.iload 6, 2) := by decide +kernel
theorem d_R_readBlocks_24 : decode c_R_readBlocks 24 = .ok (.iload 5, 2) := by decide +kernel
theorem d_R_readBlocks_26 : decode c_R_readBlocks 26 = .ok (.if_icmp .ge 134, 3) := by decide +kernel
theorem d_R_readBlocks_29 : decode c_R_readBlocks 29 = .ok (.iload 6, 2) := by decide +kernel
theorem d_R_readBlocks_31 : decode c_R_readBlocks 31 = .ok (.iconst 3, 1) := by decide +kernel
theorem d_R_readBlocks_32 : decode c_R_readBlocks 32 = .ok (.iadd, 1) := by decide +kernel
theorem d_R_readBlocks_33 : decode c_R_readBlocks 33 = .ok (.iload 5, 2) := by decide +kernel
theorem d_R_readBlocks_35 : decode c_R_readBlocks 35 = .ok (.if_icmp .ge 10, 3) := by decide +kernel
theorem d_R_readBlocks_38 : decode c_R_readBlocks 38 = .ok (.iload 6, 2) := by decide +kernel
theorem d_R_readBlocks_40 : decode c_R_readBlocks 40 = .ok (.iconst 3, 1) := by decide +kernel
theorem d_R_readBlocks_41 : decode c_R_readBlocks 41 = .ok (.iadd, 1) := by decide +kernel
theorem d_R_readBlocks_42 : decode c_R_readBlocks 42 = .ok (.goto 7, 3) := by decide +kernel
theorem d_R_readBlocks_45 : decode c_R_readBlocks 45 = .ok (.iload 5, 2) := by decide +kernel
theorem d_R_readBlocks_47 : decode c_R_readBlocks 47 = .ok (.iconst 1, 1) := by decide +kernel
theorem d_R_readBlocks_48 : decode c_R_readBlocks 48 = .ok (.isub, 1) := by decide +kernel
theorem d_R_readBlocks_49 : decode c_R_readBlocks 49 = .ok (.istore 7, 2) := by decide +kernel
theorem d_R_readBlocks_51 : decode c_R_readBlocks 51 = .ok (.aload_n 0, 1) := by decide +kernel
theorem d_R_readBlocks_52 : decode c_R_readBlocks 52 = .ok (.getfield 7, 3) := by decide +kernel
theorem d_R_readBlocks_55 : decode c_R_readBlocks 55 = .ok (.iload 7, 2) := by decide +kernel
theorem d_R_readBlocks_57 : decode c_R_readBlocks 57 = .ok (.iaload, 1) := by decide +kernel
theorem d_R_readBlocks_58 : decode c_R_readBlocks 58 = .ok (.iload_n 2, 1) := by decide +kernel
theorem d_R_readBlocks_59 : decode c_R_readBlocks 59 = .ok (.if_icmp .ge 6, 3) := by decide +kernel
end
section
/-! DECODED INSTRUCTIONS -/
theorem d_R_readBlocks_62 : decode c_R_readBlocks 62 = .ok (.goto 92, 3) := by decide +kernel
theorem d_R_readBlocks_65 : decode c_R_readBlocks 65 = .ok (.aload_n 0, 1) := by decide +kernel
theorem d_R_readBlocks_66 : decode c_R_readBlocks 66 = .ok (.dup, 1) := by decide +kernel
theorem d_R_readBlocks_67 : decode c_R_readBlocks 67 = .ok (.getfield 211, 3) := by decide +kernel
theorem d_R_readBlocks_70 : decode c_R_readBlocks 70 = .ok (.iconst 1, 1) := by decide +kernel
theorem d_R_readBlocks_71 : decode c_R_readBlocks 71 = .ok (.iadd, 1) := by decide +kernel
theorem d_R_readBlocks_72 : decode c_R_readBlocks 72 = .ok (.putfield 211, 3) := by decide +kernel
theorem d_R_readBlocks_75 : decode c_R_readBlocks 75 = .ok (.aload_n 0, 1) := by decide +kernel
theorem d_R_readBlocks_76 : decode c_R_readBlocks 76 = .ok (.getfield 32, 3) := by decide +kernel
theorem d_R_readBlocks_79 : decode c_R_readBlocks 79 = .ok (.iload_n 1, 1) := by decide +kernel
theorem d_R_readBlocks_80 : decode c_R_readBlocks 80 = .ok (.laload, 1) := by decide +kernel
theorem d_R_readBlocks_81 : decode c_R_readBlocks 81 = .ok (.iload 6, 2) := by decide +kernel
theorem d_R_readBlocks_83 : decode c_R_readBlocks 83 = .ok (.iload 4, 2) := by decide +kernel
theorem d_R_readBlocks_85 : decode c_R_readBlocks 85 = .ok (.isub, 1) := by decide +kernel
theorem d_R_readBlocks_86 : decode c_R_readBlocks 86 = .ok (.iconst 4, 1) := by decide +kernel
theorem d_R_readBlocks_87 : decode c_R_readBlocks 87 = .ok (.idiv, 1) := by decide +kernel
theorem d_R_readBlocks_88 : decode c_R_readBlocks 88 = .ok (.lshr, 1) := by decide +kernel
theorem d_R_readBlocks_89 : decode c_R_readBlocks 89 = .ok (.lconst 1, 1) := by decide +kernel
theorem d_R_readBlocks_90 : decode c_R_readBlocks 90 = .ok (.land, 1) := by decide +kernel
theorem d_R_readBlocks_91 : decode c_R_readBlocks 91 = .ok (.lconst 0, 1) := by decide +kernel
theorem d_R_readBlocks_92 : decode c_R_readBlocks 92 = .ok (.lcmp, 1) := by decide +kernel
theorem d_R_readBlocks_93 : decode c_R_readBlocks 93 = .ok (.ifCond .eq 6, 3) := by decide +kernel
theorem d_R_readBlocks_96 : decode c_R_readBlocks 96 = .ok (.bipush (-2), 2) := by decide +kernel
theorem d_R_readBlocks_98 : decode c_R_readBlocks 98 = .ok (.ireturn, 1) := by decide +kernel
theorem d_R_readBlocks_99 : decode c_R_readBlocks 99 = .ok (.iload 6, 2) := by decide +kernel
theorem d_R_readBlocks_101 : decode c_R_readBlocks 101 = .ok (.istore 8, 2) := by decide +kernel
theorem d_R_readBlocks_103 : decode c_R_readBlocks 103 = .ok (.iload 8, 2) := by decide +kernel
theorem d_R_readBlocks_105 : decode c_R_readBlocks 105 = .ok (.iload 7, 2) := by decide +kernel
theorem d_R_readBlocks_107 : decode c_R_readBlocks 107 = .ok (.if_icmp .gt 34, 3) := by decide +kernel
theorem d_R_readBlocks_110 : decode c_R_readBlocks 110 = .ok (.aload_n 0, 1) := by decide +kernel
theorem d_R_readBlocks_111 : decode c_R_readBlocks 111 = .ok (.getfield 7, 3) := by decide +kernel
theorem d_R_readBlocks_114 : decode c_R_readBlocks 114 = .ok (.iload 8, 2) := by decide +kernel
theorem d_R_readBlocks_116 : decode c_R_readBlocks 116 = .ok (.iaload, 1) := by decide +kernel
theorem d_R_readBlocks_117 : decode c_R_readBlocks 117 = .ok (.iload_n 2, 1) := by decide +kernel
theorem d_R_readBlocks_118 : decode c_R_readBlocks 118 = .ok (.if_icmp .ne 17, 3) := by decide +kernel
theorem d_R_readBlocks_121 : decode c_R_readBlocks 121 = .ok (.aload_n 0, 1) := by decide +kernel
theorem d_R_readBlocks_122 : decode c_R_readBlocks 122 = .ok (.getfield 13, 3) := by decide +kernel
theorem d_R_readBlocks_125 : decode c_R_readBlocks 125 = .ok (.iload 8, 2) := by decide +kernel
theorem d_R_readBlocks_127 : decode c_R_readBlocks 127 = .ok (.iaload, 1) := by decide +kernel
theorem d_R_readBlocks_128 : decode c_R_readBlocks 128 = .ok (.iload_n 3, 1) := by decide +kernel
theorem d_R_readBlocks_129 : decode c_R_readBlocks 129 = .ok (.if_icmp .gt 6, 3) := by decide +kernel
theorem d_R_readBlocks_132 : decode c_R_readBlocks 132 = .ok (.iload 8, 2) := by decide +kernel
theorem d_R_readBlocks_134 : decode c_R_readBlocks 134 = .ok (.ireturn, 1) := by decide +kernel
theorem d_R_readBlocks_135 : decode c_R_readBlocks 135 = .ok (.iinc 8 1, 3) := by decide +kernel
theorem d_R_readBlocks_138 : decode c_R_readBlocks 138 = .ok (.goto (-35), 3) := by decide +kernel
theorem d_R_readBlocks_141 : decode c_R_readBlocks 141 = .ok (.aload_n 0, 1) := by decide +kernel
theorem d_R_readBlocks_142 : decode c_R_readBlocks 142 = .ok (.getfield 7, 3) := by decide +kernel
theorem d_R_readBlocks_145 : decode c_R_readBlocks 145 = .ok (.iload 7, 2) := by decide +kernel
theorem d_R_readBlocks_147 : decode c_R_readBlocks 147 = .ok (.iaload, 1) := by decide +kernel
theorem d_R_readBlocks_148 : decode c_R_readBlocks 148 = .ok (.iload_n 2, 1) := by decide +kernel
theorem d_R_readBlocks_149 : decode c_R_readBlocks 149 = .ok (.if_icmp .le 5, 3) := by decide +kernel
theorem d_R_readBlocks_152 : decode c_R_readBlocks 152 = .ok (.iconst (-1), 1) := by decide +kernel
theorem d_R_readBlocks_153 : decode c_R_readBlocks 153 = .ok (.ireturn, 1) := by decide +kernel
theorem d_R_readBlocks_154 : decode c_R_readBlocks 154 = .ok (.iinc 6 4, 3) := by decide +kernel
theorem d_R_readBlocks_157 : decode c_R_readBlocks 157 = .ok (.goto (-135), 3) := by decide +kernel
theorem d_R_readBlocks_160 : decode c_R_readBlocks 160 = .ok (.iconst (-1), 1) := by decide +kernel
theorem d_R_readBlocks_161 : decode c_R_readBlocks 161 = .ok (.ireturn, 1) := by decide +kernel
theorem d_R_look_0 : decode c_R_look 0 = .ok (.aload_n 0, 1) := by decide +kernel
theorem d_R_look_1 : decode c_R_look 1 = .ok (.iconst (-1), 1) := by decide +kernel
theorem d_R_look_2 : decode c_R_look 2 = .ok (.putfield 208, 3) := by decide +kernel
theorem d_R_look_5 : decode c_R_look 5 = .ok (.aload_n 0, 1) := by decide +kernel
theorem d_R_look_6 : decode c_R_look 6 = .ok (.iload_n 1, 1) := by decide +kernel
theorem d_R_look_7 : decode c_R_look 7 = .ok (.iload_n 2, 1) := by decide +kernel
theorem d_R_look_8 : decode c_R_look 8 = .ok (.invokevirtual 214, 3) := by decide +kernel
theorem d_R_look_11 : decode c_R_look 11 = .ok (.iconst 0, 1) := by decide +kernel
theorem d_R_look_12 : decode c_R_look 12 = .ok (.istore_n 3, 1) := by decide +kernel
theorem d_R_look_13 : decode c_R_look 13 = .ok (.iload_n 3, 1) := by decide +kernel
theorem d_R_look_14 : decode c_R_look 14 = .ok (.aload_n 0, 1) := by decide +kernel
theorem d_R_look_15 : decode c_R_look 15 = .ok (.getfield 92, 3) := by decide +kernel
theorem d_R_look_18 : decode c_R_look 18 = .ok (.if_icmp .ge 71, 3) := by decide +kernel
theorem d_R_look_21 : decode c_R_look 21 = .ok (.aload_n 0, 1) := by decide +kernel
theorem d_R_look_22 : decode c_R_look 22 = .ok (.getfield 208, 3) := by decide +kernel
theorem d_R_look_25 : decode c_R_look 25 = .ok (.iconst (-1), 1) := by decide +kernel
theorem d_R_look_26 : decode c_R_look 26 = .ok (.if_icmp .ne 63, 3) := by decide +kernel
theorem d_R_look_29 : decode c_R_look 29 = .ok (.aload_n 0, 1) := by decide +kernel
theorem d_R_look_30 : decode c_R_look 30 = .ok (.iload_n 3, 1) := by decide +kernel
theorem d_R_look_31 : decode c_R_look 31 = .ok (.invokevirtual 117, 3) := by decide +kernel
theorem d_R_look_34 : decode c_R_look 34 = .ok (.iload_n 1, 1) := by decide +kernel
theorem d_R_look_35 : decode c_R_look 35 = .ok (.if_icmp .gt 48, 3) := by decide +kernel
theorem d_R_look_38 : decode c_R_look 38 = .ok (.aload_n 0, 1) := by decide +kernel
theorem d_R_look_39 : decode c_R_look 39 = .ok (.iload_n 3, 1) := by decide +kernel
theorem d_R_look_40 : decode c_R_look 40 = .ok (.invokevirtual 120, 3) := by decide +kernel
theorem d_R_look_43 : decode c_R_look 43 = .ok (.iload_n 1, 1) := by decide +kernel
theorem d_R_look_44 : decode c_R_look 44 = .ok (.if_icmp .ge 6, 3) := by decide +kernel
theorem d_R_look_47 : decode c_R_look 47 = .ok (.goto 36, 3) := by decide +kernel
theorem d_R_look_50 : decode c_R_look 50 = .ok (.aload_n 0, 1) := by decide +kernel
theorem d_R_look_51 : decode c_R_look 51 = .ok (.iload_n 3, 1) := by decide +kernel
theorem d_R_look_52 : decode c_R_look 52 = .ok (.iload_n 1, 1) := by decide +kernel
theorem d_R_look_53 : decode c_R_look 53 = .ok (.invokevirtual 217, 3) := by decide +kernel
theorem d_R_look_56 : decode c_R_look 56 = .ok (.ifCond .eq 17, 3) := by decide +kernel
theorem d_R_look_59 : decode c_R_look 59 = .ok (.aload_n 0, 1) := by decide +kernel
theorem d_R_look_60 : decode c_R_look 60 = .ok (.aload_n 0, 1) := by decide +kernel
theorem d_R_look_61 : decode c_R_look 61 = .ok (.iload_n 3, 1) := by decide +kernel
theorem d_R_look_62 : decode c_R_look 62 = .ok (.iload_n 1, 1) := by decide +kernel
theorem d_R_look_63 : decode c_R_look 63 = .ok (.iload_n 2, 1) := by decide +kernel
theorem d_R_look_64 : decode c_R_look 64 = .ok (.invokevirtual 220, 3) := by decide +kernel
theorem d_R_look_67 : decode c_R_look 67 = .ok (.putfield 208, 3) := by decide +kernel
theorem d_R_look_70 : decode c_R_look 70 = .ok (.goto 13, 3) := by decide +kernel
theorem d_R_look_73 : decode c_R_look 73 = .ok (.aload_n 0, 1) := by decide +kernel
theorem d_R_look_74 : decode c_R_look 74 = .ok (.dup, 1) := by decide +kernel
theorem d_R_look_75 : decode c_R_look 75 = .ok (.getfield 224, 3) := by decide +kernel
theorem d_R_look_78 : decode c_R_look 78 = .ok (.iconst 1, 1) := by decide +kernel
theorem d_R_look_79 : decode c_R_look 79 = .ok (.iadd, 1) := by decide +kernel
theorem d_R_look_80 : decode c_R_look 80 = .ok (.putfield 224, 3) := by decide +kernel
theorem d_R_look_83 : decode c_R_look 83 = .ok (.iinc 3 1, 3) := by decide +kernel
theorem d_R_look_86 : decode c_R_look 86 = .ok (.goto (-73), 3) := by decide +kernel
theorem d_R_look_89 : decode c_R_look 89 = .ok (.return_, 1) := by decide +kernel
theorem d_R_foundGone_0 : decode c_R_foundGone 0 = .ok (.aload_n 0, 1) := by decide +kernel
theorem d_R_foundGone_1 : decode c_R_foundGone 1 = .ok (.getfield 208, 3) := by decide +kernel
theorem d_R_foundGone_4 : decode c_R_foundGone 4 = .ok (.ifCond .lt 44, 3) := by decide +kernel
theorem d_R_foundGone_7 : decode c_R_foundGone 7 = .ok (.aload_n 0, 1) := by decide +kernel
theorem d_R_foundGone_8 : decode c_R_foundGone 8 = .ok (.getfield 208, 3) := by decide +kernel
theorem d_R_foundGone_11 : decode c_R_foundGone 11 = .ok (.sipush 1000, 3) := by decide +kernel
theorem d_R_foundGone_14 : decode c_R_foundGone 14 = .ok (.if_icmp .ge 18, 3) := by decide +kernel
theorem d_R_foundGone_17 : decode c_R_foundGone 17 = .ok (.aload_n 0, 1) := by decide +kernel
theorem d_R_foundGone_18 : decode c_R_foundGone 18 = .ok (.getfield 19, 3) := by decide +kernel
theorem d_R_foundGone_21 : decode c_R_foundGone 21 = .ok (.aload_n 0, 1) := by decide +kernel
theorem d_R_foundGone_22 : decode c_R_foundGone 22 = .ok (.getfield 208, 3) := by decide +kernel
theorem d_R_foundGone_25 : decode c_R_foundGone 25 = .ok (.baload, 1) := by decide +kernel
theorem d_R_foundGone_26 : decode c_R_foundGone 26 = .ok (.ifCond .eq 26, 3) := by decide +kernel
theorem d_R_foundGone_29 : decode c_R_foundGone 29 = .ok (.goto 19, 3) := by decide +kernel
theorem d_R_foundGone_32 : decode c_R_foundGone 32 = .ok (.aload_n 0, 1) := by decide +kernel
theorem d_R_foundGone_33 : decode c_R_foundGone 33 = .ok (.getfield 45, 3) := by decide +kernel
theorem d_R_foundGone_36 : decode c_R_foundGone 36 = .ok (.aload_n 0, 1) := by decide +kernel
theorem d_R_foundGone_37 : decode c_R_foundGone 37 = .ok (.getfield 208, 3) := by decide +kernel
theorem d_R_foundGone_40 : decode c_R_foundGone 40 = .ok (.sipush 1000, 3) := by decide +kernel
theorem d_R_foundGone_43 : decode c_R_foundGone 43 = .ok (.isub, 1) := by decide +kernel
theorem d_R_foundGone_44 : decode c_R_foundGone 44 = .ok (.baload, 1) := by decide +kernel
theorem d_R_foundGone_45 : decode c_R_foundGone 45 = .ok (.ifCond .eq 7, 3) := by decide +kernel
theorem d_R_foundGone_48 : decode c_R_foundGone 48 = .ok (.iconst 1, 1) := by decide +kernel
theorem d_R_foundGone_49 : decode c_R_foundGone 49 = .ok (.goto 4, 3) := by decide +kernel
theorem d_R_foundGone_52 : decode c_R_foundGone 52 = .ok (.iconst 0, 1) := by decide +kernel
theorem d_R_foundGone_53 : decode c_R_foundGone 53 = .ok (.ireturn, 1) := by decide +kernel
theorem d_R_get_0 : decode c_R_get 0 = .ok (.aload_n 0, 1) := by decide +kernel
theorem d_R_get_1 : decode c_R_get 1 = .ok (.iconst 0, 1) := by decide +kernel
theorem d_R_get_2 : decode c_R_get 2 = .ok (.putfield 85, 3) := by decide +kernel
theorem d_R_get_5 : decode c_R_get 5 = .ok (.iload_n 1, 1) := by decide +kernel
theorem d_R_get_6 : decode c_R_get 6 = .ok (.iconst 0, 1) := by decide +kernel
theorem d_R_get_7 : decode c_R_get 7 = .ok (.bipush 63, 2) := by decide +kernel
theorem d_R_get_9 : decode c_R_get 9 = .ok (.invokestatic 181, 3) := by decide +kernel
theorem d_R_get_12 : decode c_R_get 12 = .ok (.ifCond .eq 12, 3) := by decide +kernel
theorem d_R_get_15 : decode c_R_get 15 = .ok (.iload_n 2, 1) := by decide +kernel
theorem d_R_get_16 : decode c_R_get 16 = .ok (.iconst (-1), 1) := by decide +kernel
theorem d_R_get_17 : decode c_R_get 17 = .ok (.iconst 3, 1) := by decide +kernel
theorem d_R_get_18 : decode c_R_get 18 = .ok (.invokestatic 181, 3) := by decide +kernel
theorem d_R_get_21 : decode c_R_get 21 = .ok (.ifCond .ne 9, 3) := by decide +kernel
theorem d_R_get_24 : decode c_R_get 24 = .ok (.aload_n 0, 1) := by decide +kernel
theorem d_R_get_25 : decode c_R_get 25 = .ok (.iconst 1, 1) := by decide +kernel
theorem d_R_get_26 : decode c_R_get 26 = .ok (.invokevirtual 185, 3) := by decide +kernel
theorem d_R_get_29 : decode c_R_get 29 = .ok (.ireturn, 1) := by decide +kernel
theorem d_R_get_30 : decode c_R_get 30 = .ok (.iload_n 2, 1) := by decide +kernel
theorem d_R_get_31 : decode c_R_get 31 = .ok (.ifCond .lt 18, 3) := by decide +kernel
theorem d_R_get_34 : decode c_R_get 34 = .ok (.aload_n 0, 1) := by decide +kernel
theorem d_R_get_35 : decode c_R_get 35 = .ok (.getfield 64, 3) := by decide +kernel
theorem d_R_get_38 : decode c_R_get 38 = .ok (.iload_n 2, 1) := by decide +kernel
theorem d_R_get_39 : decode c_R_get 39 = .ok (.iaload, 1) := by decide +kernel
theorem d_R_get_40 : decode c_R_get 40 = .ok (.ifCond .ge 9, 3) := by decide +kernel
theorem d_R_get_43 : decode c_R_get 43 = .ok (.aload_n 0, 1) := by decide +kernel
theorem d_R_get_44 : decode c_R_get 44 = .ok (.iconst 3, 1) := by decide +kernel
theorem d_R_get_45 : decode c_R_get 45 = .ok (.invokevirtual 185, 3) := by decide +kernel
theorem d_R_get_48 : decode c_R_get 48 = .ok (.ireturn, 1) := by decide +kernel
theorem d_R_get_49 : decode c_R_get 49 = .ok (.aload_n 0, 1) := by decide +kernel
theorem d_R_get_50 : decode c_R_get 50 = .ok (.dup, 1) := by decide +kernel
theorem d_R_get_51 : decode c_R_get 51 = .ok (.getfield 227, 3) := by decide +kernel
theorem d_R_get_54 : decode c_R_get 54 = .ok (.iconst 1, 1) := by decide +kernel
theorem d_R_get_55 : decode c_R_get 55 = .ok (.iadd, 1) := by decide +kernel
theorem d_R_get_56 : decode c_R_get 56 = .ok (.putfield 227, 3) := by decide +kernel
theorem d_R_get_59 : decode c_R_get 59 = .ok (.aload_n 0, 1) := by decide +kernel
theorem d_R_get_60 : decode c_R_get 60 = .ok (.iload_n 1, 1) := by decide +kernel
theorem d_R_get_61 : decode c_R_get 61 = .ok (.aload_n 0, 1) := by decide +kernel
theorem d_R_get_62 : decode c_R_get 62 = .ok (.iload_n 2, 1) := by decide +kernel
theorem d_R_get_63 : decode c_R_get 63 = .ok (.invokevirtual 230, 3) := by decide +kernel
theorem d_R_get_66 : decode c_R_get 66 = .ok (.invokevirtual 233, 3) := by decide +kernel
theorem d_R_get_69 : decode c_R_get 69 = .ok (.aload_n 0, 1) := by decide +kernel
theorem d_R_get_70 : decode c_R_get 70 = .ok (.getfield 208, 3) := by decide +kernel
theorem d_R_get_73 : decode c_R_get 73 = .ok (.bipush (-2), 2) := by decide +kernel
theorem d_R_get_75 : decode c_R_get 75 = .ok (.if_icmp .ne 9, 3) := by decide +kernel
theorem d_R_get_78 : decode c_R_get 78 = .ok (.aload_n 0, 1) := by decide +kernel
theorem d_R_get_79 : decode c_R_get 79 = .ok (.iconst 2, 1) := by decide +kernel
theorem d_R_get_80 : decode c_R_get 80 = .ok (.invokevirtual 185, 3) := by decide +kernel
theorem d_R_get_83 : decode c_R_get 83 = .ok (.ireturn, 1) := by decide +kernel
theorem d_R_get_84 : decode c_R_get 84 = .ok (.aload_n 0, 1) := by decide +kernel
theorem d_R_get_85 : decode c_R_get 85 = .ok (.invokevirtual 236, 3) := by decide +kernel
theorem d_R_get_88 : decode c_R_get 88 = .ok (.ifCond .eq 9, 3) := by decide +kernel
theorem d_R_get_91 : decode c_R_get 91 = .ok (.aload_n 0, 1) := by decide +kernel
theorem d_R_get_92 : decode c_R_get 92 = .ok (.iconst 4, 1) := by decide +kernel
theorem d_R_get_93 : decode c_R_get 93 = .ok (.invokevirtual 185, 3) := by decide +kernel
theorem d_R_get_96 : decode c_R_get 96 = .ok (.ireturn, 1) := by decide +kernel
theorem d_R_get_97 : decode c_R_get 97 = .ok (.aload_n 0, 1) := by decide +kernel
theorem d_R_get_98 : decode c_R_get 98 = .ok (.getfield 208, 3) := by decide +kernel
theorem d_R_get_101 : decode c_R_get 101 = .ok (.sipush 1000, 3) := by decide +kernel
theorem d_R_get_104 : decode c_R_get 104 = .ok (.if_icmp .ge 15, 3) := by decide +kernel
theorem d_R_get_107 : decode c_R_get 107 = .ok (.aload_n 0, 1) := by decide +kernel
theorem d_R_get_108 : decode c_R_get 108 = .ok (.getfield 16, 3) := by decide +kernel
theorem d_R_get_111 : decode c_R_get 111 = .ok (.aload_n 0, 1) := by decide +kernel
theorem d_R_get_112 : decode c_R_get 112 = .ok (.getfield 208, 3) := by decide +kernel
theorem d_R_get_115 : decode c_R_get 115 = .ok (.iaload, 1) := by decide +kernel
theorem d_R_get_116 : decode c_R_get 116 = .ok (.goto 16, 3) := by decide +kernel
theorem d_R_get_119 : decode c_R_get 119 = .ok (.aload_n 0, 1) := by decide +kernel
theorem d_R_get_120 : decode c_R_get 120 = .ok (.getfield 42, 3) := by decide +kernel
theorem d_R_get_123 : decode c_R_get 123 = .ok (.aload_n 0, 1) := by decide +kernel
theorem d_R_get_124 : decode c_R_get 124 = .ok (.getfield 208, 3) := by decide +kernel
theorem d_R_get_127 : decode c_R_get 127 = .ok (.sipush 1000, 3) := by decide +kernel
theorem d_R_get_130 : decode c_R_get 130 = .ok (.isub, 1) := by decide +kernel
theorem d_R_get_131 : decode c_R_get 131 = .ok (.iaload, 1) := by decide +kernel
theorem d_R_get_132 : decode c_R_get 132 = .ok (.ireturn, 1) := by decide +kernel
theorem d_R_lookThrough_0 : decode c_R_lookThrough 0 = .ok (.aload_n 0, 1) := by decide +kernel
theorem d_R_lookThrough_1 : decode c_R_lookThrough 1 = .ok (.iconst (-1), 1) := by decide +kernel
theorem d_R_lookThrough_2 : decode c_R_lookThrough 2 = .ok (.putfield 208, 3) := by decide +kernel
theorem d_R_lookThrough_5 : decode c_R_lookThrough 5 = .ok (.aload_n 0, 1) := by decide +kernel
theorem d_R_lookThrough_6 : decode c_R_lookThrough 6 = .ok (.iload_n 1, 1) := by decide +kernel
theorem d_R_lookThrough_7 : decode c_R_lookThrough 7 = .ok (.iload_n 2, 1) := by decide +kernel
theorem d_R_lookThrough_8 : decode c_R_lookThrough 8 = .ok (.invokevirtual 214, 3) := by decide +kernel
theorem d_R_lookThrough_11 : decode c_R_lookThrough 11 = .ok (.iconst 0, 1) := by decide +kernel
theorem d_R_lookThrough_12 : decode c_R_lookThrough 12 = .ok (.istore_n 3, 1) := by decide +kernel
theorem d_R_lookThrough_13 : decode c_R_lookThrough 13 = .ok (.iload_n 3, 1) := by decide +kernel
theorem d_R_lookThrough_14 : decode c_R_lookThrough 14 = .ok (.aload_n 0, 1) := by decide +kernel
theorem d_R_lookThrough_15 : decode c_R_lookThrough 15 = .ok (.getfield 95, 3) := by decide +kernel
theorem d_R_lookThrough_18 : decode c_R_lookThrough 18 = .ok (.if_icmp .ge 42, 3) := by decide +kernel
theorem d_R_lookThrough_21 : decode c_R_lookThrough 21 = .ok (.aload_n 0, 1) := by decide +kernel
theorem d_R_lookThrough_22 : decode c_R_lookThrough 22 = .ok (.getfield 208, 3) := by decide +kernel
theorem d_R_lookThrough_25 : decode c_R_lookThrough 25 = .ok (.iconst (-1), 1) := by decide +kernel
theorem d_R_lookThrough_26 : decode c_R_lookThrough 26 = .ok (.if_icmp .ne 34, 3) := by decide +kernel
theorem d_R_lookThrough_29 : decode c_R_lookThrough 29 = .ok (.aload_n 0, 1) := by decide +kernel
theorem d_R_lookThrough_30 : decode c_R_lookThrough 30 = .ok (.getfield 7, 3) := by decide +kernel
theorem d_R_lookThrough_33 : decode c_R_lookThrough 33 = .ok (.iload_n 3, 1) := by decide +kernel
theorem d_R_lookThrough_34 : decode c_R_lookThrough 34 = .ok (.iaload, 1) := by decide +kernel
theorem d_R_lookThrough_35 : decode c_R_lookThrough 35 = .ok (.iload_n 1, 1) := by decide +kernel
theorem d_R_lookThrough_36 : decode c_R_lookThrough 36 = .ok (.if_icmp .ne 18, 3) := by decide +kernel
theorem d_R_lookThrough_39 : decode c_R_lookThrough 39 = .ok (.aload_n 0, 1) := by decide +kernel
theorem d_R_lookThrough_40 : decode c_R_lookThrough 40 = .ok (.getfield 13, 3) := by decide +kernel
theorem d_R_lookThrough_43 : decode c_R_lookThrough 43 = .ok (.iload_n 3, 1) := by decide +kernel
theorem d_R_lookThrough_44 : decode c_R_lookThrough 44 = .ok (.iaload, 1) := by decide +kernel
theorem d_R_lookThrough_45 : decode c_R_lookThrough 45 = .ok (.iload_n 2, 1) := by decide +kernel
theorem d_R_lookThrough_46 : decode c_R_lookThrough 46 = .ok (.if_icmp .gt 8, 3) := by decide +kernel
theorem d_R_lookThrough_49 : decode c_R_lookThrough 49 = .ok (.aload_n 0, 1) := by decide +kernel
theorem d_R_lookThrough_50 : decode c_R_lookThrough 50 = .ok (.iload_n 3, 1) := by decide +kernel
theorem d_R_lookThrough_51 : decode c_R_lookThrough 51 = .ok (.putfield 208, 3) := by decide +kernel
theorem d_R_lookThrough_54 : decode c_R_lookThrough 54 = .ok (.iinc 3 1, 3) := by decide +kernel
theorem d_R_lookThrough_57 : decode c_R_lookThrough 57 = .ok (.goto (-44), 3) := by decide +kernel
theorem d_R_lookThrough_60 : decode c_R_lookThrough 60 = .ok (.return_, 1) := by decide +kernel
theorem d_R_next_0 : decode c_R_next 0 = .ok (.aload_n 0, 1) := by decide +kernel
theorem d_R_next_1 : decode c_R_next 1 = .ok (.iconst 0, 1) := by decide +kernel
theorem d_R_next_2 : decode c_R_next 2 = .ok (.putfield 85, 3) := by decide +kernel
theorem d_R_next_5 : decode c_R_next 5 = .ok (.iload_n 1, 1) := by decide +kernel
theorem d_R_next_6 : decode c_R_next 6 = .ok (.iconst (-1), 1) := by decide +kernel
theorem d_R_next_7 : decode c_R_next 7 = .ok (.bipush 63, 2) := by decide +kernel
theorem d_R_next_9 : decode c_R_next 9 = .ok (.invokestatic 181, 3) := by decide +kernel
theorem d_R_next_12 : decode c_R_next 12 = .ok (.ifCond .eq 12, 3) := by decide +kernel
theorem d_R_next_15 : decode c_R_next 15 = .ok (.iload_n 2, 1) := by decide +kernel
theorem d_R_next_16 : decode c_R_next 16 = .ok (.iconst (-1), 1) := by decide +kernel
theorem d_R_next_17 : decode c_R_next 17 = .ok (.iconst 3, 1) := by decide +kernel
theorem d_R_next_18 : decode c_R_next 18 = .ok (.invokestatic 181, 3) := by decide +kernel
theorem d_R_next_21 : decode c_R_next 21 = .ok (.ifCond .ne 9, 3) := by decide +kernel
theorem d_R_next_24 : decode c_R_next 24 = .ok (.aload_n 0, 1) := by decide +kernel
theorem d_R_next_25 : decode c_R_next 25 = .ok (.iconst 1, 1) := by decide +kernel
theorem d_R_next_26 : decode c_R_next 26 = .ok (.invokevirtual 185, 3) := by decide +kernel
theorem d_R_next_29 : decode c_R_next 29 = .ok (.ireturn, 1) := by decide +kernel
theorem d_R_next_30 : decode c_R_next 30 = .ok (.iload_n 2, 1) := by decide +kernel
theorem d_R_next_31 : decode c_R_next 31 = .ok (.ifCond .lt 18, 3) := by decide +kernel
theorem d_R_next_34 : decode c_R_next 34 = .ok (.aload_n 0, 1) := by decide +kernel
theorem d_R_next_35 : decode c_R_next 35 = .ok (.getfield 64, 3) := by decide +kernel
theorem d_R_next_38 : decode c_R_next 38 = .ok (.iload_n 2, 1) := by decide +kernel
theorem d_R_next_39 : decode c_R_next 39 = .ok (.iaload, 1) := by decide +kernel
theorem d_R_next_40 : decode c_R_next 40 = .ok (.ifCond .ge 9, 3) := by decide +kernel
theorem d_R_next_43 : decode c_R_next 43 = .ok (.aload_n 0, 1) := by decide +kernel
theorem d_R_next_44 : decode c_R_next 44 = .ok (.iconst 2, 1) := by decide +kernel
theorem d_R_next_45 : decode c_R_next 45 = .ok (.invokevirtual 185, 3) := by decide +kernel
theorem d_R_next_48 : decode c_R_next 48 = .ok (.ireturn, 1) := by decide +kernel
theorem d_R_next_49 : decode c_R_next 49 = .ok (.iload_n 1, 1) := by decide +kernel
theorem d_R_next_50 : decode c_R_next 50 = .ok (.iconst 1, 1) := by decide +kernel
theorem d_R_next_51 : decode c_R_next 51 = .ok (.iadd, 1) := by decide +kernel
theorem d_R_next_52 : decode c_R_next 52 = .ok (.istore_n 3, 1) := by decide +kernel
theorem d_R_next_53 : decode c_R_next 53 = .ok (.iload_n 3, 1) := by decide +kernel
theorem d_R_next_54 : decode c_R_next 54 = .ok (.bipush 64, 2) := by decide +kernel
theorem d_R_next_56 : decode c_R_next 56 = .ok (.if_icmp .ge 28, 3) := by decide +kernel
theorem d_R_next_59 : decode c_R_next 59 = .ok (.aload_n 0, 1) := by decide +kernel
theorem d_R_next_60 : decode c_R_next 60 = .ok (.iload_n 3, 1) := by decide +kernel
theorem d_R_next_61 : decode c_R_next 61 = .ok (.aload_n 0, 1) := by decide +kernel
theorem d_R_next_62 : decode c_R_next 62 = .ok (.iload_n 2, 1) := by decide +kernel
theorem d_R_next_63 : decode c_R_next 63 = .ok (.invokevirtual 230, 3) := by decide +kernel
theorem d_R_next_66 : decode c_R_next 66 = .ok (.invokevirtual 240, 3) := by decide +kernel
theorem d_R_next_69 : decode c_R_next 69 = .ok (.aload_n 0, 1) := by decide +kernel
theorem d_R_next_70 : decode c_R_next 70 = .ok (.invokevirtual 236, 3) := by decide +kernel
theorem d_R_next_73 : decode c_R_next 73 = .ok (.ifCond .ne 5, 3) := by decide +kernel
theorem d_R_next_76 : decode c_R_next 76 = .ok (.iload_n 3, 1) := by decide +kernel
theorem d_R_next_77 : decode c_R_next 77 = .ok (.ireturn, 1) := by decide +kernel
theorem d_R_next_78 : decode c_R_next 78 = .ok (.iinc 3 1, 3) := by decide +kernel
theorem d_R_next_81 : decode c_R_next 81 = .ok (.goto (-28), 3) := by decide +kernel
theorem d_R_next_84 : decode c_R_next 84 = .ok (.aload_n 0, 1) := by decide +kernel
theorem d_R_next_85 : decode c_R_next 85 = .ok (.iconst 3, 1) := by decide +kernel
theorem d_R_next_86 : decode c_R_next 86 = .ok (.invokevirtual 185, 3) := by decide +kernel
theorem d_R_next_89 : decode c_R_next 89 = .ok (.ireturn, 1) := by decide +kernel
theorem d_R_snapshot_0 : decode c_R_snapshot 0 = .ok (.aload_n 0, 1) := by decide +kernel
theorem d_R_snapshot_1 : decode c_R_snapshot 1 = .ok (.iconst 0, 1) := by decide +kernel
theorem d_R_snapshot_2 : decode c_R_snapshot 2 = .ok (.putfield 85, 3) := by decide +kernel
theorem d_R_snapshot_5 : decode c_R_snapshot 5 = .ok (.iconst 0, 1) := by decide +kernel
theorem d_R_snapshot_6 : decode c_R_snapshot 6 = .ok (.istore_n 1, 1) := by decide +kernel
theorem d_R_snapshot_7 : decode c_R_snapshot 7 = .ok (.iload_n 1, 1) := by decide +kernel
theorem d_R_snapshot_8 : decode c_R_snapshot 8 = .ok (.iconst 4, 1) := by decide +kernel
theorem d_R_snapshot_9 : decode c_R_snapshot 9 = .ok (.if_icmp .ge 33, 3) := by decide +kernel
theorem d_R_snapshot_12 : decode c_R_snapshot 12 = .ok (.aload_n 0, 1) := by decide +kernel
theorem d_R_snapshot_13 : decode c_R_snapshot 13 = .ok (.getfield 64, 3) := by decide +kernel
theorem d_R_snapshot_16 : decode c_R_snapshot 16 = .ok (.iload_n 1, 1) := by decide +kernel
theorem d_R_snapshot_17 : decode c_R_snapshot 17 = .ok (.iaload, 1) := by decide +kernel
theorem d_R_snapshot_18 : decode c_R_snapshot 18 = .ok (.ifCond .lt 6, 3) := by decide +kernel
theorem d_R_snapshot_21 : decode c_R_snapshot 21 = .ok (.goto 15, 3) := by decide +kernel
theorem d_R_snapshot_24 : decode c_R_snapshot 24 = .ok (.aload_n 0, 1) := by decide +kernel
theorem d_R_snapshot_25 : decode c_R_snapshot 25 = .ok (.getfield 64, 3) := by decide +kernel
theorem d_R_snapshot_28 : decode c_R_snapshot 28 = .ok (.iload_n 1, 1) := by decide +kernel
theorem d_R_snapshot_29 : decode c_R_snapshot 29 = .ok (.aload_n 0, 1) := by decide +kernel
theorem d_R_snapshot_30 : decode c_R_snapshot 30 = .ok (.getfield 114, 3) := by decide +kernel
theorem d_R_snapshot_33 : decode c_R_snapshot 33 = .ok (.iastore, 1) := by decide +kernel
theorem d_R_snapshot_34 : decode c_R_snapshot 34 = .ok (.iload_n 1, 1) := by decide +kernel
theorem d_R_snapshot_35 : decode c_R_snapshot 35 = .ok (.ireturn, 1) := by decide +kernel
theorem d_R_snapshot_36 : decode c_R_snapshot 36 = .ok (.iinc 1 1, 3) := by decide +kernel
theorem d_R_snapshot_39 : decode c_R_snapshot 39 = .ok (.goto (-32), 3) := by decide +kernel
theorem d_R_snapshot_42 : decode c_R_snapshot 42 = .ok (.aload_n 0, 1) := by decide +kernel
theorem d_R_snapshot_43 : decode c_R_snapshot 43 = .ok (.iconst 1, 1) := by decide +kernel
theorem d_R_snapshot_44 : decode c_R_snapshot 44 = .ok (.invokevirtual 185, 3) := by decide +kernel
theorem d_R_snapshot_47 : decode c_R_snapshot 47 = .ok (.ireturn, 1) := by decide +kernel
theorem d_R_release_0 : decode c_R_release 0 = .ok (.aload_n 0, 1) := by decide +kernel
theorem d_R_release_1 : decode c_R_release 1 = .ok (.iconst 0, 1) := by decide +kernel
theorem d_R_release_2 : decode c_R_release 2 = .ok (.putfield 85, 3) := by decide +kernel
theorem d_R_release_5 : decode c_R_release 5 = .ok (.iload_n 1, 1) := by decide +kernel
theorem d_R_release_6 : decode c_R_release 6 = .ok (.iconst 0, 1) := by decide +kernel
theorem d_R_release_7 : decode c_R_release 7 = .ok (.iconst 3, 1) := by decide +kernel
theorem d_R_release_8 : decode c_R_release 8 = .ok (.invokestatic 181, 3) := by decide +kernel
theorem d_R_release_11 : decode c_R_release 11 = .ok (.ifCond .ne 9, 3) := by decide +kernel
theorem d_R_release_14 : decode c_R_release 14 = .ok (.aload_n 0, 1) := by decide +kernel
theorem d_R_release_15 : decode c_R_release 15 = .ok (.iconst 1, 1) := by decide +kernel
theorem d_R_release_16 : decode c_R_release 16 = .ok (.invokevirtual 185, 3) := by decide +kernel
theorem d_R_release_19 : decode c_R_release 19 = .ok (.ireturn, 1) := by decide +kernel
theorem d_R_release_20 : decode c_R_release 20 = .ok (.aload_n 0, 1) := by decide +kernel
theorem d_R_release_21 : decode c_R_release 21 = .ok (.getfield 64, 3) := by decide +kernel
theorem d_R_release_24 : decode c_R_release 24 = .ok (.iload_n 1, 1) := by decide +kernel
theorem d_R_release_25 : decode c_R_release 25 = .ok (.iaload, 1) := by decide +kernel
theorem d_R_release_26 : decode c_R_release 26 = .ok (.istore_n 2, 1) := by decide +kernel
theorem d_R_release_27 : decode c_R_release 27 = .ok (.iload_n 2, 1) := by decide +kernel
theorem d_R_release_28 : decode c_R_release 28 = .ok (.ifCond .ge 9, 3) := by decide +kernel
theorem d_R_release_31 : decode c_R_release 31 = .ok (.aload_n 0, 1) := by decide +kernel
theorem d_R_release_32 : decode c_R_release 32 = .ok (.iconst 2, 1) := by decide +kernel
theorem d_R_release_33 : decode c_R_release 33 = .ok (.invokevirtual 185, 3) := by decide +kernel
theorem d_R_release_36 : decode c_R_release 36 = .ok (.ireturn, 1) := by decide +kernel
theorem d_R_release_37 : decode c_R_release 37 = .ok (.aload_n 0, 1) := by decide +kernel
theorem d_R_release_38 : decode c_R_release 38 = .ok (.getfield 64, 3) := by decide +kernel
theorem d_R_release_41 : decode c_R_release 41 = .ok (.iload_n 1, 1) := by decide +kernel
theorem d_R_release_42 : decode c_R_release 42 = .ok (.iconst (-1), 1) := by decide +kernel
theorem d_R_release_43 : decode c_R_release 43 = .ok (.iastore, 1) := by decide +kernel
theorem d_R_release_44 : decode c_R_release 44 = .ok (.iload_n 2, 1) := by decide +kernel
theorem d_R_release_45 : decode c_R_release 45 = .ok (.ireturn, 1) := by decide +kernel
theorem d_R_blockSize_0 : decode c_R_blockSize 0 = .ok (.aload_n 0, 1) := by decide +kernel
theorem d_R_blockSize_1 : decode c_R_blockSize 1 = .ok (.getfield 29, 3) := by decide +kernel
theorem d_R_blockSize_4 : decode c_R_blockSize 4 = .ok (.iload_n 1, 1) := by decide +kernel
theorem d_R_blockSize_5 : decode c_R_blockSize 5 = .ok (.iaload, 1) := by decide +kernel
theorem d_R_blockSize_6 : decode c_R_blockSize 6 = .ok (.iconst 4, 1) := by decide +kernel
theorem d_R_blockSize_7 : decode c_R_blockSize 7 = .ok (.iload_n 2, 1) := by decide +kernel
theorem d_R_blockSize_8 : decode c_R_blockSize 8 = .ok (.imul, 1) := by decide +kernel
theorem d_R_blockSize_9 : decode c_R_blockSize 9 = .ok (.isub, 1) := by decide +kernel
theorem d_R_blockSize_10 : decode c_R_blockSize 10 = .ok (.iconst 4, 1) := by decide +kernel
theorem d_R_blockSize_11 : decode c_R_blockSize 11 = .ok (.if_icmp .ge 16, 3) := by decide +kernel
theorem d_R_blockSize_14 : decode c_R_blockSize 14 = .ok (.aload_n 0, 1) := by decide +kernel
theorem d_R_blockSize_15 : decode c_R_blockSize 15 = .ok (.getfield 29, 3) := by decide +kernel
theorem d_R_blockSize_18 : decode c_R_blockSize 18 = .ok (.iload_n 1, 1) := by decide +kernel
theorem d_R_blockSize_19 : decode c_R_blockSize 19 = .ok (.iaload, 1) := by decide +kernel
theorem d_R_blockSize_20 : decode c_R_blockSize 20 = .ok (.iconst 4, 1) := by decide +kernel
theorem d_R_blockSize_21 : decode c_R_blockSize 21 = .ok (.iload_n 2, 1) := by decide +kernel
theorem d_R_blockSize_22 : decode c_R_blockSize 22 = .ok (.imul, 1) := by decide +kernel
theorem d_R_blockSize_23 : decode c_R_blockSize 23 = .ok (.isub, 1) := by decide +kernel
theorem d_R_blockSize_24 : decode c_R_blockSize 24 = .ok (.goto 4, 3) := by decide +kernel
theorem d_R_blockSize_27 : decode c_R_blockSize 27 = .ok (.iconst 4, 1) := by decide +kernel
theorem d_R_blockSize_28 : decode c_R_blockSize 28 = .ok (.ireturn, 1) := by decide +kernel
theorem d_R_spoil_0 : decode c_R_spoil 0 = .ok (.aload_n 0, 1) := by decide +kernel
theorem d_R_spoil_1 : decode c_R_spoil 1 = .ok (.iconst 0, 1) := by decide +kernel
theorem d_R_spoil_2 : decode c_R_spoil 2 = .ok (.putfield 85, 3) := by decide +kernel
theorem d_R_spoil_5 : decode c_R_spoil 5 = .ok (.iload_n 1, 1) := by decide +kernel
theorem d_R_spoil_6 : decode c_R_spoil 6 = .ok (.iconst 0, 1) := by decide +kernel
theorem d_R_spoil_7 : decode c_R_spoil 7 = .ok (.bipush 59, 2) := by decide +kernel
theorem d_R_spoil_9 : decode c_R_spoil 9 = .ok (.invokestatic 181, 3) := by decide +kernel
theorem d_R_spoil_12 : decode c_R_spoil 12 = .ok (.ifCond .eq 13, 3) := by decide +kernel
theorem d_R_spoil_15 : decode c_R_spoil 15 = .ok (.iload_n 2, 1) := by decide +kernel
theorem d_R_spoil_16 : decode c_R_spoil 16 = .ok (.iconst 0, 1) := by decide +kernel
theorem d_R_spoil_17 : decode c_R_spoil 17 = .ok (.bipush 59, 2) := by decide +kernel
theorem d_R_spoil_19 : decode c_R_spoil 19 = .ok (.invokestatic 181, 3) := by decide +kernel
theorem d_R_spoil_22 : decode c_R_spoil 22 = .ok (.ifCond .ne 9, 3) := by decide +kernel
theorem d_R_spoil_25 : decode c_R_spoil 25 = .ok (.aload_n 0, 1) := by decide +kernel
theorem d_R_spoil_26 : decode c_R_spoil 26 = .ok (.iconst 1, 1) := by decide +kernel
theorem d_R_spoil_27 : decode c_R_spoil 27 = .ok (.invokevirtual 185, 3) := by decide +kernel
theorem d_R_spoil_30 : decode c_R_spoil 30 = .ok (.ireturn, 1) := by decide +kernel
theorem d_R_spoil_31 : decode c_R_spoil 31 = .ok (.iload_n 1, 1) := by decide +kernel
theorem d_R_spoil_32 : decode c_R_spoil 32 = .ok (.aload_n 0, 1) := by decide +kernel
theorem d_R_spoil_33 : decode c_R_spoil 33 = .ok (.getfield 92, 3) := by decide +kernel
theorem d_R_spoil_36 : decode c_R_spoil 36 = .ok (.if_icmp .ge 15, 3) := by decide +kernel
theorem d_R_spoil_39 : decode c_R_spoil 39 = .ok (.iconst 4, 1) := by decide +kernel
theorem d_R_spoil_40 : decode c_R_spoil 40 = .ok (.iload_n 2, 1) := by decide +kernel
theorem d_R_spoil_41 : decode c_R_spoil 41 = .ok (.imul, 1) := by decide +kernel
theorem d_R_spoil_42 : decode c_R_spoil 42 = .ok (.aload_n 0, 1) := by decide +kernel
theorem d_R_spoil_43 : decode c_R_spoil 43 = .ok (.getfield 29, 3) := by decide +kernel
theorem d_R_spoil_46 : decode c_R_spoil 46 = .ok (.iload_n 1, 1) := by decide +kernel
theorem d_R_spoil_47 : decode c_R_spoil 47 = .ok (.iaload, 1) := by decide +kernel
theorem d_R_spoil_48 : decode c_R_spoil 48 = .ok (.if_icmp .lt 9, 3) := by decide +kernel
theorem d_R_spoil_51 : decode c_R_spoil 51 = .ok (.aload_n 0, 1) := by decide +kernel
theorem d_R_spoil_52 : decode c_R_spoil 52 = .ok (.iconst 2, 1) := by decide +kernel
theorem d_R_spoil_53 : decode c_R_spoil 53 = .ok (.invokevirtual 185, 3) := by decide +kernel
theorem d_R_spoil_56 : decode c_R_spoil 56 = .ok (.ireturn, 1) := by decide +kernel
theorem d_R_spoil_57 : decode c_R_spoil 57 = .ok (.aload_n 0, 1) := by decide +kernel
theorem d_R_spoil_58 : decode c_R_spoil 58 = .ok (.getfield 32, 3) := by decide +kernel
theorem d_R_spoil_61 : decode c_R_spoil 61 = .ok (.iload_n 1, 1) := by decide +kernel
theorem d_R_spoil_62 : decode c_R_spoil 62 = .ok (.dup2, 1) := by decide +kernel
theorem d_R_spoil_63 : decode c_R_spoil 63 = .ok (.laload, 1) := by decide +kernel
theorem d_R_spoil_64 : decode c_R_spoil 64 = .ok (.lconst 1, 1) := by decide +kernel
theorem d_R_spoil_65 : decode c_R_spoil 65 = .ok (.iload_n 2, 1) := by decide +kernel
theorem d_R_spoil_66 : decode c_R_spoil 66 = .ok (.lshl, 1) := by decide +kernel
theorem d_R_spoil_67 : decode c_R_spoil 67 = .ok (.lor, 1) := by decide +kernel
theorem d_R_spoil_68 : decode c_R_spoil 68 = .ok (.lastore, 1) := by decide +kernel
theorem d_R_spoil_69 : decode c_R_spoil 69 = .ok (.aload_n 0, 1) := by decide +kernel
theorem d_R_spoil_70 : decode c_R_spoil 70 = .ok (.iload_n 1, 1) := by decide +kernel
theorem d_R_spoil_71 : decode c_R_spoil 71 = .ok (.iload_n 2, 1) := by decide +kernel
theorem d_R_spoil_72 : decode c_R_spoil 72 = .ok (.invokevirtual 243, 3) := by decide +kernel
theorem d_R_spoil_75 : decode c_R_spoil 75 = .ok (.ireturn, 1) := by decide +kernel
theorem d_R_lose_0 : decode c_R_lose 0 = .ok (.aload_n 0, 1) := by decide +kernel
theorem d_R_lose_1 : decode c_R_lose 1 = .ok (.iload_n 1, 1) := by decide +kernel
theorem d_R_lose_2 : decode c_R_lose 2 = .ok (.invokevirtual 88, 3) := by decide +kernel
theorem d_R_lose_5 : decode c_R_lose 5 = .ok (.istore_n 2, 1) := by decide +kernel
theorem d_R_lose_6 : decode c_R_lose 6 = .ok (.iload_n 2, 1) := by decide +kernel
theorem d_R_lose_7 : decode c_R_lose 7 = .ok (.istore_n 3, 1) := by decide +kernel
theorem d_R_lose_8 : decode c_R_lose 8 = .ok (.iconst 0, 1) := by decide +kernel
theorem d_R_lose_9 : decode c_R_lose 9 = .ok (.istore 4, 2) := by decide +kernel
theorem d_R_lose_11 : decode c_R_lose 11 = .ok (.iload 4, 2) := by decide +kernel
theorem d_R_lose_13 : decode c_R_lose 13 = .ok (.aload_n 0, 1) := by decide +kernel
theorem d_R_lose_14 : decode c_R_lose 14 = .ok (.getfield 29, 3) := by decide +kernel
theorem d_R_lose_17 : decode c_R_lose 17 = .ok (.iload_n 1, 1) := by decide +kernel
theorem d_R_lose_18 : decode c_R_lose 18 = .ok (.iaload, 1) := by decide +kernel
theorem d_R_lose_19 : decode c_R_lose 19 = .ok (.if_icmp .ge 42, 3) := by decide +kernel
theorem d_R_lose_22 : decode c_R_lose 22 = .ok (.aload_n 0, 1) := by decide +kernel
theorem d_R_lose_23 : decode c_R_lose 23 = .ok (.getfield 32, 3) := by decide +kernel
theorem d_R_lose_26 : decode c_R_lose 26 = .ok (.iload_n 1, 1) := by decide +kernel
theorem d_R_lose_27 : decode c_R_lose 27 = .ok (.laload, 1) := by decide +kernel
theorem d_R_lose_28 : decode c_R_lose 28 = .ok (.iload 4, 2) := by decide +kernel
theorem d_R_lose_30 : decode c_R_lose 30 = .ok (.iconst 4, 1) := by decide +kernel
theorem d_R_lose_31 : decode c_R_lose 31 = .ok (.idiv, 1) := by decide +kernel
theorem d_R_lose_32 : decode c_R_lose 32 = .ok (.lshr, 1) := by decide +kernel
theorem d_R_lose_33 : decode c_R_lose 33 = .ok (.lconst 1, 1) := by decide +kernel
theorem d_R_lose_34 : decode c_R_lose 34 = .ok (.land, 1) := by decide +kernel
theorem d_R_lose_35 : decode c_R_lose 35 = .ok (.lconst 0, 1) := by decide +kernel
theorem d_R_lose_36 : decode c_R_lose 36 = .ok (.lcmp, 1) := by decide +kernel
theorem d_R_lose_37 : decode c_R_lose 37 = .ok (.ifCond .eq 6, 3) := by decide +kernel
theorem d_R_lose_40 : decode c_R_lose 40 = .ok (.goto 15, 3) := by decide +kernel
theorem d_R_lose_43 : decode c_R_lose 43 = .ok (.aload_n 0, 1) := by decide +kernel
theorem d_R_lose_44 : decode c_R_lose 44 = .ok (.iload_n 3, 1) := by decide +kernel
theorem d_R_lose_45 : decode c_R_lose 45 = .ok (.iload_n 2, 1) := by decide +kernel
theorem d_R_lose_46 : decode c_R_lose 46 = .ok (.iload 4, 2) := by decide +kernel
theorem d_R_lose_48 : decode c_R_lose 48 = .ok (.iadd, 1) := by decide +kernel
theorem d_R_lose_49 : decode c_R_lose 49 = .ok (.invokevirtual 98, 3) := by decide +kernel
theorem d_R_lose_52 : decode c_R_lose 52 = .ok (.iinc 3 1, 3) := by decide +kernel
theorem d_R_lose_55 : decode c_R_lose 55 = .ok (.iinc 4 1, 3) := by decide +kernel
theorem d_R_lose_58 : decode c_R_lose 58 = .ok (.goto (-47), 3) := by decide +kernel
theorem d_R_lose_61 : decode c_R_lose 61 = .ok (.iload_n 2, 1) := by decide +kernel
theorem d_R_lose_62 : decode c_R_lose 62 = .ok (.aload_n 0, 1) := by decide +kernel
theorem d_R_lose_63 : decode c_R_lose 63 = .ok (.getfield 29, 3) := by decide +kernel
theorem d_R_lose_66 : decode c_R_lose 66 = .ok (.iload_n 1, 1) := by decide +kernel
theorem d_R_lose_67 : decode c_R_lose 67 = .ok (.iaload, 1) := by decide +kernel
theorem d_R_lose_68 : decode c_R_lose 68 = .ok (.iadd, 1) := by decide +kernel
theorem d_R_lose_69 : decode c_R_lose 69 = .ok (.iload_n 3, 1) := by decide +kernel
theorem d_R_lose_70 : decode c_R_lose 70 = .ok (.isub, 1) := by decide +kernel
theorem d_R_lose_71 : decode c_R_lose 71 = .ok (.istore 4, 2) := by decide +kernel
theorem d_R_lose_73 : decode c_R_lose 73 = .ok (.iload_n 3, 1) := by decide +kernel
theorem d_R_lose_74 : decode c_R_lose 74 = .ok (.istore 5, 2) := by decide +kernel
theorem d_R_lose_76 : decode c_R_lose 76 = .ok (.iload 5, 2) := by decide +kernel
theorem d_R_lose_78 : decode c_R_lose 78 = .ok (.iload 4, 2) := by decide +kernel
theorem d_R_lose_80 : decode c_R_lose 80 = .ok (.iadd, 1) := by decide +kernel
theorem d_R_lose_81 : decode c_R_lose 81 = .ok (.aload_n 0, 1) := by decide +kernel
theorem d_R_lose_82 : decode c_R_lose 82 = .ok (.getfield 95, 3) := by decide +kernel
theorem d_R_lose_85 : decode c_R_lose 85 = .ok (.if_icmp .ge 20, 3) := by decide +kernel
theorem d_R_lose_88 : decode c_R_lose 88 = .ok (.aload_n 0, 1) := by decide +kernel
theorem d_R_lose_89 : decode c_R_lose 89 = .ok (.iload 5, 2) := by decide +kernel
theorem d_R_lose_91 : decode c_R_lose 91 = .ok (.iload 5, 2) := by decide +kernel
theorem d_R_lose_93 : decode c_R_lose 93 = .ok (.iload 4, 2) := by decide +kernel
theorem d_R_lose_95 : decode c_R_lose 95 = .ok (.iadd, 1) := by decide +kernel
theorem d_R_lose_96 : decode c_R_lose 96 = .ok (.invokevirtual 98, 3) := by decide +kernel
theorem d_R_lose_99 : decode c_R_lose 99 = .ok (.iinc 5 1, 3) := by decide +kernel
theorem d_R_lose_102 : decode c_R_lose 102 = .ok (.goto (-26), 3) := by decide +kernel
theorem d_R_lose_105 : decode c_R_lose 105 = .ok (.aload_n 0, 1) := by decide +kernel
theorem d_R_lose_106 : decode c_R_lose 106 = .ok (.dup, 1) := by decide +kernel
theorem d_R_lose_107 : decode c_R_lose 107 = .ok (.getfield 95, 3) := by decide +kernel
theorem d_R_lose_110 : decode c_R_lose 110 = .ok (.iload 4, 2) := by decide +kernel
theorem d_R_lose_112 : decode c_R_lose 112 = .ok (.isub, 1) := by decide +kernel
theorem d_R_lose_113 : decode c_R_lose 113 = .ok (.putfield 95, 3) := by decide +kernel
theorem d_R_lose_116 : decode c_R_lose 116 = .ok (.aload_n 0, 1) := by decide +kernel
theorem d_R_lose_117 : decode c_R_lose 117 = .ok (.getfield 29, 3) := by decide +kernel
theorem d_R_lose_120 : decode c_R_lose 120 = .ok (.iload_n 1, 1) := by decide +kernel
theorem d_R_lose_121 : decode c_R_lose 121 = .ok (.dup2, 1) := by decide +kernel
theorem d_R_lose_122 : decode c_R_lose 122 = .ok (.iaload, 1) := by decide +kernel
theorem d_R_lose_123 : decode c_R_lose 123 = .ok (.iload 4, 2) := by decide +kernel
theorem d_R_lose_125 : decode c_R_lose 125 = .ok (.isub, 1) := by decide +kernel
theorem d_R_lose_126 : decode c_R_lose 126 = .ok (.iastore, 1) := by decide +kernel
theorem d_R_lose_127 : decode c_R_lose 127 = .ok (.aload_n 0, 1) := by decide +kernel
theorem d_R_lose_128 : decode c_R_lose 128 = .ok (.getfield 32, 3) := by decide +kernel
theorem d_R_lose_131 : decode c_R_lose 131 = .ok (.iload_n 1, 1) := by decide +kernel
theorem d_R_lose_132 : decode c_R_lose 132 = .ok (.lconst 0, 1) := by decide +kernel
theorem d_R_lose_133 : decode c_R_lose 133 = .ok (.lastore, 1) := by decide +kernel
theorem d_R_lose_134 : decode c_R_lose 134 = .ok (.iload 4, 2) := by decide +kernel
theorem d_R_lose_136 : decode c_R_lose 136 = .ok (.ireturn, 1) := by decide +kernel
theorem d_R_giveUp_0 : decode c_R_giveUp 0 = .ok (.aload_n 0, 1) := by decide +kernel
theorem d_R_giveUp_1 : decode c_R_giveUp 1 = .ok (.iconst 0, 1) := by decide +kernel
theorem d_R_giveUp_2 : decode c_R_giveUp 2 = .ok (.putfield 85, 3) := by decide +kernel
theorem d_R_giveUp_5 : decode c_R_giveUp 5 = .ok (.iconst 0, 1) := by decide +kernel
theorem d_R_giveUp_6 : decode c_R_giveUp 6 = .ok (.istore_n 1, 1) := by decide +kernel
theorem d_R_giveUp_7 : decode c_R_giveUp 7 = .ok (.aload_n 0, 1) := by decide +kernel
theorem d_R_giveUp_8 : decode c_R_giveUp 8 = .ok (.getfield 92, 3) := by decide +kernel
theorem d_R_giveUp_11 : decode c_R_giveUp 11 = .ok (.iconst 1, 1) := by decide +kernel
theorem d_R_giveUp_12 : decode c_R_giveUp 12 = .ok (.isub, 1) := by decide +kernel
theorem d_R_giveUp_13 : decode c_R_giveUp 13 = .ok (.istore_n 2, 1) := by decide +kernel
theorem d_R_giveUp_14 : decode c_R_giveUp 14 = .ok (.iload_n 2, 1) := by decide +kernel
theorem d_R_giveUp_15 : decode c_R_giveUp 15 = .ok (.ifCond .lt 31, 3) := by decide +kernel
theorem d_R_giveUp_18 : decode c_R_giveUp 18 = .ok (.iload_n 1, 1) := by decide +kernel
theorem d_R_giveUp_19 : decode c_R_giveUp 19 = .ok (.aload_n 0, 1) := by decide +kernel
theorem d_R_giveUp_20 : decode c_R_giveUp 20 = .ok (.iload_n 2, 1) := by decide +kernel
theorem d_R_giveUp_21 : decode c_R_giveUp 21 = .ok (.invokevirtual 247, 3) := by decide +kernel
theorem d_R_giveUp_24 : decode c_R_giveUp 24 = .ok (.iadd, 1) := by decide +kernel
theorem d_R_giveUp_25 : decode c_R_giveUp 25 = .ok (.istore_n 1, 1) := by decide +kernel
theorem d_R_giveUp_26 : decode c_R_giveUp 26 = .ok (.aload_n 0, 1) := by decide +kernel
theorem d_R_giveUp_27 : decode c_R_giveUp 27 = .ok (.getfield 29, 3) := by decide +kernel
theorem d_R_giveUp_30 : decode c_R_giveUp 30 = .ok (.iload_n 2, 1) := by decide +kernel
theorem d_R_giveUp_31 : decode c_R_giveUp 31 = .ok (.iaload, 1) := by decide +kernel
theorem d_R_giveUp_32 : decode c_R_giveUp 32 = .ok (.ifCond .ne 8, 3) := by decide +kernel
theorem d_R_giveUp_35 : decode c_R_giveUp 35 = .ok (.aload_n 0, 1) := by decide +kernel
theorem d_R_giveUp_36 : decode c_R_giveUp 36 = .ok (.iload_n 2, 1) := by decide +kernel
theorem d_R_giveUp_37 : decode c_R_giveUp 37 = .ok (.invokevirtual 146, 3) := by decide +kernel
theorem d_R_giveUp_40 : decode c_R_giveUp 40 = .ok (.iinc 2 (-1), 3) := by decide +kernel
theorem d_R_giveUp_43 : decode c_R_giveUp 43 = .ok (.goto (-29), 3) := by decide +kernel
theorem d_R_giveUp_46 : decode c_R_giveUp 46 = .ok (.aload_n 0, 1) := by decide +kernel
theorem d_R_giveUp_47 : decode c_R_giveUp 47 = .ok (.iconst 0, 1) := by decide +kernel
theorem d_R_giveUp_48 : decode c_R_giveUp 48 = .ok (.putfield 134, 3) := by decide +kernel
theorem d_R_giveUp_51 : decode c_R_giveUp 51 = .ok (.aload_n 0, 1) := by decide +kernel
theorem d_R_giveUp_52 : decode c_R_giveUp 52 = .ok (.invokevirtual 175, 3) := by decide +kernel
theorem d_R_giveUp_55 : decode c_R_giveUp 55 = .ok (.iload_n 1, 1) := by decide +kernel
theorem d_R_giveUp_56 : decode c_R_giveUp 56 = .ok (.ireturn, 1) := by decide +kernel
theorem d_R_effort_0 : decode c_R_effort 0 = .ok (.aload_n 0, 1) := by decide +kernel
theorem d_R_effort_1 : decode c_R_effort 1 = .ok (.iconst 0, 1) := by decide +kernel
theorem d_R_effort_2 : decode c_R_effort 2 = .ok (.putfield 85, 3) := by decide +kernel
theorem d_R_effort_5 : decode c_R_effort 5 = .ok (.aload_n 0, 1) := by decide +kernel
theorem d_R_effort_6 : decode c_R_effort 6 = .ok (.getfield 227, 3) := by decide +kernel
theorem d_R_effort_9 : decode c_R_effort 9 = .ok (.ifCond .ne 12, 3) := by decide +kernel
theorem d_R_effort_12 : decode c_R_effort 12 = .ok (.aload_n 0, 1) := by decide +kernel
theorem d_R_effort_13 : decode c_R_effort 13 = .ok (.iconst 1, 1) := by decide +kernel
theorem d_R_effort_14 : decode c_R_effort 14 = .ok (.invokevirtual 185, 3) := by decide +kernel
theorem d_R_effort_17 : decode c_R_effort 17 = .ok (.i2d, 1) := by decide +kernel
theorem d_R_effort_18 : decode c_R_effort 18 = .ok (.goto 14, 3) := by decide +kernel
theorem d_R_effort_21 : decode c_R_effort 21 = .ok (.aload_n 0, 1) := by decide +kernel
theorem d_R_effort_22 : decode c_R_effort 22 = .ok (.getfield 211, 3) := by decide +kernel
theorem d_R_effort_25 : decode c_R_effort 25 = .ok (.i2d, 1) := by decide +kernel
theorem d_R_effort_26 : decode c_R_effort 26 = .ok (.aload_n 0, 1) := by decide +kernel
theorem d_R_effort_27 : decode c_R_effort 27 = .ok (.getfield 227, 3) := by decide +kernel
theorem d_R_effort_30 : decode c_R_effort 30 = .ok (.i2d, 1) := by decide +kernel
theorem d_R_effort_31 : decode c_R_effort 31 = .ok (.ddiv, 1) := by decide +kernel
theorem d_R_effort_32 : decode c_R_effort 32 = .ok (.dreturn, 1) := by decide +kernel
theorem d_R_ones_0 : decode c_R_ones 0 = .ok (.iconst 0, 1) := by decide +kernel
theorem d_R_ones_1 : decode c_R_ones 1 = .ok (.istore_n 2, 1) := by decide +kernel
theorem d_R_ones_2 : decode c_R_ones 2 = .ok (.iconst 0, 1) := by decide +kernel
theorem d_R_ones_3 : decode c_R_ones 3 = .ok (.istore_n 3, 1) := by decide +kernel
theorem d_R_ones_4 : decode c_R_ones 4 = .ok (.iload_n 3, 1) := by decide +kernel
theorem d_R_ones_5 : decode c_R_ones 5 = .ok (.bipush 64, 2) := by decide +kernel
theorem d_R_ones_7 : decode c_R_ones 7 = .ok (.if_icmp .ge 22, 3) := by decide +kernel
theorem d_R_ones_10 : decode c_R_ones 10 = .ok (.lload_n 0, 1) := by decide +kernel
theorem d_R_ones_11 : decode c_R_ones 11 = .ok (.iload_n 3, 1) := by decide +kernel
theorem d_R_ones_12 : decode c_R_ones 12 = .ok (.lshr, 1) := by decide +kernel
theorem d_R_ones_13 : decode c_R_ones 13 = .ok (.lconst 1, 1) := by decide +kernel
theorem d_R_ones_14 : decode c_R_ones 14 = .ok (.land, 1) := by decide +kernel
theorem d_R_ones_15 : decode c_R_ones 15 = .ok (.lconst 0, 1) := by decide +kernel
theorem d_R_ones_16 : decode c_R_ones 16 = .ok (.lcmp, 1) := by decide +kernel
theorem d_R_ones_17 : decode c_R_ones 17 = .ok (.ifCond .eq 6, 3) := by decide +kernel
theorem d_R_ones_20 : decode c_R_ones 20 = .ok (.iinc 2 1, 3) := by decide +kernel
theorem d_R_ones_23 : decode c_R_ones 23 = .ok (.iinc 3 1, 3) := by decide +kernel
theorem d_R_ones_26 : decode c_R_ones 26 = .ok (.goto (-22), 3) := by decide +kernel
theorem d_R_ones_29 : decode c_R_ones 29 = .ok (.iload_n 2, 1) := by decide +kernel
theorem d_R_ones_30 : decode c_R_ones 30 = .ok (.ireturn, 1) := by decide +kernel
theorem d_R_table_0 : decode c_R_table 0 = .ok (.aload_n 0, 1) := by decide +kernel
theorem d_R_table_1 : decode c_R_table 1 = .ok (.iconst 0, 1) := by decide +kernel
theorem d_R_table_2 : decode c_R_table 2 = .ok (.putfield 85, 3) := by decide +kernel
theorem d_R_table_5 : decode c_R_table 5 = .ok (.iload_n 1, 1) := by decide +kernel
theorem d_R_table_6 : decode c_R_table 6 = .ok (.iconst 0, 1) := by decide +kernel
theorem d_R_table_7 : decode c_R_table 7 = .ok (.bipush 59, 2) := by decide +kernel
theorem d_R_table_9 : decode c_R_table 9 = .ok (.invokestatic 181, 3) := by decide +kernel
theorem d_R_table_12 : decode c_R_table 12 = .ok (.ifCond .eq 13, 3) := by decide +kernel
theorem d_R_table_15 : decode c_R_table 15 = .ok (.iload_n 2, 1) := by decide +kernel
theorem d_R_table_16 : decode c_R_table 16 = .ok (.iconst 0, 1) := by decide +kernel
theorem d_R_table_17 : decode c_R_table 17 = .ok (.bipush 15, 2) := by decide +kernel
theorem d_R_table_19 : decode c_R_table 19 = .ok (.invokestatic 181, 3) := by decide +kernel
theorem d_R_table_22 : decode c_R_table 22 = .ok (.ifCond .ne 9, 3) := by decide +kernel
theorem d_R_table_25 : decode c_R_table 25 = .ok (.aload_n 0, 1) := by decide +kernel
theorem d_R_table_26 : decode c_R_table 26 = .ok (.iconst 1, 1) := by decide +kernel
theorem d_R_table_27 : decode c_R_table 27 = .ok (.invokevirtual 185, 3) := by decide +kernel
theorem d_R_table_30 : decode c_R_table 30 = .ok (.ireturn, 1) := by decide +kernel
theorem d_R_table_31 : decode c_R_table 31 = .ok (.iload_n 1, 1) := by decide +kernel
theorem d_R_table_32 : decode c_R_table 32 = .ok (.aload_n 0, 1) := by decide +kernel
theorem d_R_table_33 : decode c_R_table 33 = .ok (.getfield 92, 3) := by decide +kernel
theorem d_R_table_36 : decode c_R_table 36 = .ok (.if_icmp .lt 9, 3) := by decide +kernel
theorem d_R_table_39 : decode c_R_table 39 = .ok (.aload_n 0, 1) := by decide +kernel
theorem d_R_table_40 : decode c_R_table 40 = .ok (.iconst 2, 1) := by decide +kernel
end
section
/-! DECODED INSTRUCTIONS -/
theorem d_R_table_41 : decode c_R_table 41 = .ok (.invokevirtual 185, 3) := by decide +kernel
theorem d_R_table_44 : decode c_R_table 44 = .ok (.ireturn, 1) := by decide +kernel
theorem d_R_table_45 : decode c_R_table 45 = .ok (.iload_n 2, 1) := by decide +kernel
theorem d_R_table_46 : decode c_R_table 46 = .ok (.tableswitch 81 0 5 #[38, 45, 52, 59, 65, 71], 38) := by decide +kernel
theorem d_R_table_84 : decode c_R_table 84 = .ok (.aload_n 0, 1) := by decide +kernel
theorem d_R_table_85 : decode c_R_table 85 = .ok (.getfield 23, 3) := by decide +kernel
theorem d_R_table_88 : decode c_R_table 88 = .ok (.iload_n 1, 1) := by decide +kernel
theorem d_R_table_89 : decode c_R_table 89 = .ok (.iaload, 1) := by decide +kernel
theorem d_R_table_90 : decode c_R_table 90 = .ok (.ireturn, 1) := by decide +kernel
theorem d_R_table_91 : decode c_R_table 91 = .ok (.aload_n 0, 1) := by decide +kernel
theorem d_R_table_92 : decode c_R_table 92 = .ok (.getfield 26, 3) := by decide +kernel
theorem d_R_table_95 : decode c_R_table 95 = .ok (.iload_n 1, 1) := by decide +kernel
theorem d_R_table_96 : decode c_R_table 96 = .ok (.iaload, 1) := by decide +kernel
theorem d_R_table_97 : decode c_R_table 97 = .ok (.ireturn, 1) := by decide +kernel
theorem d_R_table_98 : decode c_R_table 98 = .ok (.aload_n 0, 1) := by decide +kernel
theorem d_R_table_99 : decode c_R_table 99 = .ok (.getfield 29, 3) := by decide +kernel
theorem d_R_table_102 : decode c_R_table 102 = .ok (.iload_n 1, 1) := by decide +kernel
theorem d_R_table_103 : decode c_R_table 103 = .ok (.iaload, 1) := by decide +kernel
theorem d_R_table_104 : decode c_R_table 104 = .ok (.ireturn, 1) := by decide +kernel
theorem d_R_table_105 : decode c_R_table 105 = .ok (.aload_n 0, 1) := by decide +kernel
theorem d_R_table_106 : decode c_R_table 106 = .ok (.iload_n 1, 1) := by decide +kernel
theorem d_R_table_107 : decode c_R_table 107 = .ok (.invokevirtual 117, 3) := by decide +kernel
theorem d_R_table_110 : decode c_R_table 110 = .ok (.ireturn, 1) := by decide +kernel
theorem d_R_table_111 : decode c_R_table 111 = .ok (.aload_n 0, 1) := by decide +kernel
theorem d_R_table_112 : decode c_R_table 112 = .ok (.iload_n 1, 1) := by decide +kernel
theorem d_R_table_113 : decode c_R_table 113 = .ok (.invokevirtual 120, 3) := by decide +kernel
theorem d_R_table_116 : decode c_R_table 116 = .ok (.ireturn, 1) := by decide +kernel
theorem d_R_table_117 : decode c_R_table 117 = .ok (.aload_n 0, 1) := by decide +kernel
theorem d_R_table_118 : decode c_R_table 118 = .ok (.getfield 32, 3) := by decide +kernel
theorem d_R_table_121 : decode c_R_table 121 = .ok (.iload_n 1, 1) := by decide +kernel
theorem d_R_table_122 : decode c_R_table 122 = .ok (.laload, 1) := by decide +kernel
theorem d_R_table_123 : decode c_R_table 123 = .ok (.invokestatic 250, 3) := by decide +kernel
theorem d_R_table_126 : decode c_R_table 126 = .ok (.ireturn, 1) := by decide +kernel
theorem d_R_table_127 : decode c_R_table 127 = .ok (.iload_n 2, 1) := by decide +kernel
theorem d_R_table_128 : decode c_R_table 128 = .ok (.bipush 6, 2) := by decide +kernel
theorem d_R_table_130 : decode c_R_table 130 = .ok (.isub, 1) := by decide +kernel
theorem d_R_table_131 : decode c_R_table 131 = .ok (.aload_n 0, 1) := by decide +kernel
theorem d_R_table_132 : decode c_R_table 132 = .ok (.getfield 29, 3) := by decide +kernel
theorem d_R_table_135 : decode c_R_table 135 = .ok (.iload_n 1, 1) := by decide +kernel
theorem d_R_table_136 : decode c_R_table 136 = .ok (.iaload, 1) := by decide +kernel
theorem d_R_table_137 : decode c_R_table 137 = .ok (.if_icmp .ge 21, 3) := by decide +kernel
theorem d_R_table_140 : decode c_R_table 140 = .ok (.aload_n 0, 1) := by decide +kernel
theorem d_R_table_141 : decode c_R_table 141 = .ok (.getfield 13, 3) := by decide +kernel
theorem d_R_table_144 : decode c_R_table 144 = .ok (.aload_n 0, 1) := by decide +kernel
theorem d_R_table_145 : decode c_R_table 145 = .ok (.iload_n 1, 1) := by decide +kernel
theorem d_R_table_146 : decode c_R_table 146 = .ok (.invokevirtual 88, 3) := by decide +kernel
theorem d_R_table_149 : decode c_R_table 149 = .ok (.iload_n 2, 1) := by decide +kernel
theorem d_R_table_150 : decode c_R_table 150 = .ok (.iadd, 1) := by decide +kernel
theorem d_R_table_151 : decode c_R_table 151 = .ok (.bipush 6, 2) := by decide +kernel
theorem d_R_table_153 : decode c_R_table 153 = .ok (.isub, 1) := by decide +kernel
theorem d_R_table_154 : decode c_R_table 154 = .ok (.iaload, 1) := by decide +kernel
theorem d_R_table_155 : decode c_R_table 155 = .ok (.goto 4, 3) := by decide +kernel
theorem d_R_table_158 : decode c_R_table 158 = .ok (.iconst 0, 1) := by decide +kernel
theorem d_R_table_159 : decode c_R_table 159 = .ok (.ireturn, 1) := by decide +kernel
theorem d_R_count_0 : decode c_R_count 0 = .ok (.aload_n 0, 1) := by decide +kernel
theorem d_R_count_1 : decode c_R_count 1 = .ok (.iconst 0, 1) := by decide +kernel
theorem d_R_count_2 : decode c_R_count 2 = .ok (.putfield 85, 3) := by decide +kernel
theorem d_R_count_5 : decode c_R_count 5 = .ok (.iload_n 1, 1) := by decide +kernel
theorem d_R_count_6 : decode c_R_count 6 = .ok (.bipush 11, 2) := by decide +kernel
theorem d_R_count_8 : decode c_R_count 8 = .ok (.bipush 14, 2) := by decide +kernel
theorem d_R_count_10 : decode c_R_count 10 = .ok (.invokestatic 181, 3) := by decide +kernel
theorem d_R_count_13 : decode c_R_count 13 = .ok (.ifCond .eq 12, 3) := by decide +kernel
theorem d_R_count_16 : decode c_R_count 16 = .ok (.aload_n 0, 1) := by decide +kernel
theorem d_R_count_17 : decode c_R_count 17 = .ok (.iload_n 1, 1) := by decide +kernel
theorem d_R_count_18 : decode c_R_count 18 = .ok (.bipush 11, 2) := by decide +kernel
theorem d_R_count_20 : decode c_R_count 20 = .ok (.isub, 1) := by decide +kernel
theorem d_R_count_21 : decode c_R_count 21 = .ok (.invokevirtual 156, 3) := by decide +kernel
theorem d_R_count_24 : decode c_R_count 24 = .ok (.ireturn, 1) := by decide +kernel
theorem d_R_count_25 : decode c_R_count 25 = .ok (.iload_n 1, 1) := by decide +kernel
theorem d_R_count_26 : decode c_R_count 26 = .ok (.tableswitch 155 0 16 #[82, 87, 92, 97, 102, 107, 120, 125, 130, 135, 140, 155, 155, 155, 155, 145, 145], 82) := by decide +kernel
theorem d_R_count_108 : decode c_R_count 108 = .ok (.aload_n 0, 1) := by decide +kernel
theorem d_R_count_109 : decode c_R_count 109 = .ok (.getfield 114, 3) := by decide +kernel
theorem d_R_count_112 : decode c_R_count 112 = .ok (.ireturn, 1) := by decide +kernel
theorem d_R_count_113 : decode c_R_count 113 = .ok (.aload_n 0, 1) := by decide +kernel
theorem d_R_count_114 : decode c_R_count 114 = .ok (.getfield 166, 3) := by decide +kernel
theorem d_R_count_117 : decode c_R_count 117 = .ok (.ireturn, 1) := by decide +kernel
theorem d_R_count_118 : decode c_R_count 118 = .ok (.aload_n 0, 1) := by decide +kernel
theorem d_R_count_119 : decode c_R_count 119 = .ok (.getfield 169, 3) := by decide +kernel
theorem d_R_count_122 : decode c_R_count 122 = .ok (.ireturn, 1) := by decide +kernel
theorem d_R_count_123 : decode c_R_count 123 = .ok (.aload_n 0, 1) := by decide +kernel
theorem d_R_count_124 : decode c_R_count 124 = .ok (.getfield 172, 3) := by decide +kernel
theorem d_R_count_127 : decode c_R_count 127 = .ok (.ireturn, 1) := by decide +kernel
theorem d_R_count_128 : decode c_R_count 128 = .ok (.aload_n 0, 1) := by decide +kernel
theorem d_R_count_129 : decode c_R_count 129 = .ok (.getfield 92, 3) := by decide +kernel
theorem d_R_count_132 : decode c_R_count 132 = .ok (.ireturn, 1) := by decide +kernel
theorem d_R_count_133 : decode c_R_count 133 = .ok (.aload_n 0, 1) := by decide +kernel
theorem d_R_count_134 : decode c_R_count 134 = .ok (.getfield 134, 3) := by decide +kernel
theorem d_R_count_137 : decode c_R_count 137 = .ok (.ifCond .eq 7, 3) := by decide +kernel
theorem d_R_count_140 : decode c_R_count 140 = .ok (.iconst 1, 1) := by decide +kernel
theorem d_R_count_141 : decode c_R_count 141 = .ok (.goto 4, 3) := by decide +kernel
theorem d_R_count_144 : decode c_R_count 144 = .ok (.iconst 0, 1) := by decide +kernel
theorem d_R_count_145 : decode c_R_count 145 = .ok (.ireturn, 1) := by decide +kernel
theorem d_R_count_146 : decode c_R_count 146 = .ok (.aload_n 0, 1) := by decide +kernel
theorem d_R_count_147 : decode c_R_count 147 = .ok (.getfield 211, 3) := by decide +kernel
theorem d_R_count_150 : decode c_R_count 150 = .ok (.ireturn, 1) := by decide +kernel
theorem d_R_count_151 : decode c_R_count 151 = .ok (.aload_n 0, 1) := by decide +kernel
theorem d_R_count_152 : decode c_R_count 152 = .ok (.getfield 224, 3) := by decide +kernel
theorem d_R_count_155 : decode c_R_count 155 = .ok (.ireturn, 1) := by decide +kernel
theorem d_R_count_156 : decode c_R_count 156 = .ok (.aload_n 0, 1) := by decide +kernel
theorem d_R_count_157 : decode c_R_count 157 = .ok (.getfield 227, 3) := by decide +kernel
theorem d_R_count_160 : decode c_R_count 160 = .ok (.ireturn, 1) := by decide +kernel
theorem d_R_count_161 : decode c_R_count 161 = .ok (.aload_n 0, 1) := by decide +kernel
theorem d_R_count_162 : decode c_R_count 162 = .ok (.getfield 105, 3) := by decide +kernel
theorem d_R_count_165 : decode c_R_count 165 = .ok (.ireturn, 1) := by decide +kernel
theorem d_R_count_166 : decode c_R_count 166 = .ok (.aload_n 0, 1) := by decide +kernel
theorem d_R_count_167 : decode c_R_count 167 = .ok (.getfield 131, 3) := by decide +kernel
theorem d_R_count_170 : decode c_R_count 170 = .ok (.ireturn, 1) := by decide +kernel
theorem d_R_count_171 : decode c_R_count 171 = .ok (.aload_n 0, 1) := by decide +kernel
theorem d_R_count_172 : decode c_R_count 172 = .ok (.getfield 67, 3) := by decide +kernel
theorem d_R_count_175 : decode c_R_count 175 = .ok (.iload_n 1, 1) := by decide +kernel
theorem d_R_count_176 : decode c_R_count 176 = .ok (.bipush 14, 2) := by decide +kernel
theorem d_R_count_178 : decode c_R_count 178 = .ok (.isub, 1) := by decide +kernel
theorem d_R_count_179 : decode c_R_count 179 = .ok (.iaload, 1) := by decide +kernel
theorem d_R_count_180 : decode c_R_count 180 = .ok (.ireturn, 1) := by decide +kernel
theorem d_R_count_181 : decode c_R_count 181 = .ok (.aload_n 0, 1) := by decide +kernel
theorem d_R_count_182 : decode c_R_count 182 = .ok (.iconst 1, 1) := by decide +kernel
theorem d_R_count_183 : decode c_R_count 183 = .ok (.invokevirtual 185, 3) := by decide +kernel
theorem d_R_count_186 : decode c_R_count 186 = .ok (.ireturn, 1) := by decide +kernel
end
