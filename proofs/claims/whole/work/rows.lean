section
-- ===== PART A: goes FIRST, ahead of the names: the tables' words, and 'selects' of the private methods out of them =====
/-- a private method of a class that the tables say can be made, by its rows of tables_1 -/
def lw_okq (q : MethodName × Nat) : Prop := (q.1.cls ≠ "java/lang/invoke/MethodHandle" ∧ q.1.cls ≠ "java/lang/invoke/VarHandle") ∧ Cond.instantiable q.1.cls q.2 ∈ tables_1 ∧ Cond.privateMethod q.1 ∈ tables_1 ∧ Cond.instanceMethod q.1 ∈ tables_1
theorem lw_p0 : lw_okq (⟨"LevelStore$Levels", "changeShelf", "()V"⟩, 9) := ⟨⟨by decide +kernel, by decide +kernel⟩, List.mem_of_getElem? (i := 98) (by decide +kernel), List.mem_of_getElem? (i := 253) (by decide +kernel), List.mem_of_getElem? (i := 254) (by decide +kernel)⟩
theorem lw_p1 : lw_okq (⟨"LevelStore", "oldest", "()I"⟩, 9) := ⟨⟨by decide +kernel, by decide +kernel⟩, List.mem_of_getElem? (i := 20) (by decide +kernel), List.mem_of_getElem? (i := 257) (by decide +kernel), List.mem_of_getElem? (i := 258) (by decide +kernel)⟩
theorem lw_p2 : lw_okq (⟨"LevelStore$Levels", "fullLevel", "()I"⟩, 9) := ⟨⟨by decide +kernel, by decide +kernel⟩, List.mem_of_getElem? (i := 98) (by decide +kernel), List.mem_of_getElem? (i := 268) (by decide +kernel), List.mem_of_getElem? (i := 269) (by decide +kernel)⟩
theorem lw_p3 : lw_okq (⟨"LevelStore$Levels", "merge", "(IIII)V"⟩, 9) := ⟨⟨by decide +kernel, by decide +kernel⟩, List.mem_of_getElem? (i := 98) (by decide +kernel), List.mem_of_getElem? (i := 284) (by decide +kernel), List.mem_of_getElem? (i := 285) (by decide +kernel)⟩
theorem lw_p4 : lw_okq (⟨"LevelStore$Levels", "sortJoining", "()V"⟩, 9) := ⟨⟨by decide +kernel, by decide +kernel⟩, List.mem_of_getElem? (i := 98) (by decide +kernel), List.mem_of_getElem? (i := 306) (by decide +kernel), List.mem_of_getElem? (i := 307) (by decide +kernel)⟩
theorem lw_p5 : lw_okq (⟨"LevelStore$Levels", "addStaying", "(II)V"⟩, 9) := ⟨⟨by decide +kernel, by decide +kernel⟩, List.mem_of_getElem? (i := 98) (by decide +kernel), List.mem_of_getElem? (i := 320) (by decide +kernel), List.mem_of_getElem? (i := 321) (by decide +kernel)⟩
theorem lw_p6 : lw_okq (⟨"LevelStore$Levels", "addMerged", "(II)V"⟩, 9) := ⟨⟨by decide +kernel, by decide +kernel⟩, List.mem_of_getElem? (i := 98) (by decide +kernel), List.mem_of_getElem? (i := 330) (by decide +kernel), List.mem_of_getElem? (i := 331) (by decide +kernel)⟩
theorem lw_p7 : lw_okq (⟨"LevelStore$Levels", "isOutdated", "(II)Z"⟩, 9) := ⟨⟨by decide +kernel, by decide +kernel⟩, List.mem_of_getElem? (i := 98) (by decide +kernel), List.mem_of_getElem? (i := 334) (by decide +kernel), List.mem_of_getElem? (i := 335) (by decide +kernel)⟩
theorem lw_p8 : lw_okq (⟨"LevelStore$Levels", "isNeedless", "(III)Z"⟩, 9) := ⟨⟨by decide +kernel, by decide +kernel⟩, List.mem_of_getElem? (i := 98) (by decide +kernel), List.mem_of_getElem? (i := 338) (by decide +kernel), List.mem_of_getElem? (i := 339) (by decide +kernel)⟩
theorem lw_p9 : lw_okq (⟨"LevelStore$Levels", "endNewTable", "(I)V"⟩, 9) := ⟨⟨by decide +kernel, by decide +kernel⟩, List.mem_of_getElem? (i := 98) (by decide +kernel), List.mem_of_getElem? (i := 346) (by decide +kernel), List.mem_of_getElem? (i := 347) (by decide +kernel)⟩
theorem lw_p10 : lw_okq (⟨"LevelStore", "addToPending", "(IIZ)V"⟩, 9) := ⟨⟨by decide +kernel, by decide +kernel⟩, List.mem_of_getElem? (i := 20) (by decide +kernel), List.mem_of_getElem? (i := 360) (by decide +kernel), List.mem_of_getElem? (i := 361) (by decide +kernel)⟩
theorem lw_p11 : lw_okq (⟨"java/lang/Throwable", "fillInStackTrace", "(I)Ljava/lang/Throwable;"⟩, 6) := ⟨⟨by decide +kernel, by decide +kernel⟩, List.mem_of_getElem? (i := 408) (by decide +kernel), List.mem_of_getElem? (i := 406) (by decide +kernel), List.mem_of_getElem? (i := 407) (by decide +kernel)⟩
theorem lw_p12 : lw_okq (⟨"LevelStore", "write", "()I"⟩, 9) := ⟨⟨by decide +kernel, by decide +kernel⟩, List.mem_of_getElem? (i := 20) (by decide +kernel), List.mem_of_getElem? (i := 452) (by decide +kernel), List.mem_of_getElem? (i := 453) (by decide +kernel)⟩
theorem lw_p13 : lw_okq (⟨"LevelStore", "moveMemoryToLevel0", "()V"⟩, 9) := ⟨⟨by decide +kernel, by decide +kernel⟩, List.mem_of_getElem? (i := 20) (by decide +kernel), List.mem_of_getElem? (i := 480) (by decide +kernel), List.mem_of_getElem? (i := 481) (by decide +kernel)⟩
theorem lw_p14 : lw_okq (⟨"LevelStore", "numberSeenBy", "(I)I"⟩, 9) := ⟨⟨by decide +kernel, by decide +kernel⟩, List.mem_of_getElem? (i := 20) (by decide +kernel), List.mem_of_getElem? (i := 546) (by decide +kernel), List.mem_of_getElem? (i := 547) (by decide +kernel)⟩
theorem lw_p15 : lw_okq (⟨"LevelStore", "lookInTables", "(II)I"⟩, 9) := ⟨⟨by decide +kernel, by decide +kernel⟩, List.mem_of_getElem? (i := 20) (by decide +kernel), List.mem_of_getElem? (i := 572) (by decide +kernel), List.mem_of_getElem? (i := 573) (by decide +kernel)⟩
def lw_privs_1 : List (MethodName × Nat) := [(⟨"LevelStore$Levels", "changeShelf", "()V"⟩, 9), (⟨"LevelStore", "oldest", "()I"⟩, 9), (⟨"LevelStore$Levels", "fullLevel", "()I"⟩, 9), (⟨"LevelStore$Levels", "merge", "(IIII)V"⟩, 9), (⟨"LevelStore$Levels", "sortJoining", "()V"⟩, 9), (⟨"LevelStore$Levels", "addStaying", "(II)V"⟩, 9), (⟨"LevelStore$Levels", "addMerged", "(II)V"⟩, 9), (⟨"LevelStore$Levels", "isOutdated", "(II)Z"⟩, 9), (⟨"LevelStore$Levels", "isNeedless", "(III)Z"⟩, 9), (⟨"LevelStore$Levels", "endNewTable", "(I)V"⟩, 9), (⟨"LevelStore", "addToPending", "(IIZ)V"⟩, 9), (⟨"java/lang/Throwable", "fillInStackTrace", "(I)Ljava/lang/Throwable;"⟩, 6), (⟨"LevelStore", "write", "()I"⟩, 9), (⟨"LevelStore", "moveMemoryToLevel0", "()V"⟩, 9), (⟨"LevelStore", "numberSeenBy", "(I)I"⟩, 9), (⟨"LevelStore", "lookInTables", "(II)I"⟩, 9)]
theorem lw_r1 : ∀ q ∈ lw_privs_1, lw_okq q := List.forall_mem_cons.mpr ⟨lw_p0, List.forall_mem_cons.mpr ⟨lw_p1, List.forall_mem_cons.mpr ⟨lw_p2, List.forall_mem_cons.mpr ⟨lw_p3, List.forall_mem_cons.mpr ⟨lw_p4, List.forall_mem_cons.mpr ⟨lw_p5, List.forall_mem_cons.mpr ⟨lw_p6, List.forall_mem_cons.mpr ⟨lw_p7, List.forall_mem_cons.mpr ⟨lw_p8, List.forall_mem_cons.mpr ⟨lw_p9, List.forall_mem_cons.mpr ⟨lw_p10, List.forall_mem_cons.mpr ⟨lw_p11, List.forall_mem_cons.mpr ⟨lw_p12, List.forall_mem_cons.mpr ⟨lw_p13, List.forall_mem_cons.mpr ⟨lw_p14, List.forall_mem_cons.mpr ⟨lw_p15, fun _ h => absurd h List.not_mem_nil⟩⟩⟩⟩⟩⟩⟩⟩⟩⟩⟩⟩⟩⟩⟩⟩
theorem lw_p16 : lw_okq (⟨"LevelStore", "lookInTable", "(III)I"⟩, 9) := ⟨⟨by decide +kernel, by decide +kernel⟩, List.mem_of_getElem? (i := 20) (by decide +kernel), List.mem_of_getElem? (i := 577) (by decide +kernel), List.mem_of_getElem? (i := 578) (by decide +kernel)⟩
theorem lw_p17 : lw_okq (⟨"LevelStore", "hasValue", "(II)Z"⟩, 9) := ⟨⟨by decide +kernel, by decide +kernel⟩, List.mem_of_getElem? (i := 20) (by decide +kernel), List.mem_of_getElem? (i := 606) (by decide +kernel), List.mem_of_getElem? (i := 607) (by decide +kernel)⟩
theorem lw_p18 : lw_okq (⟨"LevelStoreModel", "write", "(IIZ)I"⟩, 39) := ⟨⟨by decide +kernel, by decide +kernel⟩, List.mem_of_getElem? (i := 706) (by decide +kernel), List.mem_of_getElem? (i := 839) (by decide +kernel), List.mem_of_getElem? (i := 840) (by decide +kernel)⟩
theorem lw_p19 : lw_okq (⟨"LevelStoreModel", "raise", "(I)I"⟩, 39) := ⟨⟨by decide +kernel, by decide +kernel⟩, List.mem_of_getElem? (i := 706) (by decide +kernel), List.mem_of_getElem? (i := 846) (by decide +kernel), List.mem_of_getElem? (i := 847) (by decide +kernel)⟩
theorem lw_p20 : lw_okq (⟨"LevelStoreModel", "full", "(I)Z"⟩, 39) := ⟨⟨by decide +kernel, by decide +kernel⟩, List.mem_of_getElem? (i := 706) (by decide +kernel), List.mem_of_getElem? (i := 850) (by decide +kernel), List.mem_of_getElem? (i := 851) (by decide +kernel)⟩
theorem lw_p21 : lw_okq (⟨"LevelStoreModel", "onLevel", "(I)I"⟩, 39) := ⟨⟨by decide +kernel, by decide +kernel⟩, List.mem_of_getElem? (i := 706) (by decide +kernel), List.mem_of_getElem? (i := 854) (by decide +kernel), List.mem_of_getElem? (i := 855) (by decide +kernel)⟩
theorem lw_p22 : lw_okq (⟨"LevelStoreModel", "remember", "(IIZ)V"⟩, 39) := ⟨⟨by decide +kernel, by decide +kernel⟩, List.mem_of_getElem? (i := 706) (by decide +kernel), List.mem_of_getElem? (i := 858) (by decide +kernel), List.mem_of_getElem? (i := 859) (by decide +kernel)⟩
theorem lw_p23 : lw_okq (⟨"LevelStoreModel", "logged", "(I)V"⟩, 39) := ⟨⟨by decide +kernel, by decide +kernel⟩, List.mem_of_getElem? (i := 706) (by decide +kernel), List.mem_of_getElem? (i := 862) (by decide +kernel), List.mem_of_getElem? (i := 863) (by decide +kernel)⟩
theorem lw_p24 : lw_okq (⟨"LevelStoreModel", "flushAll", "()V"⟩, 39) := ⟨⟨by decide +kernel, by decide +kernel⟩, List.mem_of_getElem? (i := 706) (by decide +kernel), List.mem_of_getElem? (i := 866) (by decide +kernel), List.mem_of_getElem? (i := 867) (by decide +kernel)⟩
theorem lw_p25 : lw_okq (⟨"LevelStoreModel", "enter", "(IIIZ)V"⟩, 39) := ⟨⟨by decide +kernel, by decide +kernel⟩, List.mem_of_getElem? (i := 706) (by decide +kernel), List.mem_of_getElem? (i := 870) (by decide +kernel), List.mem_of_getElem? (i := 871) (by decide +kernel)⟩
theorem lw_p26 : lw_okq (⟨"LevelStoreModel", "copyWork", "(II)V"⟩, 39) := ⟨⟨by decide +kernel, by decide +kernel⟩, List.mem_of_getElem? (i := 706) (by decide +kernel), List.mem_of_getElem? (i := 874) (by decide +kernel), List.mem_of_getElem? (i := 875) (by decide +kernel)⟩
theorem lw_p27 : lw_okq (⟨"LevelStoreModel", "insert", "(IIII)V"⟩, 39) := ⟨⟨by decide +kernel, by decide +kernel⟩, List.mem_of_getElem? (i := 706) (by decide +kernel), List.mem_of_getElem? (i := 878) (by decide +kernel), List.mem_of_getElem? (i := 879) (by decide +kernel)⟩
theorem lw_p28 : lw_okq (⟨"LevelStoreModel", "start", "(I)I"⟩, 39) := ⟨⟨by decide +kernel, by decide +kernel⟩, List.mem_of_getElem? (i := 706) (by decide +kernel), List.mem_of_getElem? (i := 882) (by decide +kernel), List.mem_of_getElem? (i := 883) (by decide +kernel)⟩
theorem lw_p29 : lw_okq (⟨"LevelStoreModel", "moveEntry", "(II)V"⟩, 39) := ⟨⟨by decide +kernel, by decide +kernel⟩, List.mem_of_getElem? (i := 706) (by decide +kernel), List.mem_of_getElem? (i := 886) (by decide +kernel), List.mem_of_getElem? (i := 887) (by decide +kernel)⟩
theorem lw_p30 : lw_okq (⟨"LevelStoreModel", "moveTable", "(II)V"⟩, 39) := ⟨⟨by decide +kernel, by decide +kernel⟩, List.mem_of_getElem? (i := 706) (by decide +kernel), List.mem_of_getElem? (i := 890) (by decide +kernel), List.mem_of_getElem? (i := 891) (by decide +kernel)⟩
theorem lw_p31 : lw_okq (⟨"LevelStoreModel", "tidy", "()V"⟩, 39) := ⟨⟨by decide +kernel, by decide +kernel⟩, List.mem_of_getElem? (i := 706) (by decide +kernel), List.mem_of_getElem? (i := 894) (by decide +kernel), List.mem_of_getElem? (i := 895) (by decide +kernel)⟩
def lw_privs_2 : List (MethodName × Nat) := [(⟨"LevelStore", "lookInTable", "(III)I"⟩, 9), (⟨"LevelStore", "hasValue", "(II)Z"⟩, 9), (⟨"LevelStoreModel", "write", "(IIZ)I"⟩, 39), (⟨"LevelStoreModel", "raise", "(I)I"⟩, 39), (⟨"LevelStoreModel", "full", "(I)Z"⟩, 39), (⟨"LevelStoreModel", "onLevel", "(I)I"⟩, 39), (⟨"LevelStoreModel", "remember", "(IIZ)V"⟩, 39), (⟨"LevelStoreModel", "logged", "(I)V"⟩, 39), (⟨"LevelStoreModel", "flushAll", "()V"⟩, 39), (⟨"LevelStoreModel", "enter", "(IIIZ)V"⟩, 39), (⟨"LevelStoreModel", "copyWork", "(II)V"⟩, 39), (⟨"LevelStoreModel", "insert", "(IIII)V"⟩, 39), (⟨"LevelStoreModel", "start", "(I)I"⟩, 39), (⟨"LevelStoreModel", "moveEntry", "(II)V"⟩, 39), (⟨"LevelStoreModel", "moveTable", "(II)V"⟩, 39), (⟨"LevelStoreModel", "tidy", "()V"⟩, 39)]
theorem lw_r2 : ∀ q ∈ lw_privs_2, lw_okq q := List.forall_mem_cons.mpr ⟨lw_p16, List.forall_mem_cons.mpr ⟨lw_p17, List.forall_mem_cons.mpr ⟨lw_p18, List.forall_mem_cons.mpr ⟨lw_p19, List.forall_mem_cons.mpr ⟨lw_p20, List.forall_mem_cons.mpr ⟨lw_p21, List.forall_mem_cons.mpr ⟨lw_p22, List.forall_mem_cons.mpr ⟨lw_p23, List.forall_mem_cons.mpr ⟨lw_p24, List.forall_mem_cons.mpr ⟨lw_p25, List.forall_mem_cons.mpr ⟨lw_p26, List.forall_mem_cons.mpr ⟨lw_p27, List.forall_mem_cons.mpr ⟨lw_p28, List.forall_mem_cons.mpr ⟨lw_p29, List.forall_mem_cons.mpr ⟨lw_p30, List.forall_mem_cons.mpr ⟨lw_p31, fun _ h => absurd h List.not_mem_nil⟩⟩⟩⟩⟩⟩⟩⟩⟩⟩⟩⟩⟩⟩⟩⟩
theorem lw_p32 : lw_okq (⟨"LevelStoreModel", "merge", "(I)Z"⟩, 39) := ⟨⟨by decide +kernel, by decide +kernel⟩, List.mem_of_getElem? (i := 706) (by decide +kernel), List.mem_of_getElem? (i := 898) (by decide +kernel), List.mem_of_getElem? (i := 899) (by decide +kernel)⟩
theorem lw_p33 : lw_okq (⟨"LevelStoreModel", "low", "(I)I"⟩, 39) := ⟨⟨by decide +kernel, by decide +kernel⟩, List.mem_of_getElem? (i := 706) (by decide +kernel), List.mem_of_getElem? (i := 902) (by decide +kernel), List.mem_of_getElem? (i := 903) (by decide +kernel)⟩
theorem lw_p34 : lw_okq (⟨"LevelStoreModel", "high", "(I)I"⟩, 39) := ⟨⟨by decide +kernel, by decide +kernel⟩, List.mem_of_getElem? (i := 706) (by decide +kernel), List.mem_of_getElem? (i := 906) (by decide +kernel), List.mem_of_getElem? (i := 907) (by decide +kernel)⟩
theorem lw_p35 : lw_okq (⟨"LevelStoreModel", "dropAll", "(I)V"⟩, 39) := ⟨⟨by decide +kernel, by decide +kernel⟩, List.mem_of_getElem? (i := 706) (by decide +kernel), List.mem_of_getElem? (i := 910) (by decide +kernel), List.mem_of_getElem? (i := 911) (by decide +kernel)⟩
theorem lw_p36 : lw_okq (⟨"LevelStoreModel", "oldest", "()I"⟩, 39) := ⟨⟨by decide +kernel, by decide +kernel⟩, List.mem_of_getElem? (i := 706) (by decide +kernel), List.mem_of_getElem? (i := 914) (by decide +kernel), List.mem_of_getElem? (i := 915) (by decide +kernel)⟩
theorem lw_p37 : lw_okq (⟨"LevelStoreModel", "deeper", "(II)Z"⟩, 39) := ⟨⟨by decide +kernel, by decide +kernel⟩, List.mem_of_getElem? (i := 706) (by decide +kernel), List.mem_of_getElem? (i := 918) (by decide +kernel), List.mem_of_getElem? (i := 919) (by decide +kernel)⟩
theorem lw_p38 : lw_okq (⟨"LevelStoreModel", "takeOut", "(I)V"⟩, 39) := ⟨⟨by decide +kernel, by decide +kernel⟩, List.mem_of_getElem? (i := 706) (by decide +kernel), List.mem_of_getElem? (i := 922) (by decide +kernel), List.mem_of_getElem? (i := 923) (by decide +kernel)⟩
theorem lw_p39 : lw_okq (⟨"LevelStoreModel", "place", "(I)V"⟩, 39) := ⟨⟨by decide +kernel, by decide +kernel⟩, List.mem_of_getElem? (i := 706) (by decide +kernel), List.mem_of_getElem? (i := 926) (by decide +kernel), List.mem_of_getElem? (i := 927) (by decide +kernel)⟩
theorem lw_p40 : lw_okq (⟨"LevelStoreModel", "pick", "(I)I"⟩, 39) := ⟨⟨by decide +kernel, by decide +kernel⟩, List.mem_of_getElem? (i := 706) (by decide +kernel), List.mem_of_getElem? (i := 930) (by decide +kernel), List.mem_of_getElem? (i := 931) (by decide +kernel)⟩
theorem lw_p41 : lw_okq (⟨"LevelStoreModel", "upTo", "(I)I"⟩, 39) := ⟨⟨by decide +kernel, by decide +kernel⟩, List.mem_of_getElem? (i := 706) (by decide +kernel), List.mem_of_getElem? (i := 962) (by decide +kernel), List.mem_of_getElem? (i := 963) (by decide +kernel)⟩
theorem lw_p42 : lw_okq (⟨"LevelStoreModel", "look", "(II)V"⟩, 39) := ⟨⟨by decide +kernel, by decide +kernel⟩, List.mem_of_getElem? (i := 706) (by decide +kernel), List.mem_of_getElem? (i := 966) (by decide +kernel), List.mem_of_getElem? (i := 967) (by decide +kernel)⟩
theorem lw_p43 : lw_okq (⟨"LevelStoreModel", "lookInMemory", "(II)V"⟩, 39) := ⟨⟨by decide +kernel, by decide +kernel⟩, List.mem_of_getElem? (i := 706) (by decide +kernel), List.mem_of_getElem? (i := 970) (by decide +kernel), List.mem_of_getElem? (i := 971) (by decide +kernel)⟩
theorem lw_p44 : lw_okq (⟨"LevelStoreModel", "passes", "(II)Z"⟩, 39) := ⟨⟨by decide +kernel, by decide +kernel⟩, List.mem_of_getElem? (i := 706) (by decide +kernel), List.mem_of_getElem? (i := 974) (by decide +kernel), List.mem_of_getElem? (i := 975) (by decide +kernel)⟩
theorem lw_p45 : lw_okq (⟨"LevelStoreModel", "readBlocks", "(III)I"⟩, 39) := ⟨⟨by decide +kernel, by decide +kernel⟩, List.mem_of_getElem? (i := 706) (by decide +kernel), List.mem_of_getElem? (i := 984) (by decide +kernel), List.mem_of_getElem? (i := 985) (by decide +kernel)⟩
theorem lw_p46 : lw_okq (⟨"LevelStoreModel", "foundGone", "()Z"⟩, 39) := ⟨⟨by decide +kernel, by decide +kernel⟩, List.mem_of_getElem? (i := 706) (by decide +kernel), List.mem_of_getElem? (i := 988) (by decide +kernel), List.mem_of_getElem? (i := 989) (by decide +kernel)⟩
theorem lw_p47 : lw_okq (⟨"LevelStoreModel", "lookThrough", "(II)V"⟩, 39) := ⟨⟨by decide +kernel, by decide +kernel⟩, List.mem_of_getElem? (i := 706) (by decide +kernel), List.mem_of_getElem? (i := 996) (by decide +kernel), List.mem_of_getElem? (i := 997) (by decide +kernel)⟩
def lw_privs_3 : List (MethodName × Nat) := [(⟨"LevelStoreModel", "merge", "(I)Z"⟩, 39), (⟨"LevelStoreModel", "low", "(I)I"⟩, 39), (⟨"LevelStoreModel", "high", "(I)I"⟩, 39), (⟨"LevelStoreModel", "dropAll", "(I)V"⟩, 39), (⟨"LevelStoreModel", "oldest", "()I"⟩, 39), (⟨"LevelStoreModel", "deeper", "(II)Z"⟩, 39), (⟨"LevelStoreModel", "takeOut", "(I)V"⟩, 39), (⟨"LevelStoreModel", "place", "(I)V"⟩, 39), (⟨"LevelStoreModel", "pick", "(I)I"⟩, 39), (⟨"LevelStoreModel", "upTo", "(I)I"⟩, 39), (⟨"LevelStoreModel", "look", "(II)V"⟩, 39), (⟨"LevelStoreModel", "lookInMemory", "(II)V"⟩, 39), (⟨"LevelStoreModel", "passes", "(II)Z"⟩, 39), (⟨"LevelStoreModel", "readBlocks", "(III)I"⟩, 39), (⟨"LevelStoreModel", "foundGone", "()Z"⟩, 39), (⟨"LevelStoreModel", "lookThrough", "(II)V"⟩, 39)]
theorem lw_r3 : ∀ q ∈ lw_privs_3, lw_okq q := List.forall_mem_cons.mpr ⟨lw_p32, List.forall_mem_cons.mpr ⟨lw_p33, List.forall_mem_cons.mpr ⟨lw_p34, List.forall_mem_cons.mpr ⟨lw_p35, List.forall_mem_cons.mpr ⟨lw_p36, List.forall_mem_cons.mpr ⟨lw_p37, List.forall_mem_cons.mpr ⟨lw_p38, List.forall_mem_cons.mpr ⟨lw_p39, List.forall_mem_cons.mpr ⟨lw_p40, List.forall_mem_cons.mpr ⟨lw_p41, List.forall_mem_cons.mpr ⟨lw_p42, List.forall_mem_cons.mpr ⟨lw_p43, List.forall_mem_cons.mpr ⟨lw_p44, List.forall_mem_cons.mpr ⟨lw_p45, List.forall_mem_cons.mpr ⟨lw_p46, List.forall_mem_cons.mpr ⟨lw_p47, fun _ h => absurd h List.not_mem_nil⟩⟩⟩⟩⟩⟩⟩⟩⟩⟩⟩⟩⟩⟩⟩⟩
theorem lw_p48 : lw_okq (⟨"LevelStoreModel", "blockSize", "(II)I"⟩, 39) := ⟨⟨by decide +kernel, by decide +kernel⟩, List.mem_of_getElem? (i := 706) (by decide +kernel), List.mem_of_getElem? (i := 1012) (by decide +kernel), List.mem_of_getElem? (i := 1013) (by decide +kernel)⟩
theorem lw_p49 : lw_okq (⟨"LevelStoreModel", "lose", "(I)I"⟩, 39) := ⟨⟨by decide +kernel, by decide +kernel⟩, List.mem_of_getElem? (i := 706) (by decide +kernel), List.mem_of_getElem? (i := 1020) (by decide +kernel), List.mem_of_getElem? (i := 1021) (by decide +kernel)⟩
def lw_privs_4 : List (MethodName × Nat) := [(⟨"LevelStoreModel", "blockSize", "(II)I"⟩, 39), (⟨"LevelStoreModel", "lose", "(I)I"⟩, 39)]
theorem lw_r4 : ∀ q ∈ lw_privs_4, lw_okq q := List.forall_mem_cons.mpr ⟨lw_p48, List.forall_mem_cons.mpr ⟨lw_p49, fun _ h => absurd h List.not_mem_nil⟩⟩
def lw_privs : List (MethodName × Nat) := lw_privs_1 ++ (lw_privs_2 ++ (lw_privs_3 ++ (lw_privs_4)))
def lw_tbl : List Cond := k2_sels lw_privs ++ tables_1
theorem lw_privs_ok : ∀ q ∈ lw_privs, lw_okq q := by
  show ∀ q ∈ lw_privs_1 ++ (lw_privs_2 ++ (lw_privs_3 ++ (lw_privs_4))), lw_okq q
  exact List.forall_mem_append.mpr ⟨lw_r1, List.forall_mem_append.mpr ⟨lw_r2, List.forall_mem_append.mpr ⟨lw_r3, lw_r4⟩⟩⟩
end
section
/-! A WORLD BY PLACES. A cell is named by its place in a list; ga_v turns a place into its address ('.float' stands for the script). ga_J: the machine at a place of a body computes the pure answer o; ga_M: so does a method. -/
abbrev ga_E : Type := (Nat × vp_A) ⊕ (Nat × List Value)
abbrev ga_W : Type := List ga_E × Nat × Nat
abbrev ga_R : Type := Option Value ⊕ Nat
abbrev ga_O : Type := Option (ga_R × ga_W)
def ga_v (b : Nat) (ad : Nat → Nat) : Value → Value
  | .ref k => .ref (ad k)
  | .float _ => .ref b
  | v => v
theorem ga_cat (b : Nat) (ad : Nat → Nat) (v : Value) : (ga_v b ad v).category = v.category := by cases v <;> rfl
def ga_l (b : Nat) (ad : Nat → Nat) (lv : List (Nat × Value)) : List (Nat × Value) := lv.map fun q => (q.1, ga_v b ad q.2)
theorem ga_l_at {b : Nat} {ad : Nat → Nat} {lv : List (Nat × Value)} {k i : Nat} {v : Value} (h : lv[k]? = some (i, v)) : (ga_l b ad lv)[k]? = some (i, ga_v b ad v) := by
  simp [ga_l, h]
def ga_s1 (lv : List (Nat × Value)) (i : Nat) (v : Value) : List (Nat × Value) := (i, v) :: lv.filter (fun q => !(q.1 == i) && !(q.1 + 1 == i && q.2.category == 2))
def ga_s2 (lv : List (Nat × Value)) (i : Nat) (v : Value) : List (Nat × Value) := (i, v) :: lv.filter (fun q => !(q.1 == i) && (!(q.1 == i + 1) && !(q.1 + 1 == i && q.2.category == 2)))
theorem ga_s1_l (b : Nat) (ad : Nat → Nat) (lv : List (Nat × Value)) (i : Nat) (v : Value) : (i, ga_v b ad v) :: (ga_l b ad lv).filter (fun q => !(q.1 == i) && !(q.1 + 1 == i && q.2.category == 2)) = ga_l b ad (ga_s1 lv i v) := by
  simp only [ga_l, ga_s1, List.map_cons, List.filter_map, Function.comp_def, ga_cat]
theorem ga_s2_l (b : Nat) (ad : Nat → Nat) (lv : List (Nat × Value)) (i : Nat) (v : Value) : (i, ga_v b ad v) :: (ga_l b ad lv).filter (fun q => !(q.1 == i) && (!(q.1 == i + 1) && !(q.1 + 1 == i && q.2.category == 2))) = ga_l b ad (ga_s2 lv i v) := by
  simp only [ga_l, ga_s2, List.map_cons, List.filter_map, Function.comp_def, ga_cat]
theorem ga_l_args (b : Nat) (ad : Nat → Nat) : ∀ (i : Nat) (vs : List Value), lv_args i (vs.map (ga_v b ad)) = ga_l b ad (lv_args i vs)
  | _, [] => rfl
  | i, v :: vs => by
    simp only [List.map_cons, lv_args, ga_cat, ga_l_args b ad _ vs]
    rfl
theorem ga_sl_len (b : Nat) (ad : Nat → Nat) (vs : List Value) : (lg_sl (vs.map (ga_v b ad))).length = (lg_sl vs).length := by
  induction vs with
  | nil => rfl
  | cons v vs ih =>
    simp only [lg_sl, List.map_cons, List.flatMap_cons, List.length_append, ga_cat] at ih ⊢
    rw [ih]
    split <;> rfl
theorem ga_catsum (b : Nat) (ad : Nat → Nat) (st : List Value) : ((st.map (ga_v b ad)).map fun v => v.category).sum = (st.map fun v => v.category).sum := by
  simp only [List.map_map, Function.comp_def, ga_cat]
def ga_e (tA : List (ClassId × FieldType)) (b : Nat) (ad : Nat → Nat) (x : ga_E) : va_E := match x with
  | .inl x => .inl ((tA.getD x.1 (0, .int)).1, x.2)
  | .inr o => .inr (o.1, o.2.map (ga_v b ad))
def ga_w (tA : List (ClassId × FieldType)) (b : Nat) (ad : Nat → Nat) (w : List ga_E) : va_W := w.mapIdx fun k x => (ad k, ga_e tA b ad x)
theorem ga_w_get {tA : List (ClassId × FieldType)} {b : Nat} {ad : Nat → Nat} {w : List ga_E} {k : Nat} {x : ga_E} (h : w[k]? = some x) : (ga_w tA b ad w)[k]? = some (ad k, ga_e tA b ad x) := by
  simp [ga_w, List.getElem?_mapIdx, h]
theorem ga_w_set {tA : List (ClassId × FieldType)} {b : Nat} {ad : Nat → Nat} {w : List ga_E} {k : Nat} {x : ga_E} : (ga_w tA b ad w).set k (ad k, ga_e tA b ad x) = ga_w tA b ad (w.set k x) := by
  apply List.ext_getElem?
  intro i
  by_cases h : k = i
  · subst h
    by_cases hl : k < w.length
    · rw [List.getElem?_set_self (by simpa [ga_w] using hl)]
      exact (ga_w_get (List.getElem?_set_self hl)).symm
    · rw [List.getElem?_eq_none (by simpa [ga_w] using hl), List.getElem?_eq_none (by simpa [ga_w] using hl)]
  · rw [List.getElem?_set_ne h]
    simp [ga_w, List.getElem?_mapIdx, List.getElem?_set_ne h]
theorem ga_w_len {tA : List (ClassId × FieldType)} {b : Nat} {ad : Nat → Nat} {w : List ga_E} : (ga_w tA b ad w).length = w.length := by simp [ga_w]
def ga_H (D : va_G) (cl : List vw_C) (tA : List (ClassId × FieldType)) (base b : Nat) (ad : Nat → Nat) (w : List ga_E) (H : Heap) : Prop := va_P D cl (ga_w tA b ad w) H ∧ va_D (fun q => base ≤ q) (ga_w tA b ad w)
def ga_X (n0 : Nat) (ad0 : Nat → Nat) (n : Nat) (ad : Nat → Nat) : Prop := n0 ≤ n ∧ ∀ k, k < n0 ∨ n ≤ k → ad k = ad0 k
theorem ga_X.rf {n : Nat} {ad : Nat → Nat} : ga_X n ad n ad := ⟨Nat.le_refl _, fun _ _ => rfl⟩
theorem ga_X.tr {n0 n1 n2 : Nat} {a0 a1 a2 : Nat → Nat} (h : ga_X n0 a0 n1 a1) (g : ga_X n1 a1 n2 a2) : ga_X n0 a0 n2 a2 := by
  refine ⟨Nat.le_trans h.1 g.1, fun k hk => ?_⟩
  have h1 := h.1
  have h2 := g.1
  rw [g.2 k (by omega), h.2 k (by omega)]
theorem ga_X.eq {n : Nat} {a0 a1 : Nat → Nat} (h : ga_X n a0 n a1) : a1 = a0 := funext fun k => h.2 k (by omega)
end
section
/-! THE JUDGEMENTS AND THE ROWS OF INSTRUCTIONS THAT KEEP THE WORLD -/
/-- what the law's own start S0 gives: the tables' words, and what the Statement says of the start -/
def ga_0 (S0 : State) (b : Nat) : Prop := (∀ w ∈ lw_tbl, w.before #[Value.ref b] S0 = true) ∧ (Jvm.Cond.and given_1 narrow_1).before #[Value.ref b] S0 = true
/-- since S0 no cell that was there has changed -/
def ga_Z (S0 : State) (base : Nat) (U : State) (H : Heap) : Prop := S0.heap.size ≤ base ∧ S0.WarmedH U.vm ∧ ∀ q : Nat, q < base → H[q]? = S0.heap[q]?
theorem ga_Z.warm {S0 : State} {base : Nat} {u U : State} {H : Heap} (hW : u.WarmedH U.vm) (h : ga_Z S0 base u H) : ga_Z S0 base U H := ⟨h.1, State.WarmedH.trans h.2.1 hW, h.2.2⟩
theorem ga_Z.kept {S0 : State} {base : Nat} {U : State} {H H1 : Heap} (h : ga_Z S0 base U H) (hz : base ≤ H.size) (hq : ∀ a : Nat, a < H.size → ¬ base ≤ a → H1[a]? = H[a]?) : ga_Z S0 base U H1 := ⟨h.1, h.2.1, fun q hl => (hq q (by omega) (by omega)).trans (h.2.2 q hl)⟩
/-- what a method may take as given at its start, and its callers give -/
def ga_P (S0 : State) (D : va_G) (cl : List vw_C) (tA : List (ClassId × FieldType)) (base b : Nat) (ad : Nat → Nat) (w : ga_W) (U : State) : Prop :=
  base ≤ U.heap.size ∧ va_K D cl tA U ∧ ga_Z S0 base U U.heap ∧ ga_0 S0 b ∧ ga_H D cl tA base b ad w.1 U.heap
/-- how it ends: it returned, or it threw the class xn x -/
def ga_Qc (D : va_G) (cl : List vw_C) (tA : List (ClassId × FieldType)) (base b : Nat) (ad : Nat → Nat) (n0 : Nat) (v : Option Value) (w' : ga_W) : Array Value → State → Outcome → State → Prop := fun _ st oc t =>
  (∃ ad' : Nat → Nat, ga_X n0 ad w'.1.length ad' ∧ oc = .returned (v.map (ga_v b ad')) ∧ ga_H D cl tA base b ad' w'.1 t.heap) ∧ va_F (fun q => base ≤ q) st t
def ga_Tq (xn : Nat → String) (D : va_G) (cl : List vw_C) (tA : List (ClassId × FieldType)) (base b : Nat) (ad : Nat → Nat) (n0 : Nat) (x : Nat) (w' : ga_W) (mc ms : Nat) : Array Value → State → Outcome → State → Prop := fun _ st oc t =>
  ∃ (q : Addr) (ce : Cell) (L : List Loc) (ad' : Nat → Nat), oc = .threw q ∧ t.heap[q]? = some ce ∧ ce.vm = .none ∧ st.vm.findClass (xn x) = some ce.cls ∧ st.WarmedH t.vm ∧ st.sameButNew ({ t with vm := st.vm } : State) L mc ms ∧ (∀ z ∈ L, base ≤ z.base) ∧ ga_X n0 ad w'.1.length ad' ∧ ga_H D cl tA base b ad' w'.1 t.heap ∧ va_F (fun q => base ≤ q) st t
/-- cells and slots only grow; fl: no cell comes -/
def ga_N (fl : Bool) (w w' : ga_W) : Prop := w.2.1 ≤ w'.2.1 ∧ w.2.2 ≤ w'.2.2 ∧ w.1.length ≤ w'.1.length ∧ (fl = true → w'.1.length = w.1.length)
theorem ga_N.rf {fl : Bool} {w : ga_W} : ga_N fl w w := ⟨Nat.le_refl _, Nat.le_refl _, Nat.le_refl _, fun _ => rfl⟩
theorem ga_N.tr {fl : Bool} {w w1 w2 : ga_W} (h : ga_N fl w w1) (g : ga_N fl w1 w2) : ga_N fl w w2 := ⟨Nat.le_trans h.1 g.1, Nat.le_trans h.2.1 g.2.1, Nat.le_trans h.2.2.1 g.2.2.1, fun q => (g.2.2.2 q).trans (h.2.2.2 q)⟩
/-- what holds throughout a body -/
def ga_B (l : Launch) (S0 : State) (D : va_G) (cl : List vw_C) (tA : List (ClassId × FieldType)) (base b : Nat) (p : Program) (R : Room) (s : State) (m : MethodId) (args : Array Value) (meth : Method) (c : Code) (nL : Nat) (Ts : List Cond) (own : String) (cc : ByteArray) (ret : Option FieldType) (tb : List ExceptionTableEntry) (mn : String) (fr lo : Nat) : Prop :=
  p.tables.exec = Jvm.exec ∧ c.code = cc ∧ c.maxLocals = nL ∧ meth.sig.returnType = ret ∧ s.vm.findClass own = some m.cls ∧ (∀ w ∈ Ts, w.before args s = true) ∧ meth.locks = false ∧ base ≤ s.heap.size ∧ va_K D cl tA s ∧ ga_Z S0 base s s.heap ∧ c.exceptionTable.toList = tb ∧ meth.name = mn ∧ fr ≤ R.frames ∧ lo ≤ R.locals ∧ l.stackTraces = false ∧ ga_0 S0 b
def ga_J (l : Launch) (S0 : State) (D : va_G) (cl : List vw_C) (tA : List (ClassId × FieldType)) (base b : Nat) (xn : Nat → String) (p : Program) (e : Env) (R : Room) (s : State) (m : MethodId) (args : Array Value) (below : List Frame) (meth : Method) (c : Code) (nL : Nat) (Ts : List Cond) (own : String) (cc : ByteArray) (ret : Option FieldType) (tb : List ExceptionTableEntry) (mn : String) (fr lo : Nat) (fl : Bool) (ad0 : Nat → Nat) (w0 : ga_W) (Q : ga_R → ga_W → State → Prop)
    (pc : Nat) (lv : List (Nat × Value)) (st : List Value) (w : ga_W) (o : ga_O) : Prop :=
  ∀ (r : ga_R) (w' : ga_W), o = some (r, w') → ga_N fl w w' ∧
    ((ga_B l S0 D cl tA base b p R s m args meth c nL Ts own cc ret tb mn fr lo) → w0.2.1 ≤ w.2.1 → w0.2.2 ≤ w.2.2 → w'.2.1 ≤ w0.2.1 + R.cells → w'.2.2 ≤ w0.2.2 + R.slots → ∀ (ad : Nat → Nat) (H : Heap) (locs : List Loc) (ls : Array Slot),
      ga_X w0.1.length ad0 w.1.length ad → ga_H D cl tA base b ad w.1 H → va_S (fun q => base ≤ q) s.heap H locs → lv_has ls nL (ga_l b ad lv) →
      W p l e R s m args below meth c H locs (w.2.1 - w0.2.1) (w.2.2 - w0.2.2) (Q r w') (F0 m pc ls (st.map (ga_v b ad))))
/-- the machine, with q thrown over the frame g, comes to a state with Q -/
def ga_WX (p : Program) (l : Launch) (e : Env) (R : Room) (s : State) (m : MethodId) (args : Array Value) (below : List Frame) (meth : Method) (c : Code) (H : Heap) (locs : List Loc) (k n : Nat) (Q : State → Prop) (g : JFrame) (q : Addr) : Prop :=
  ∀ T : State, T.heap = H → Stand p l e R s m args below meth c T locs k n → ∃ t, Steps p.tables e below ((T.setTop g).pushFrame (.throwing q)) t ∧ Q t
/-- .. with an exception of the class xn x over it -/
def ga_JX (l : Launch) (S0 : State) (D : va_G) (cl : List vw_C) (tA : List (ClassId × FieldType)) (base b : Nat) (xn : Nat → String) (p : Program) (e : Env) (R : Room) (s : State) (m : MethodId) (args : Array Value) (below : List Frame) (meth : Method) (c : Code) (nL : Nat) (Ts : List Cond) (own : String) (cc : ByteArray) (ret : Option FieldType) (tb : List ExceptionTableEntry) (mn : String) (fr lo : Nat) (fl : Bool) (ad0 : Nat → Nat) (w0 : ga_W) (Q : ga_R → ga_W → State → Prop)
    (pc : Nat) (lv : List (Nat × Value)) (x : Nat) (w : ga_W) (o : ga_O) : Prop :=
  ∀ (r : ga_R) (w' : ga_W), o = some (r, w') → ga_N fl w w' ∧
    ((ga_B l S0 D cl tA base b p R s m args meth c nL Ts own cc ret tb mn fr lo) → w0.2.1 ≤ w.2.1 → w0.2.2 ≤ w.2.2 → w'.2.1 ≤ w0.2.1 + R.cells → w'.2.2 ≤ w0.2.2 + R.slots → ∀ (ad : Nat → Nat) (H : Heap) (locs : List Loc) (ls : Array Slot) (rest : List Value) (ce : Cell) (q : Addr),
      ga_X w0.1.length ad0 w.1.length ad → ga_H D cl tA base b ad w.1 H → va_S (fun q => base ≤ q) s.heap H locs → lv_has ls nL (ga_l b ad lv) → H[q]? = some ce → ce.vm = .none → s.vm.findClass (xn x) = some ce.cls →
      ga_WX p l e R s m args below meth c H locs (w.2.1 - w0.2.1) (w.2.2 - w0.2.2) (Q r w') (F0 m pc ls rest) q)
section GA
variable {l : Launch} {S0 : State} {D : va_G} {cl : List vw_C} {tA : List (ClassId × FieldType)} {base b : Nat} {xn : Nat → String} {p : Program} {e : Env} {R : Room} {s : State} {m : MethodId} {args : Array Value} {below : List Frame} {meth : Method} {c : Code} {nL : Nat} {Ts : List Cond} {own : String} {cc : ByteArray} {ret : Option FieldType} {tb : List ExceptionTableEntry} {mn : String} {fr lo : Nat} {fl : Bool} {ad0 : Nat → Nat} {w0 : ga_W} {Q : ga_R → ga_W → State → Prop}
variable {pc : Nat} {lv : List (Nat × Value)} {st : List Value} {w : ga_W} {o : ga_O}
theorem ga_of {pc2 : Nat} {st2 : List Value} (h : (ga_B l S0 D cl tA base b p R s m args meth c nL Ts own cc ret tb mn fr lo) → ∀ (ad : Nat → Nat) (H : Heap) (locs : List Loc) (k n : Nat) (ls : Array Slot) (Q' : State → Prop), lv_has ls nL (ga_l b ad lv) → W p l e R s m args below meth c H locs k n Q' (F0 m pc2 ls (st2.map (ga_v b ad))) → W p l e R s m args below meth c H locs k n Q' (F0 m pc ls (st.map (ga_v b ad))))
    (k : ga_J l S0 D cl tA base b xn p e R s m args below meth c nL Ts own cc ret tb mn fr lo fl ad0 w0 Q pc2 lv st2 w o) : ga_J l S0 D cl tA base b xn p e R s m args below meth c nL Ts own cc ret tb mn fr lo fl ad0 w0 Q pc lv st w o := by
  intro r w' ho
  obtain ⟨h1, h4⟩ := k r w' ho
  exact ⟨h1, fun B a1 a2 a3 a4 ad H locs ls x1 x2 x3 x4 => h B ad H locs _ _ ls _ x4 (h4 B a1 a2 a3 a4 ad H locs ls x1 x2 x3 x4)⟩
theorem ga_ofl {pc2 : Nat} {st2 : List Value} {lv2 : List (Nat × Value)} (h : (ga_B l S0 D cl tA base b p R s m args meth c nL Ts own cc ret tb mn fr lo) → ∀ (ad : Nat → Nat) (H : Heap) (locs : List Loc) (k n : Nat) (ls : Array Slot) (Q' : State → Prop), lv_has ls nL (ga_l b ad lv) → (∀ ls2 : Array Slot, lv_has ls2 nL (ga_l b ad lv2) → W p l e R s m args below meth c H locs k n Q' (F0 m pc2 ls2 (st2.map (ga_v b ad)))) → W p l e R s m args below meth c H locs k n Q' (F0 m pc ls (st.map (ga_v b ad))))
    (k : ga_J l S0 D cl tA base b xn p e R s m args below meth c nL Ts own cc ret tb mn fr lo fl ad0 w0 Q pc2 lv2 st2 w o) : ga_J l S0 D cl tA base b xn p e R s m args below meth c nL Ts own cc ret tb mn fr lo fl ad0 w0 Q pc lv st w o := by
  intro r w' ho
  obtain ⟨h1, h4⟩ := k r w' ho
  exact ⟨h1, fun B a1 a2 a3 a4 ad H locs ls x1 x2 x3 x4 => h B ad H locs _ _ ls _ x4 (fun ls2 y => h4 B a1 a2 a3 a4 ad H locs ls2 x1 x2 x3 y)⟩
/-- nothing is claimed of a road that has no answer -/
theorem ga_no : ga_J l S0 D cl tA base b xn p e R s m args below meth c nL Ts own cc ret tb mn fr lo fl ad0 w0 Q pc lv st w none := fun _ _ h => nomatch h
/-- fewer locals are known, in another order -/
theorem ga_sub (ks : List Nat) {lv2 : List (Nat × Value)} (hl : lv_pick lv ks = lv2) (k : ga_J l S0 D cl tA base b xn p e R s m args below meth c nL Ts own cc ret tb mn fr lo fl ad0 w0 Q pc lv2 st w o) : ga_J l S0 D cl tA base b xn p e R s m args below meth c nL Ts own cc ret tb mn fr lo fl ad0 w0 Q pc lv st w o := by
  refine ga_ofl (fun B ad H locs k n ls Q' hl2 kk => kk ls (lv_sub hl2 ks ?_)) k
  subst hl
  simp only [lv_pick, ga_l, List.map_filterMap, List.getElem?_map]
theorem ga_iconst {n : Int} {v : Int32} (d : decode cc pc = .ok (.iconst n, 1)) (hv : Int32.ofInt n = v) (k : ga_J l S0 D cl tA base b xn p e R s m args below meth c nL Ts own cc ret tb mn fr lo fl ad0 w0 Q (pc + 1) lv (.int v :: st) w o) : ga_J l S0 D cl tA base b xn p e R s m args below meth c nL Ts own cc ret tb mn fr lo fl ad0 w0 Q pc lv st w o :=
  ga_of (fun B ad _ _ _ _ ls _ _ kk => lv_iconst B.1 B.2.1 d hv kk) k
theorem ga_bipush {n : Int} {v : Int32} (d : decode cc pc = .ok (.bipush n, 2)) (hv : (Int8.ofInt n).toInt32 = v) (k : ga_J l S0 D cl tA base b xn p e R s m args below meth c nL Ts own cc ret tb mn fr lo fl ad0 w0 Q (pc + 2) lv (.int v :: st) w o) : ga_J l S0 D cl tA base b xn p e R s m args below meth c nL Ts own cc ret tb mn fr lo fl ad0 w0 Q pc lv st w o :=
  ga_of (fun B ad _ _ _ _ ls _ _ kk => lv_bipush B.1 B.2.1 d hv kk) k
theorem ga_sipush {n : Int} {v : Int32} (d : decode cc pc = .ok (.sipush n, 3)) (hv : (Int16.ofInt n).toInt32 = v) (k : ga_J l S0 D cl tA base b xn p e R s m args below meth c nL Ts own cc ret tb mn fr lo fl ad0 w0 Q (pc + 3) lv (.int v :: st) w o) : ga_J l S0 D cl tA base b xn p e R s m args below meth c nL Ts own cc ret tb mn fr lo fl ad0 w0 Q pc lv st w o :=
  ga_of (fun B ad _ _ _ _ ls _ _ kk => lv_sipush B.1 B.2.1 d hv kk) k
theorem ga_null  (d : decode cc pc = .ok (.aconst_null, 1)) (k : ga_J l S0 D cl tA base b xn p e R s m args below meth c nL Ts own cc ret tb mn fr lo fl ad0 w0 Q (pc + 1) lv (.null :: st) w o) : ga_J l S0 D cl tA base b xn p e R s m args below meth c nL Ts own cc ret tb mn fr lo fl ad0 w0 Q pc lv st w o :=
  ga_of (fun B ad _ _ _ _ ls _ _ kk => lv_null B.1 B.2.1 d kk) k
theorem ga_iadd {x y : Int32} (d : decode cc pc = .ok (.iadd, 1)) (k : ga_J l S0 D cl tA base b xn p e R s m args below meth c nL Ts own cc ret tb mn fr lo fl ad0 w0 Q (pc + 1) lv (.int (x + y) :: st) w o) : ga_J l S0 D cl tA base b xn p e R s m args below meth c nL Ts own cc ret tb mn fr lo fl ad0 w0 Q pc lv (.int y :: .int x :: st) w o :=
  ga_of (fun B ad _ _ _ _ ls _ _ kk => lv_iadd B.1 B.2.1 d kk) k
theorem ga_isub {x y : Int32} (d : decode cc pc = .ok (.isub, 1)) (k : ga_J l S0 D cl tA base b xn p e R s m args below meth c nL Ts own cc ret tb mn fr lo fl ad0 w0 Q (pc + 1) lv (.int (x - y) :: st) w o) : ga_J l S0 D cl tA base b xn p e R s m args below meth c nL Ts own cc ret tb mn fr lo fl ad0 w0 Q pc lv (.int y :: .int x :: st) w o :=
  ga_of (fun B ad _ _ _ _ ls _ _ kk => lv_isub B.1 B.2.1 d kk) k
theorem ga_imul {x y : Int32} (d : decode cc pc = .ok (.imul, 1)) (k : ga_J l S0 D cl tA base b xn p e R s m args below meth c nL Ts own cc ret tb mn fr lo fl ad0 w0 Q (pc + 1) lv (.int (x * y) :: st) w o) : ga_J l S0 D cl tA base b xn p e R s m args below meth c nL Ts own cc ret tb mn fr lo fl ad0 w0 Q pc lv (.int y :: .int x :: st) w o :=
  ga_of (fun B ad _ _ _ _ ls _ _ kk => lv_imul B.1 B.2.1 d kk) k
theorem ga_iand {x y : Int32} (d : decode cc pc = .ok (.iand, 1)) (k : ga_J l S0 D cl tA base b xn p e R s m args below meth c nL Ts own cc ret tb mn fr lo fl ad0 w0 Q (pc + 1) lv (.int (x &&& y) :: st) w o) : ga_J l S0 D cl tA base b xn p e R s m args below meth c nL Ts own cc ret tb mn fr lo fl ad0 w0 Q pc lv (.int y :: .int x :: st) w o :=
  ga_of (fun B ad _ _ _ _ ls _ _ kk => lv_iand B.1 B.2.1 d kk) k
theorem ga_ior {x y : Int32} (d : decode cc pc = .ok (.ior, 1)) (k : ga_J l S0 D cl tA base b xn p e R s m args below meth c nL Ts own cc ret tb mn fr lo fl ad0 w0 Q (pc + 1) lv (.int (x ||| y) :: st) w o) : ga_J l S0 D cl tA base b xn p e R s m args below meth c nL Ts own cc ret tb mn fr lo fl ad0 w0 Q pc lv (.int y :: .int x :: st) w o :=
  ga_of (fun B ad _ _ _ _ ls _ _ kk => lv_ior B.1 B.2.1 d kk) k
theorem ga_ixor {x y : Int32} (d : decode cc pc = .ok (.ixor, 1)) (k : ga_J l S0 D cl tA base b xn p e R s m args below meth c nL Ts own cc ret tb mn fr lo fl ad0 w0 Q (pc + 1) lv (.int (x ^^^ y) :: st) w o) : ga_J l S0 D cl tA base b xn p e R s m args below meth c nL Ts own cc ret tb mn fr lo fl ad0 w0 Q pc lv (.int y :: .int x :: st) w o :=
  ga_of (fun B ad _ _ _ _ ls _ _ kk => lv_ixor B.1 B.2.1 d kk) k
theorem ga_ineg {x : Int32} (d : decode cc pc = .ok (.ineg, 1)) (k : ga_J l S0 D cl tA base b xn p e R s m args below meth c nL Ts own cc ret tb mn fr lo fl ad0 w0 Q (pc + 1) lv (.int (-x) :: st) w o) : ga_J l S0 D cl tA base b xn p e R s m args below meth c nL Ts own cc ret tb mn fr lo fl ad0 w0 Q pc lv (.int x :: st) w o :=
  ga_of (fun B ad _ _ _ _ ls _ _ kk => lv_ineg B.1 B.2.1 d kk) k
theorem ga_i2l {x : Int32} (d : decode cc pc = .ok (.i2l, 1)) (k : ga_J l S0 D cl tA base b xn p e R s m args below meth c nL Ts own cc ret tb mn fr lo fl ad0 w0 Q (pc + 1) lv (.long x.toInt64 :: st) w o) : ga_J l S0 D cl tA base b xn p e R s m args below meth c nL Ts own cc ret tb mn fr lo fl ad0 w0 Q pc lv (.int x :: st) w o :=
  ga_of (fun B ad _ _ _ _ ls _ _ kk => lv_i2l B.1 B.2.1 d rfl kk) k
theorem ga_l2i {x : Int64} (d : decode cc pc = .ok (.l2i, 1)) (k : ga_J l S0 D cl tA base b xn p e R s m args below meth c nL Ts own cc ret tb mn fr lo fl ad0 w0 Q (pc + 1) lv (.int x.toInt32 :: st) w o) : ga_J l S0 D cl tA base b xn p e R s m args below meth c nL Ts own cc ret tb mn fr lo fl ad0 w0 Q pc lv (.long x :: st) w o :=
  ga_of (fun B ad _ _ _ _ ls _ _ kk => lv_l2i B.1 B.2.1 d rfl kk) k
theorem ga_i2d {x : Int32} (d : decode cc pc = .ok (.i2d, 1)) (k : ga_J l S0 D cl tA base b xn p e R s m args below meth c nL Ts own cc ret tb mn fr lo fl ad0 w0 Q (pc + 1) lv (.double (FP.i2d x) :: st) w o) : ga_J l S0 D cl tA base b xn p e R s m args below meth c nL Ts own cc ret tb mn fr lo fl ad0 w0 Q pc lv (.int x :: st) w o :=
  ga_of (fun B ad _ _ _ _ ls _ _ kk => lv_i2d B.1 B.2.1 d kk) k
theorem ga_dcmp {x y : UInt64} {op : CmpOp} (d : decode cc pc = .ok (.dcmp op, 1)) (k : ga_J l S0 D cl tA base b xn p e R s m args below meth c nL Ts own cc ret tb mn fr lo fl ad0 w0 Q (pc + 1) lv (.int (Op.cmpValue (FP.dcmp x y) op) :: st) w o) : ga_J l S0 D cl tA base b xn p e R s m args below meth c nL Ts own cc ret tb mn fr lo fl ad0 w0 Q pc lv (.double y :: .double x :: st) w o :=
  ga_of (fun B ad _ _ _ _ ls _ _ kk => lv_dcmp B.1 B.2.1 d kk) k
theorem ga_dup {va : Value} (d : decode cc pc = .ok (.dup, 1)) (h1 : va.category = 1) (k : ga_J l S0 D cl tA base b xn p e R s m args below meth c nL Ts own cc ret tb mn fr lo fl ad0 w0 Q (pc + 1) lv (va :: va :: st) w o) : ga_J l S0 D cl tA base b xn p e R s m args below meth c nL Ts own cc ret tb mn fr lo fl ad0 w0 Q pc lv (va :: st) w o :=
  ga_of (fun B ad _ _ _ _ ls _ _ kk => lv_dup B.1 B.2.1 d ((ga_cat b ad _).trans h1) kk) k
theorem ga_pop {va : Value} (d : decode cc pc = .ok (.pop, 1)) (h1 : va.category = 1) (k : ga_J l S0 D cl tA base b xn p e R s m args below meth c nL Ts own cc ret tb mn fr lo fl ad0 w0 Q (pc + 1) lv st w o) : ga_J l S0 D cl tA base b xn p e R s m args below meth c nL Ts own cc ret tb mn fr lo fl ad0 w0 Q pc lv (va :: st) w o :=
  ga_of (fun B ad _ _ _ _ ls _ _ kk => lv_pop B.1 B.2.1 d ((ga_cat b ad _).trans h1) kk) k
theorem ga_dup_x1 {va vb : Value} (d : decode cc pc = .ok (.dup_x1, 1)) (h1 : va.category = 1) (h2 : vb.category = 1) (k : ga_J l S0 D cl tA base b xn p e R s m args below meth c nL Ts own cc ret tb mn fr lo fl ad0 w0 Q (pc + 1) lv (va :: vb :: va :: st) w o) : ga_J l S0 D cl tA base b xn p e R s m args below meth c nL Ts own cc ret tb mn fr lo fl ad0 w0 Q pc lv (va :: vb :: st) w o :=
  ga_of (fun B ad _ _ _ _ ls _ _ kk => lv_dup_x1 B.1 B.2.1 d ((ga_cat b ad _).trans h1) ((ga_cat b ad _).trans h2) kk) k
theorem ga_dup_x2 {va vb vd : Value} (d : decode cc pc = .ok (.dup_x2, 1)) (h1 : va.category = 1) (h2 : vb.category = 1) (h3 : vd.category = 1) (k : ga_J l S0 D cl tA base b xn p e R s m args below meth c nL Ts own cc ret tb mn fr lo fl ad0 w0 Q (pc + 1) lv (va :: vb :: vd :: va :: st) w o) : ga_J l S0 D cl tA base b xn p e R s m args below meth c nL Ts own cc ret tb mn fr lo fl ad0 w0 Q pc lv (va :: vb :: vd :: st) w o :=
  ga_of (fun B ad _ _ _ _ ls _ _ kk => lv_dup_x2 B.1 B.2.1 d ((ga_cat b ad _).trans h1) ((ga_cat b ad _).trans h2) ((ga_cat b ad _).trans h3) kk) k
theorem ga_dup2 {va vb : Value} (d : decode cc pc = .ok (.dup2, 1)) (h1 : va.category = 1) (h2 : vb.category = 1) (k : ga_J l S0 D cl tA base b xn p e R s m args below meth c nL Ts own cc ret tb mn fr lo fl ad0 w0 Q (pc + 1) lv (va :: vb :: va :: vb :: st) w o) : ga_J l S0 D cl tA base b xn p e R s m args below meth c nL Ts own cc ret tb mn fr lo fl ad0 w0 Q pc lv (va :: vb :: st) w o :=
  ga_of (fun B ad _ _ _ _ ls _ _ kk => lv_dup2_11 B.1 B.2.1 d ((ga_cat b ad _).trans h1) ((ga_cat b ad _).trans h2) kk) k
theorem ga_idiv {x y : Int32} (d : decode cc pc = .ok (.idiv, 1)) (hne : ¬ y = 0) (k : ga_J l S0 D cl tA base b xn p e R s m args below meth c nL Ts own cc ret tb mn fr lo fl ad0 w0 Q (pc + 1) lv (.int (x / y) :: st) w o) : ga_J l S0 D cl tA base b xn p e R s m args below meth c nL Ts own cc ret tb mn fr lo fl ad0 w0 Q pc lv (.int y :: .int x :: st) w o :=
  ga_of (fun B ad _ _ _ _ ls _ _ kk => lv_idiv B.1 B.2.1 d hne kk) k
theorem ga_irem {x y : Int32} (d : decode cc pc = .ok (.irem, 1)) (hne : ¬ y = 0) (k : ga_J l S0 D cl tA base b xn p e R s m args below meth c nL Ts own cc ret tb mn fr lo fl ad0 w0 Q (pc + 1) lv (.int (x - x / y * y) :: st) w o) : ga_J l S0 D cl tA base b xn p e R s m args below meth c nL Ts own cc ret tb mn fr lo fl ad0 w0 Q pc lv (.int y :: .int x :: st) w o :=
  ga_of (fun B ad _ _ _ _ ls _ _ kk => lv_irem B.1 B.2.1 d hne kk) k
theorem ga_ddiv {x y : UInt64} (d : decode cc pc = .ok (.ddiv, 1)) (hne : vf_n64 (FP.ddiv x y)) (k : ga_J l S0 D cl tA base b xn p e R s m args below meth c nL Ts own cc ret tb mn fr lo fl ad0 w0 Q (pc + 1) lv (.double (FP.ddiv x y) :: st) w o) : ga_J l S0 D cl tA base b xn p e R s m args below meth c nL Ts own cc ret tb mn fr lo fl ad0 w0 Q pc lv (.double y :: .double x :: st) w o :=
  ga_of (fun B ad _ _ _ _ ls _ _ kk => lv_ddiv B.1 B.2.1 d hne kk) k
theorem ga_ladd {x y : Int64} (d : decode cc pc = .ok (.ladd, 1)) (k : ga_J l S0 D cl tA base b xn p e R s m args below meth c nL Ts own cc ret tb mn fr lo fl ad0 w0 Q (pc + 1) lv (.long (x + y) :: st) w o) : ga_J l S0 D cl tA base b xn p e R s m args below meth c nL Ts own cc ret tb mn fr lo fl ad0 w0 Q pc lv (.long y :: .long x :: st) w o :=
  ga_of (fun B ad _ _ _ _ ls _ _ kk => lv_ladd B.1 B.2.1 d kk) k
theorem ga_lsub {x y : Int64} (d : decode cc pc = .ok (.lsub, 1)) (k : ga_J l S0 D cl tA base b xn p e R s m args below meth c nL Ts own cc ret tb mn fr lo fl ad0 w0 Q (pc + 1) lv (.long (x - y) :: st) w o) : ga_J l S0 D cl tA base b xn p e R s m args below meth c nL Ts own cc ret tb mn fr lo fl ad0 w0 Q pc lv (.long y :: .long x :: st) w o :=
  ga_of (fun B ad _ _ _ _ ls _ _ kk => lv_lsub B.1 B.2.1 d kk) k
theorem ga_land {x y : Int64} (d : decode cc pc = .ok (.land, 1)) (k : ga_J l S0 D cl tA base b xn p e R s m args below meth c nL Ts own cc ret tb mn fr lo fl ad0 w0 Q (pc + 1) lv (.long (x &&& y) :: st) w o) : ga_J l S0 D cl tA base b xn p e R s m args below meth c nL Ts own cc ret tb mn fr lo fl ad0 w0 Q pc lv (.long y :: .long x :: st) w o :=
  ga_of (fun B ad _ _ _ _ ls _ _ kk => lv_land B.1 B.2.1 d kk) k
theorem ga_lor {x y : Int64} (d : decode cc pc = .ok (.lor, 1)) (k : ga_J l S0 D cl tA base b xn p e R s m args below meth c nL Ts own cc ret tb mn fr lo fl ad0 w0 Q (pc + 1) lv (.long (x ||| y) :: st) w o) : ga_J l S0 D cl tA base b xn p e R s m args below meth c nL Ts own cc ret tb mn fr lo fl ad0 w0 Q pc lv (.long y :: .long x :: st) w o :=
  ga_of (fun B ad _ _ _ _ ls _ _ kk => lv_lor B.1 B.2.1 d kk) k
theorem ga_lxor {x y : Int64} (d : decode cc pc = .ok (.lxor, 1)) (k : ga_J l S0 D cl tA base b xn p e R s m args below meth c nL Ts own cc ret tb mn fr lo fl ad0 w0 Q (pc + 1) lv (.long (x ^^^ y) :: st) w o) : ga_J l S0 D cl tA base b xn p e R s m args below meth c nL Ts own cc ret tb mn fr lo fl ad0 w0 Q pc lv (.long y :: .long x :: st) w o :=
  ga_of (fun B ad _ _ _ _ ls _ _ kk => lv_lxor B.1 B.2.1 d kk) k
theorem ga_lconst {n : Fin 2} {v : Int64} (d : decode cc pc = .ok (.lconst n, 1)) (hv : Int64.ofNat (n : Nat) = v) (k : ga_J l S0 D cl tA base b xn p e R s m args below meth c nL Ts own cc ret tb mn fr lo fl ad0 w0 Q (pc + 1) lv (.long v :: st) w o) : ga_J l S0 D cl tA base b xn p e R s m args below meth c nL Ts own cc ret tb mn fr lo fl ad0 w0 Q pc lv st w o :=
  ga_of (fun B ad _ _ _ _ ls _ _ kk => lv_lconst B.1 B.2.1 d hv kk) k
theorem ga_lshl {x : Int64} {y : Int32} (d : decode cc pc = .ok (.lshl, 1)) (k : ga_J l S0 D cl tA base b xn p e R s m args below meth c nL Ts own cc ret tb mn fr lo fl ad0 w0 Q (pc + 1) lv (.long (x <<< (y.toInt64 &&& 63)) :: st) w o) : ga_J l S0 D cl tA base b xn p e R s m args below meth c nL Ts own cc ret tb mn fr lo fl ad0 w0 Q pc lv (.int y :: .long x :: st) w o :=
  ga_of (fun B ad _ _ _ _ ls _ _ kk => lv_lshl B.1 B.2.1 d rfl kk) k
theorem ga_lshr {x : Int64} {y : Int32} (d : decode cc pc = .ok (.lshr, 1)) (k : ga_J l S0 D cl tA base b xn p e R s m args below meth c nL Ts own cc ret tb mn fr lo fl ad0 w0 Q (pc + 1) lv (.long (x >>> (y.toInt64 &&& 63)) :: st) w o) : ga_J l S0 D cl tA base b xn p e R s m args below meth c nL Ts own cc ret tb mn fr lo fl ad0 w0 Q pc lv (.int y :: .long x :: st) w o :=
  ga_of (fun B ad _ _ _ _ ls _ _ kk => lv_lshr B.1 B.2.1 d rfl kk) k
theorem ga_ishl {x y : Int32} (d : decode cc pc = .ok (.ishl, 1)) (k : ga_J l S0 D cl tA base b xn p e R s m args below meth c nL Ts own cc ret tb mn fr lo fl ad0 w0 Q (pc + 1) lv (.int (x <<< (y &&& 31)) :: st) w o) : ga_J l S0 D cl tA base b xn p e R s m args below meth c nL Ts own cc ret tb mn fr lo fl ad0 w0 Q pc lv (.int y :: .int x :: st) w o :=
  ga_of (fun B ad _ _ _ _ ls _ _ kk => lv_ishl B.1 B.2.1 d kk) k
theorem ga_lcmp {x y : Int64} (d : decode cc pc = .ok (.lcmp, 1)) (k : ga_J l S0 D cl tA base b xn p e R s m args below meth c nL Ts own cc ret tb mn fr lo fl ad0 w0 Q (pc + 1) lv (.int (lg_cmp x y) :: st) w o) : ga_J l S0 D cl tA base b xn p e R s m args below meth c nL Ts own cc ret tb mn fr lo fl ad0 w0 Q pc lv (.long y :: .long x :: st) w o :=
  ga_of (fun B ad _ _ _ _ ls _ _ kk => W.lcmp B.1 B.2.1 d kk) k
theorem ga_iload_n {j : Fin 4} {i q : Nat} {x : Int32} (d : decode cc pc = .ok (.iload_n j, 1)) (hi : (j : Nat) = i) (hq : lv[q]? = some (i, .int x)) (k : ga_J l S0 D cl tA base b xn p e R s m args below meth c nL Ts own cc ret tb mn fr lo fl ad0 w0 Q (pc + 1) lv (.int x :: st) w o) : ga_J l S0 D cl tA base b xn p e R s m args below meth c nL Ts own cc ret tb mn fr lo fl ad0 w0 Q pc lv st w o :=
  ga_of (fun B ad _ _ _ _ ls _ hl kk => lv_iload_n B.1 B.2.1 d hi (lv_at hl q (ga_l_at hq)) kk) k
theorem ga_iload {i q : Nat} {x : Int32} (d : decode cc pc = .ok (.iload i, 2)) (hq : lv[q]? = some (i, .int x)) (k : ga_J l S0 D cl tA base b xn p e R s m args below meth c nL Ts own cc ret tb mn fr lo fl ad0 w0 Q (pc + 2) lv (.int x :: st) w o) : ga_J l S0 D cl tA base b xn p e R s m args below meth c nL Ts own cc ret tb mn fr lo fl ad0 w0 Q pc lv st w o :=
  ga_of (fun B ad _ _ _ _ ls _ hl kk => lv_iload B.1 B.2.1 d (lv_at hl q (ga_l_at hq)) kk) k
theorem ga_lload_n {j : Fin 4} {i q : Nat} {x : Int64} (d : decode cc pc = .ok (.lload_n j, 1)) (hi : (j : Nat) = i) (hq : lv[q]? = some (i, .long x)) (k : ga_J l S0 D cl tA base b xn p e R s m args below meth c nL Ts own cc ret tb mn fr lo fl ad0 w0 Q (pc + 1) lv (.long x :: st) w o) : ga_J l S0 D cl tA base b xn p e R s m args below meth c nL Ts own cc ret tb mn fr lo fl ad0 w0 Q pc lv st w o :=
  ga_of (fun B ad _ _ _ _ ls _ hl kk => lv_lload_n B.1 B.2.1 d hi (lv_at hl q (ga_l_at hq)) kk) k
theorem ga_lload {i q : Nat} {x : Int64} (d : decode cc pc = .ok (.lload i, 2)) (hq : lv[q]? = some (i, .long x)) (k : ga_J l S0 D cl tA base b xn p e R s m args below meth c nL Ts own cc ret tb mn fr lo fl ad0 w0 Q (pc + 2) lv (.long x :: st) w o) : ga_J l S0 D cl tA base b xn p e R s m args below meth c nL Ts own cc ret tb mn fr lo fl ad0 w0 Q pc lv st w o :=
  ga_of (fun B ad _ _ _ _ ls _ hl kk => lv_lload B.1 B.2.1 d (lv_at hl q (ga_l_at hq)) kk) k
theorem ga_dload_n {j : Fin 4} {i q : Nat} {x : UInt64} (d : decode cc pc = .ok (.dload_n j, 1)) (hi : (j : Nat) = i) (hq : lv[q]? = some (i, .double x)) (k : ga_J l S0 D cl tA base b xn p e R s m args below meth c nL Ts own cc ret tb mn fr lo fl ad0 w0 Q (pc + 1) lv (.double x :: st) w o) : ga_J l S0 D cl tA base b xn p e R s m args below meth c nL Ts own cc ret tb mn fr lo fl ad0 w0 Q pc lv st w o :=
  ga_of (fun B ad _ _ _ _ ls _ hl kk => lv_dload_n B.1 B.2.1 d hi (lv_at hl q (ga_l_at hq)) kk) k
theorem ga_dload {i q : Nat} {x : UInt64} (d : decode cc pc = .ok (.dload i, 2)) (hq : lv[q]? = some (i, .double x)) (k : ga_J l S0 D cl tA base b xn p e R s m args below meth c nL Ts own cc ret tb mn fr lo fl ad0 w0 Q (pc + 2) lv (.double x :: st) w o) : ga_J l S0 D cl tA base b xn p e R s m args below meth c nL Ts own cc ret tb mn fr lo fl ad0 w0 Q pc lv st w o :=
  ga_of (fun B ad _ _ _ _ ls _ hl kk => lv_dload B.1 B.2.1 d (lv_at hl q (ga_l_at hq)) kk) k
theorem ga_aload_n {j : Fin 4} {i q : Nat} {x : Nat} (d : decode cc pc = .ok (.aload_n j, 1)) (hi : (j : Nat) = i) (hq : lv[q]? = some (i, .ref x)) (k : ga_J l S0 D cl tA base b xn p e R s m args below meth c nL Ts own cc ret tb mn fr lo fl ad0 w0 Q (pc + 1) lv (.ref x :: st) w o) : ga_J l S0 D cl tA base b xn p e R s m args below meth c nL Ts own cc ret tb mn fr lo fl ad0 w0 Q pc lv st w o :=
  ga_of (fun B ad _ _ _ _ ls _ hl kk => lv_aload_n B.1 B.2.1 d hi (lv_at hl q (ga_l_at hq)) kk) k
theorem ga_aload {i q : Nat} {x : Nat} (d : decode cc pc = .ok (.aload i, 2)) (hq : lv[q]? = some (i, .ref x)) (k : ga_J l S0 D cl tA base b xn p e R s m args below meth c nL Ts own cc ret tb mn fr lo fl ad0 w0 Q (pc + 2) lv (.ref x :: st) w o) : ga_J l S0 D cl tA base b xn p e R s m args below meth c nL Ts own cc ret tb mn fr lo fl ad0 w0 Q pc lv st w o :=
  ga_of (fun B ad _ _ _ _ ls _ hl kk => lv_aload B.1 B.2.1 d (lv_at hl q (ga_l_at hq)) kk) k
theorem ga_sload_n {j : Fin 4} {i q : Nat} {x : UInt32} (d : decode cc pc = .ok (.aload_n j, 1)) (hi : (j : Nat) = i) (hq : lv[q]? = some (i, .float x)) (k : ga_J l S0 D cl tA base b xn p e R s m args below meth c nL Ts own cc ret tb mn fr lo fl ad0 w0 Q (pc + 1) lv (.float x :: st) w o) : ga_J l S0 D cl tA base b xn p e R s m args below meth c nL Ts own cc ret tb mn fr lo fl ad0 w0 Q pc lv st w o :=
  ga_of (fun B ad _ _ _ _ ls _ hl kk => lv_aload_n B.1 B.2.1 d hi (lv_at hl q (ga_l_at hq)) kk) k
theorem ga_sload {i q : Nat} {x : UInt32} (d : decode cc pc = .ok (.aload i, 2)) (hq : lv[q]? = some (i, .float x)) (k : ga_J l S0 D cl tA base b xn p e R s m args below meth c nL Ts own cc ret tb mn fr lo fl ad0 w0 Q (pc + 2) lv (.float x :: st) w o) : ga_J l S0 D cl tA base b xn p e R s m args below meth c nL Ts own cc ret tb mn fr lo fl ad0 w0 Q pc lv st w o :=
  ga_of (fun B ad _ _ _ _ ls _ hl kk => lv_aload B.1 B.2.1 d (lv_at hl q (ga_l_at hq)) kk) k
theorem ga_nload_n {j : Fin 4} {i q : Nat}  (d : decode cc pc = .ok (.aload_n j, 1)) (hi : (j : Nat) = i) (hq : lv[q]? = some (i, .null)) (k : ga_J l S0 D cl tA base b xn p e R s m args below meth c nL Ts own cc ret tb mn fr lo fl ad0 w0 Q (pc + 1) lv (.null :: st) w o) : ga_J l S0 D cl tA base b xn p e R s m args below meth c nL Ts own cc ret tb mn fr lo fl ad0 w0 Q pc lv st w o :=
  ga_of (fun B ad _ _ _ _ ls _ hl kk => lv_aload_nN B.1 B.2.1 d hi (lv_at hl q (ga_l_at hq)) kk) k
theorem ga_nload {i q : Nat}  (d : decode cc pc = .ok (.aload i, 2)) (hq : lv[q]? = some (i, .null)) (k : ga_J l S0 D cl tA base b xn p e R s m args below meth c nL Ts own cc ret tb mn fr lo fl ad0 w0 Q (pc + 2) lv (.null :: st) w o) : ga_J l S0 D cl tA base b xn p e R s m args below meth c nL Ts own cc ret tb mn fr lo fl ad0 w0 Q pc lv st w o :=
  ga_of (fun B ad _ _ _ _ ls _ hl kk => lv_aloadN B.1 B.2.1 d (lv_at hl q (ga_l_at hq)) kk) k
theorem ga_istore_n {j : Fin 4} {i : Nat} {x : Int32} {lv2 : List (Nat × Value)} (d : decode cc pc = .ok (.istore_n j, 1)) (hi : (j : Nat) = i) (hn : i < nL) (h2 : ga_s1 lv i (.int x) = lv2) (k : ga_J l S0 D cl tA base b xn p e R s m args below meth c nL Ts own cc ret tb mn fr lo fl ad0 w0 Q (pc + 1) lv2 st w o) : ga_J l S0 D cl tA base b xn p e R s m args below meth c nL Ts own cc ret tb mn fr lo fl ad0 w0 Q pc lv (.int x :: st) w o :=
  ga_ofl (fun B ad _ _ _ _ ls _ hl kk => lv_istore_n B.1 B.2.1 d hi hl hn ((ga_s1_l b ad lv i (.int x)).trans (by rw [h2])) kk) k
theorem ga_istore {i : Nat} {x : Int32} {lv2 : List (Nat × Value)} (d : decode cc pc = .ok (.istore i, 2)) (hn : i < nL) (h2 : ga_s1 lv i (.int x) = lv2) (k : ga_J l S0 D cl tA base b xn p e R s m args below meth c nL Ts own cc ret tb mn fr lo fl ad0 w0 Q (pc + 2) lv2 st w o) : ga_J l S0 D cl tA base b xn p e R s m args below meth c nL Ts own cc ret tb mn fr lo fl ad0 w0 Q pc lv (.int x :: st) w o :=
  ga_ofl (fun B ad _ _ _ _ ls _ hl kk => lv_istore B.1 B.2.1 d hl hn ((ga_s1_l b ad lv i (.int x)).trans (by rw [h2])) kk) k
theorem ga_lstore_n {j : Fin 4} {i : Nat} {x : Int64} {lv2 : List (Nat × Value)} (d : decode cc pc = .ok (.lstore_n j, 1)) (hi : (j : Nat) = i) (hn : i + 1 < nL) (h2 : ga_s2 lv i (.long x) = lv2) (k : ga_J l S0 D cl tA base b xn p e R s m args below meth c nL Ts own cc ret tb mn fr lo fl ad0 w0 Q (pc + 1) lv2 st w o) : ga_J l S0 D cl tA base b xn p e R s m args below meth c nL Ts own cc ret tb mn fr lo fl ad0 w0 Q pc lv (.long x :: st) w o :=
  ga_ofl (fun B ad _ _ _ _ ls _ hl kk => lv_lstore_n B.1 B.2.1 d hi hl hn ((ga_s2_l b ad lv i (.long x)).trans (by rw [h2])) kk) k
theorem ga_lstore {i : Nat} {x : Int64} {lv2 : List (Nat × Value)} (d : decode cc pc = .ok (.lstore i, 2)) (hn : i + 1 < nL) (h2 : ga_s2 lv i (.long x) = lv2) (k : ga_J l S0 D cl tA base b xn p e R s m args below meth c nL Ts own cc ret tb mn fr lo fl ad0 w0 Q (pc + 2) lv2 st w o) : ga_J l S0 D cl tA base b xn p e R s m args below meth c nL Ts own cc ret tb mn fr lo fl ad0 w0 Q pc lv (.long x :: st) w o :=
  ga_ofl (fun B ad _ _ _ _ ls _ hl kk => lv_lstore B.1 B.2.1 d hl hn ((ga_s2_l b ad lv i (.long x)).trans (by rw [h2])) kk) k
theorem ga_dstore_n {j : Fin 4} {i : Nat} {x : UInt64} {lv2 : List (Nat × Value)} (d : decode cc pc = .ok (.dstore_n j, 1)) (hi : (j : Nat) = i) (hn : i + 1 < nL) (h2 : ga_s2 lv i (.double x) = lv2) (k : ga_J l S0 D cl tA base b xn p e R s m args below meth c nL Ts own cc ret tb mn fr lo fl ad0 w0 Q (pc + 1) lv2 st w o) : ga_J l S0 D cl tA base b xn p e R s m args below meth c nL Ts own cc ret tb mn fr lo fl ad0 w0 Q pc lv (.double x :: st) w o :=
  ga_ofl (fun B ad _ _ _ _ ls _ hl kk => lv_dstore_n B.1 B.2.1 d hi hl hn ((ga_s2_l b ad lv i (.double x)).trans (by rw [h2])) kk) k
theorem ga_dstore {i : Nat} {x : UInt64} {lv2 : List (Nat × Value)} (d : decode cc pc = .ok (.dstore i, 2)) (hn : i + 1 < nL) (h2 : ga_s2 lv i (.double x) = lv2) (k : ga_J l S0 D cl tA base b xn p e R s m args below meth c nL Ts own cc ret tb mn fr lo fl ad0 w0 Q (pc + 2) lv2 st w o) : ga_J l S0 D cl tA base b xn p e R s m args below meth c nL Ts own cc ret tb mn fr lo fl ad0 w0 Q pc lv (.double x :: st) w o :=
  ga_ofl (fun B ad _ _ _ _ ls _ hl kk => lv_dstore B.1 B.2.1 d hl hn ((ga_s2_l b ad lv i (.double x)).trans (by rw [h2])) kk) k
theorem ga_astore_n {j : Fin 4} {i : Nat} {x : Nat} {lv2 : List (Nat × Value)} (d : decode cc pc = .ok (.astore_n j, 1)) (hi : (j : Nat) = i) (hn : i < nL) (h2 : ga_s1 lv i (.ref x) = lv2) (k : ga_J l S0 D cl tA base b xn p e R s m args below meth c nL Ts own cc ret tb mn fr lo fl ad0 w0 Q (pc + 1) lv2 st w o) : ga_J l S0 D cl tA base b xn p e R s m args below meth c nL Ts own cc ret tb mn fr lo fl ad0 w0 Q pc lv (.ref x :: st) w o :=
  ga_ofl (fun B ad _ _ _ _ ls _ hl kk => lv_astore_n B.1 B.2.1 d hi hl hn ((ga_s1_l b ad lv i (.ref x)).trans (by rw [h2])) kk) k
theorem ga_astore {i : Nat} {x : Nat} {lv2 : List (Nat × Value)} (d : decode cc pc = .ok (.astore i, 2)) (hn : i < nL) (h2 : ga_s1 lv i (.ref x) = lv2) (k : ga_J l S0 D cl tA base b xn p e R s m args below meth c nL Ts own cc ret tb mn fr lo fl ad0 w0 Q (pc + 2) lv2 st w o) : ga_J l S0 D cl tA base b xn p e R s m args below meth c nL Ts own cc ret tb mn fr lo fl ad0 w0 Q pc lv (.ref x :: st) w o :=
  ga_ofl (fun B ad _ _ _ _ ls _ hl kk => lv_astore B.1 B.2.1 d hl hn ((ga_s1_l b ad lv i (.ref x)).trans (by rw [h2])) kk) k
theorem ga_iinc {i q : Nat} {n : Int} {x v : Int32} {lv2 : List (Nat × Value)} (d : decode cc pc = .ok (.iinc i n, 3)) (hq : lv[q]? = some (i, .int x)) (hv : x + Int32.ofInt n = v) (hn : i < nL) (h2 : ga_s1 lv i (.int v) = lv2) (k : ga_J l S0 D cl tA base b xn p e R s m args below meth c nL Ts own cc ret tb mn fr lo fl ad0 w0 Q (pc + 3) lv2 st w o) : ga_J l S0 D cl tA base b xn p e R s m args below meth c nL Ts own cc ret tb mn fr lo fl ad0 w0 Q pc lv st w o :=
  ga_ofl (fun B ad _ _ _ _ ls _ hl kk => lv_iinc B.1 B.2.1 d hl (ga_l_at hq) hv hn ((ga_s1_l b ad lv i (.int v)).trans (by rw [h2])) kk) k
theorem ga_if_eq {x : Int32} {off : Int} {tgt : Nat} {o2 : ga_O} (d : decode cc pc = .ok (.ifCond .eq off, 3)) (ht : (pc : Int) + off = (tgt : Int)) (k1 : x = 0 → ga_J l S0 D cl tA base b xn p e R s m args below meth c nL Ts own cc ret tb mn fr lo fl ad0 w0 Q tgt lv st w o) (k2 : ¬ (x = 0) → ga_J l S0 D cl tA base b xn p e R s m args below meth c nL Ts own cc ret tb mn fr lo fl ad0 w0 Q (pc + 3) lv st w o2) : ga_J l S0 D cl tA base b xn p e R s m args below meth c nL Ts own cc ret tb mn fr lo fl ad0 w0 Q pc lv (.int x :: st) w (if x = 0 then o else o2) := by
  by_cases hc : x = 0
  · rw [if_pos hc]
    exact ga_of (fun B _ _ _ _ _ _ _ _ kk => lv_if_eq B.1 B.2.1 d ht (fun _ => kk) (fun z => absurd hc z)) (k1 hc)
  · rw [if_neg hc]
    exact ga_of (fun B _ _ _ _ _ _ _ _ kk => lv_if_eq B.1 B.2.1 d ht (fun z => absurd z hc) (fun _ => kk)) (k2 hc)
theorem ga_icmp_eq {x y : Int32} {off : Int} {tgt : Nat} {o2 : ga_O} (d : decode cc pc = .ok (.if_icmp .eq off, 3)) (ht : (pc : Int) + off = (tgt : Int)) (k1 : x = y → ga_J l S0 D cl tA base b xn p e R s m args below meth c nL Ts own cc ret tb mn fr lo fl ad0 w0 Q tgt lv st w o) (k2 : ¬ (x = y) → ga_J l S0 D cl tA base b xn p e R s m args below meth c nL Ts own cc ret tb mn fr lo fl ad0 w0 Q (pc + 3) lv st w o2) : ga_J l S0 D cl tA base b xn p e R s m args below meth c nL Ts own cc ret tb mn fr lo fl ad0 w0 Q pc lv (.int y :: .int x :: st) w (if x = y then o else o2) := by
  by_cases hc : x = y
  · rw [if_pos hc]
    exact ga_of (fun B _ _ _ _ _ _ _ _ kk => lv_icmp_eq B.1 B.2.1 d ht (fun _ => kk) (fun z => absurd hc z)) (k1 hc)
  · rw [if_neg hc]
    exact ga_of (fun B _ _ _ _ _ _ _ _ kk => lv_icmp_eq B.1 B.2.1 d ht (fun z => absurd z hc) (fun _ => kk)) (k2 hc)
theorem ga_if_lt {x : Int32} {off : Int} {tgt : Nat} {o2 : ga_O} (d : decode cc pc = .ok (.ifCond .lt off, 3)) (ht : (pc : Int) + off = (tgt : Int)) (k1 : x < 0 → ga_J l S0 D cl tA base b xn p e R s m args below meth c nL Ts own cc ret tb mn fr lo fl ad0 w0 Q tgt lv st w o) (k2 : ¬ (x < 0) → ga_J l S0 D cl tA base b xn p e R s m args below meth c nL Ts own cc ret tb mn fr lo fl ad0 w0 Q (pc + 3) lv st w o2) : ga_J l S0 D cl tA base b xn p e R s m args below meth c nL Ts own cc ret tb mn fr lo fl ad0 w0 Q pc lv (.int x :: st) w (if x < 0 then o else o2) := by
  by_cases hc : x < 0
  · rw [if_pos hc]
    exact ga_of (fun B _ _ _ _ _ _ _ _ kk => lv_if_lt B.1 B.2.1 d ht (fun _ => kk) (fun z => absurd hc z)) (k1 hc)
  · rw [if_neg hc]
    exact ga_of (fun B _ _ _ _ _ _ _ _ kk => lv_if_lt B.1 B.2.1 d ht (fun z => absurd z hc) (fun _ => kk)) (k2 hc)
theorem ga_icmp_lt {x y : Int32} {off : Int} {tgt : Nat} {o2 : ga_O} (d : decode cc pc = .ok (.if_icmp .lt off, 3)) (ht : (pc : Int) + off = (tgt : Int)) (k1 : x < y → ga_J l S0 D cl tA base b xn p e R s m args below meth c nL Ts own cc ret tb mn fr lo fl ad0 w0 Q tgt lv st w o) (k2 : ¬ (x < y) → ga_J l S0 D cl tA base b xn p e R s m args below meth c nL Ts own cc ret tb mn fr lo fl ad0 w0 Q (pc + 3) lv st w o2) : ga_J l S0 D cl tA base b xn p e R s m args below meth c nL Ts own cc ret tb mn fr lo fl ad0 w0 Q pc lv (.int y :: .int x :: st) w (if x < y then o else o2) := by
  by_cases hc : x < y
  · rw [if_pos hc]
    exact ga_of (fun B _ _ _ _ _ _ _ _ kk => lv_icmp_lt B.1 B.2.1 d ht (fun _ => kk) (fun z => absurd hc z)) (k1 hc)
  · rw [if_neg hc]
    exact ga_of (fun B _ _ _ _ _ _ _ _ kk => lv_icmp_lt B.1 B.2.1 d ht (fun z => absurd z hc) (fun _ => kk)) (k2 hc)
theorem ga_if_ge {x : Int32} {off : Int} {tgt : Nat} {o2 : ga_O} (d : decode cc pc = .ok (.ifCond .ge off, 3)) (ht : (pc : Int) + off = (tgt : Int)) (k1 : 0 ≤ x → ga_J l S0 D cl tA base b xn p e R s m args below meth c nL Ts own cc ret tb mn fr lo fl ad0 w0 Q tgt lv st w o) (k2 : ¬ (0 ≤ x) → ga_J l S0 D cl tA base b xn p e R s m args below meth c nL Ts own cc ret tb mn fr lo fl ad0 w0 Q (pc + 3) lv st w o2) : ga_J l S0 D cl tA base b xn p e R s m args below meth c nL Ts own cc ret tb mn fr lo fl ad0 w0 Q pc lv (.int x :: st) w (if 0 ≤ x then o else o2) := by
  by_cases hc : 0 ≤ x
  · rw [if_pos hc]
    exact ga_of (fun B _ _ _ _ _ _ _ _ kk => lv_if_ge B.1 B.2.1 d ht (fun _ => kk) (fun z => absurd hc z)) (k1 hc)
  · rw [if_neg hc]
    exact ga_of (fun B _ _ _ _ _ _ _ _ kk => lv_if_ge B.1 B.2.1 d ht (fun z => absurd z hc) (fun _ => kk)) (k2 hc)
theorem ga_icmp_ge {x y : Int32} {off : Int} {tgt : Nat} {o2 : ga_O} (d : decode cc pc = .ok (.if_icmp .ge off, 3)) (ht : (pc : Int) + off = (tgt : Int)) (k1 : y ≤ x → ga_J l S0 D cl tA base b xn p e R s m args below meth c nL Ts own cc ret tb mn fr lo fl ad0 w0 Q tgt lv st w o) (k2 : ¬ (y ≤ x) → ga_J l S0 D cl tA base b xn p e R s m args below meth c nL Ts own cc ret tb mn fr lo fl ad0 w0 Q (pc + 3) lv st w o2) : ga_J l S0 D cl tA base b xn p e R s m args below meth c nL Ts own cc ret tb mn fr lo fl ad0 w0 Q pc lv (.int y :: .int x :: st) w (if y ≤ x then o else o2) := by
  by_cases hc : y ≤ x
  · rw [if_pos hc]
    exact ga_of (fun B _ _ _ _ _ _ _ _ kk => lv_icmp_ge B.1 B.2.1 d ht (fun _ => kk) (fun z => absurd hc z)) (k1 hc)
  · rw [if_neg hc]
    exact ga_of (fun B _ _ _ _ _ _ _ _ kk => lv_icmp_ge B.1 B.2.1 d ht (fun z => absurd z hc) (fun _ => kk)) (k2 hc)
theorem ga_if_gt {x : Int32} {off : Int} {tgt : Nat} {o2 : ga_O} (d : decode cc pc = .ok (.ifCond .gt off, 3)) (ht : (pc : Int) + off = (tgt : Int)) (k1 : 0 < x → ga_J l S0 D cl tA base b xn p e R s m args below meth c nL Ts own cc ret tb mn fr lo fl ad0 w0 Q tgt lv st w o) (k2 : ¬ (0 < x) → ga_J l S0 D cl tA base b xn p e R s m args below meth c nL Ts own cc ret tb mn fr lo fl ad0 w0 Q (pc + 3) lv st w o2) : ga_J l S0 D cl tA base b xn p e R s m args below meth c nL Ts own cc ret tb mn fr lo fl ad0 w0 Q pc lv (.int x :: st) w (if 0 < x then o else o2) := by
  by_cases hc : 0 < x
  · rw [if_pos hc]
    exact ga_of (fun B _ _ _ _ _ _ _ _ kk => lv_if_gt B.1 B.2.1 d ht (fun _ => kk) (fun z => absurd hc z)) (k1 hc)
  · rw [if_neg hc]
    exact ga_of (fun B _ _ _ _ _ _ _ _ kk => lv_if_gt B.1 B.2.1 d ht (fun z => absurd z hc) (fun _ => kk)) (k2 hc)
theorem ga_icmp_gt {x y : Int32} {off : Int} {tgt : Nat} {o2 : ga_O} (d : decode cc pc = .ok (.if_icmp .gt off, 3)) (ht : (pc : Int) + off = (tgt : Int)) (k1 : y < x → ga_J l S0 D cl tA base b xn p e R s m args below meth c nL Ts own cc ret tb mn fr lo fl ad0 w0 Q tgt lv st w o) (k2 : ¬ (y < x) → ga_J l S0 D cl tA base b xn p e R s m args below meth c nL Ts own cc ret tb mn fr lo fl ad0 w0 Q (pc + 3) lv st w o2) : ga_J l S0 D cl tA base b xn p e R s m args below meth c nL Ts own cc ret tb mn fr lo fl ad0 w0 Q pc lv (.int y :: .int x :: st) w (if y < x then o else o2) := by
  by_cases hc : y < x
  · rw [if_pos hc]
    exact ga_of (fun B _ _ _ _ _ _ _ _ kk => lv_icmp_gt B.1 B.2.1 d ht (fun _ => kk) (fun z => absurd hc z)) (k1 hc)
  · rw [if_neg hc]
    exact ga_of (fun B _ _ _ _ _ _ _ _ kk => lv_icmp_gt B.1 B.2.1 d ht (fun z => absurd z hc) (fun _ => kk)) (k2 hc)
theorem ga_if_le {x : Int32} {off : Int} {tgt : Nat} {o2 : ga_O} (d : decode cc pc = .ok (.ifCond .le off, 3)) (ht : (pc : Int) + off = (tgt : Int)) (k1 : x ≤ 0 → ga_J l S0 D cl tA base b xn p e R s m args below meth c nL Ts own cc ret tb mn fr lo fl ad0 w0 Q tgt lv st w o) (k2 : ¬ (x ≤ 0) → ga_J l S0 D cl tA base b xn p e R s m args below meth c nL Ts own cc ret tb mn fr lo fl ad0 w0 Q (pc + 3) lv st w o2) : ga_J l S0 D cl tA base b xn p e R s m args below meth c nL Ts own cc ret tb mn fr lo fl ad0 w0 Q pc lv (.int x :: st) w (if x ≤ 0 then o else o2) := by
  by_cases hc : x ≤ 0
  · rw [if_pos hc]
    exact ga_of (fun B _ _ _ _ _ _ _ _ kk => lv_if_le B.1 B.2.1 d ht (fun _ => kk) (fun z => absurd hc z)) (k1 hc)
  · rw [if_neg hc]
    exact ga_of (fun B _ _ _ _ _ _ _ _ kk => lv_if_le B.1 B.2.1 d ht (fun z => absurd z hc) (fun _ => kk)) (k2 hc)
theorem ga_icmp_le {x y : Int32} {off : Int} {tgt : Nat} {o2 : ga_O} (d : decode cc pc = .ok (.if_icmp .le off, 3)) (ht : (pc : Int) + off = (tgt : Int)) (k1 : x ≤ y → ga_J l S0 D cl tA base b xn p e R s m args below meth c nL Ts own cc ret tb mn fr lo fl ad0 w0 Q tgt lv st w o) (k2 : ¬ (x ≤ y) → ga_J l S0 D cl tA base b xn p e R s m args below meth c nL Ts own cc ret tb mn fr lo fl ad0 w0 Q (pc + 3) lv st w o2) : ga_J l S0 D cl tA base b xn p e R s m args below meth c nL Ts own cc ret tb mn fr lo fl ad0 w0 Q pc lv (.int y :: .int x :: st) w (if x ≤ y then o else o2) := by
  by_cases hc : x ≤ y
  · rw [if_pos hc]
    exact ga_of (fun B _ _ _ _ _ _ _ _ kk => lv_icmp_le B.1 B.2.1 d ht (fun _ => kk) (fun z => absurd hc z)) (k1 hc)
  · rw [if_neg hc]
    exact ga_of (fun B _ _ _ _ _ _ _ _ kk => lv_icmp_le B.1 B.2.1 d ht (fun z => absurd z hc) (fun _ => kk)) (k2 hc)
theorem ga_if_ne {x : Int32} {off : Int} {tgt : Nat} {o2 : ga_O} (d : decode cc pc = .ok (.ifCond .ne off, 3)) (ht : (pc : Int) + off = (tgt : Int)) (k1 : x = 0 → ga_J l S0 D cl tA base b xn p e R s m args below meth c nL Ts own cc ret tb mn fr lo fl ad0 w0 Q (pc + 3) lv st w o) (k2 : ¬ (x = 0) → ga_J l S0 D cl tA base b xn p e R s m args below meth c nL Ts own cc ret tb mn fr lo fl ad0 w0 Q tgt lv st w o2) : ga_J l S0 D cl tA base b xn p e R s m args below meth c nL Ts own cc ret tb mn fr lo fl ad0 w0 Q pc lv (.int x :: st) w (if x = 0 then o else o2) := by
  by_cases hc : x = 0
  · rw [if_pos hc]
    exact ga_of (fun B _ _ _ _ _ _ _ _ kk => lv_if_ne B.1 B.2.1 d ht (fun z => absurd hc z) (fun _ => kk)) (k1 hc)
  · rw [if_neg hc]
    exact ga_of (fun B _ _ _ _ _ _ _ _ kk => lv_if_ne B.1 B.2.1 d ht (fun _ => kk) (fun z => absurd z hc)) (k2 hc)
theorem ga_icmp_ne {x y : Int32} {off : Int} {tgt : Nat} {o2 : ga_O} (d : decode cc pc = .ok (.if_icmp .ne off, 3)) (ht : (pc : Int) + off = (tgt : Int)) (k1 : x = y → ga_J l S0 D cl tA base b xn p e R s m args below meth c nL Ts own cc ret tb mn fr lo fl ad0 w0 Q (pc + 3) lv st w o) (k2 : ¬ (x = y) → ga_J l S0 D cl tA base b xn p e R s m args below meth c nL Ts own cc ret tb mn fr lo fl ad0 w0 Q tgt lv st w o2) : ga_J l S0 D cl tA base b xn p e R s m args below meth c nL Ts own cc ret tb mn fr lo fl ad0 w0 Q pc lv (.int y :: .int x :: st) w (if x = y then o else o2) := by
  by_cases hc : x = y
  · rw [if_pos hc]
    exact ga_of (fun B _ _ _ _ _ _ _ _ kk => lv_icmp_ne B.1 B.2.1 d ht (fun z => absurd hc z) (fun _ => kk)) (k1 hc)
  · rw [if_neg hc]
    exact ga_of (fun B _ _ _ _ _ _ _ _ kk => lv_icmp_ne B.1 B.2.1 d ht (fun _ => kk) (fun z => absurd z hc)) (k2 hc)
theorem ga_goto {off : Int} {tgt : Nat} (d : decode cc pc = .ok (.goto off, 3)) (ht : (pc : Int) + off = (tgt : Int)) (k : ga_J l S0 D cl tA base b xn p e R s m args below meth c nL Ts own cc ret tb mn fr lo fl ad0 w0 Q tgt lv st w o) : ga_J l S0 D cl tA base b xn p e R s m args below meth c nL Ts own cc ret tb mn fr lo fl ad0 w0 Q pc lv st w o :=
  ga_of (fun B _ _ _ _ _ _ _ _ kk => lv_goto B.1 B.2.1 d ht kk) k
theorem ga_tabIn {dflt low hi : Int} {offs : Array Int} {len tgt : Nat} {x : Int32} {off : Int} (d : decode cc pc = .ok (.tableswitch dflt low hi offs, len)) (h1 : ¬ x.toInt < low) (h2 : ¬ hi < x.toInt) (ho : offs[(x.toInt - low).toNat]? = some off) (ht : (pc : Int) + off = (tgt : Int)) (k : ga_J l S0 D cl tA base b xn p e R s m args below meth c nL Ts own cc ret tb mn fr lo fl ad0 w0 Q tgt lv st w o) : ga_J l S0 D cl tA base b xn p e R s m args below meth c nL Ts own cc ret tb mn fr lo fl ad0 w0 Q pc lv (.int x :: st) w o :=
  ga_of (fun B _ _ _ _ _ _ _ _ kk => lv_tableIn B.1 B.2.1 d h1 h2 ho ht kk) k
theorem ga_tabOut {dflt low hi : Int} {offs : Array Int} {len tgt : Nat} {x : Int32} (d : decode cc pc = .ok (.tableswitch dflt low hi offs, len)) (h : x.toInt < low ∨ hi < x.toInt) (ht : (pc : Int) + dflt = (tgt : Int)) (k : ga_J l S0 D cl tA base b xn p e R s m args below meth c nL Ts own cc ret tb mn fr lo fl ad0 w0 Q tgt lv st w o) : ga_J l S0 D cl tA base b xn p e R s m args below meth c nL Ts own cc ret tb mn fr lo fl ad0 w0 Q pc lv (.int x :: st) w o :=
  ga_of (fun B _ _ _ _ _ _ _ _ kk => lv_tableOut B.1 B.2.1 d h ht kk) k
theorem ga_lookup {dflt : Int} {ps : Array (Int × Int)} {len tgt : Nat} {x : Int32} {off : Int} (d : decode cc pc = .ok (.lookupswitch dflt ps, len)) (hp : (ps.toList.zip (ps.toList.drop 1)).all (fun (a, next) => a.1 < next.1) = true) (ho : Op.lookupswitch.offset ps.toList dflt x.toInt = off) (ht : (pc : Int) + off = (tgt : Int)) (k : ga_J l S0 D cl tA base b xn p e R s m args below meth c nL Ts own cc ret tb mn fr lo fl ad0 w0 Q tgt lv st w o) : ga_J l S0 D cl tA base b xn p e R s m args below meth c nL Ts own cc ret tb mn fr lo fl ad0 w0 Q pc lv (.int x :: st) w o :=
  ga_of (fun B _ _ _ _ _ _ _ _ kk => lv_lookup B.1 B.2.1 d hp ho ht kk) k
end GA
end
section
/-! ROWS OF INSTRUCTIONS THAT READ OR WRITE THE WORLD -/
/-! what a pure program reads and writes -/
def ga_get (w : ga_W) (ci k a : Nat) : Option Value := match w.1[a]? with
  | some (.inr (c', fs)) => if c' = ci then fs[k]? else none
  | _ => none
def ga_gi (w : ga_W) (ci k a : Nat) : Option Int32 := match ga_get w ci k a with
  | some (.int x) => some x
  | _ => none
def ga_gr (w : ga_W) (ci k a : Nat) : Option Nat := match ga_get w ci k a with
  | some (.ref x) => some x
  | _ => none
def ga_put (w : ga_W) (ci k a : Nat) (v : Value) : Option ga_W := match w.1[a]? with
  | some (.inr (c', fs)) => if c' = ci ∧ k < fs.length then some (w.1.set a (.inr (ci, fs.set k v)), w.2) else none
  | _ => none
def ga_ai (w : ga_W) (t a : Nat) (i : Int32) : Option Int32 := match w.1[a]? with
  | some (.inl (t', n, .inl f)) => if t' = t ∧ ¬ (i < 0 ∨ n ≤ i.toNatClampNeg) then some (f i.toNatClampNeg) else none
  | _ => none
def ga_si (w : ga_W) (t a : Nat) (i : Int32) (x : Int32) : Option ga_W := match w.1[a]? with
  | some (.inl (t', n, .inl f)) => if t' = t ∧ ¬ (i < 0 ∨ n ≤ i.toNatClampNeg) then some (w.1.set a (.inl (t, n, .inl (upd f i.toNatClampNeg x))), w.2) else none
  | _ => none
def ga_az (w : ga_W) (t a : Nat) (i : Int32) : Option Int32 := match w.1[a]? with
  | some (.inl (t', n, .inl f)) => if t' = t ∧ ¬ (i < 0 ∨ n ≤ i.toNatClampNeg) then some (f i.toNatClampNeg) else none
  | _ => none
def ga_sz (w : ga_W) (t a : Nat) (i : Int32) (x : Int32) : Option ga_W := match w.1[a]? with
  | some (.inl (t', n, .inl f)) => if t' = t ∧ ¬ (i < 0 ∨ n ≤ i.toNatClampNeg) then some (w.1.set a (.inl (t, n, .inl (upd f i.toNatClampNeg (vp_nar .boolean x)))), w.2) else none
  | _ => none
def ga_al (w : ga_W) (t a : Nat) (i : Int32) : Option Int64 := match w.1[a]? with
  | some (.inl (t', n, .inr (.inl f))) => if t' = t ∧ ¬ (i < 0 ∨ n ≤ i.toNatClampNeg) then some (f i.toNatClampNeg) else none
  | _ => none
def ga_sl (w : ga_W) (t a : Nat) (i : Int32) (x : Int64) : Option ga_W := match w.1[a]? with
  | some (.inl (t', n, .inr (.inl f))) => if t' = t ∧ ¬ (i < 0 ∨ n ≤ i.toNatClampNeg) then some (w.1.set a (.inl (t, n, .inr (.inl (vp_updL f i.toNatClampNeg x)))), w.2) else none
  | _ => none
def ga_ad (w : ga_W) (t a : Nat) (i : Int32) : Option UInt64 := match w.1[a]? with
  | some (.inl (t', n, .inr (.inr (.inr (.inl f))))) => if t' = t ∧ ¬ (i < 0 ∨ n ≤ i.toNatClampNeg) then some (f i.toNatClampNeg) else none
  | _ => none
def ga_sd (w : ga_W) (t a : Nat) (i : Int32) (x : UInt64) : Option ga_W := match w.1[a]? with
  | some (.inl (t', n, .inr (.inr (.inr (.inl f))))) => if t' = t ∧ ¬ (i < 0 ∨ n ≤ i.toNatClampNeg) then some (w.1.set a (.inl (t, n, .inr (.inr (.inr (.inl (vf_upd f i.toNatClampNeg x)))))), w.2) else none
  | _ => none
def ga_len (w : ga_W) (t a : Nat) : Option Nat := match w.1[a]? with
  | some (.inl (t', n, _)) => if t' = t then some n else none
  | _ => none
section GB
variable {l : Launch} {S0 : State} {D : va_G} {cl : List vw_C} {tA : List (ClassId × FieldType)} {base b : Nat} {xn : Nat → String} {p : Program} {e : Env} {R : Room} {s : State} {m : MethodId} {args : Array Value} {below : List Frame} {meth : Method} {c : Code} {nL : Nat} {Ts : List Cond} {own : String} {cc : ByteArray} {ret : Option FieldType} {tb : List ExceptionTableEntry} {mn : String} {fr lo : Nat} {fl : Bool} {ad0 : Nat → Nat} {w0 : ga_W} {Q : ga_R → ga_W → State → Prop}
variable {pc : Nat} {lv : List (Nat × Value)} {st : List Value} {w : ga_W} {o : ga_O}
theorem ga_ofH {pc2 : Nat} {st2 : List Value} (h : (ga_B l S0 D cl tA base b p R s m args meth c nL Ts own cc ret tb mn fr lo) → ∀ (ad : Nat → Nat) (H : Heap) (locs : List Loc) (k n : Nat) (ls : Array Slot) (Q' : State → Prop), ga_H D cl tA base b ad w.1 H → va_S (fun q => base ≤ q) s.heap H locs → lv_has ls nL (ga_l b ad lv) → W p l e R s m args below meth c H locs k n Q' (F0 m pc2 ls (st2.map (ga_v b ad))) → W p l e R s m args below meth c H locs k n Q' (F0 m pc ls (st.map (ga_v b ad))))
    (k : ga_J l S0 D cl tA base b xn p e R s m args below meth c nL Ts own cc ret tb mn fr lo fl ad0 w0 Q pc2 lv st2 w o) : ga_J l S0 D cl tA base b xn p e R s m args below meth c nL Ts own cc ret tb mn fr lo fl ad0 w0 Q pc lv st w o := by
  intro r w' ho
  obtain ⟨h1, h4⟩ := k r w' ho
  exact ⟨h1, fun B a1 a2 a3 a4 ad H locs ls x1 x2 x3 x4 => h B ad H locs _ _ ls _ x2 x3 x4 (h4 B a1 a2 a3 a4 ad H locs ls x1 x2 x3 x4)⟩
/-- a cell is written -/
theorem ga_ofP {pc2 : Nat} {st2 : List Value} {w2 : ga_W} (hc : w2.2 = w.2) (hn : w2.1.length = w.1.length) (h : (ga_B l S0 D cl tA base b p R s m args meth c nL Ts own cc ret tb mn fr lo) → ∀ (ad : Nat → Nat) (H : Heap) (locs : List Loc) (k n : Nat) (ls : Array Slot) (Q' : State → Prop), ga_H D cl tA base b ad w.1 H → va_S (fun q => base ≤ q) s.heap H locs → (∀ (H1 : Heap) (locs1 : List Loc), ga_H D cl tA base b ad w2.1 H1 → va_S (fun q => base ≤ q) s.heap H1 locs1 → W p l e R s m args below meth c H1 locs1 k n Q' (F0 m pc2 ls (st2.map (ga_v b ad)))) → W p l e R s m args below meth c H locs k n Q' (F0 m pc ls (st.map (ga_v b ad))))
    (k : ga_J l S0 D cl tA base b xn p e R s m args below meth c nL Ts own cc ret tb mn fr lo fl ad0 w0 Q pc2 lv st2 w2 o) : ga_J l S0 D cl tA base b xn p e R s m args below meth c nL Ts own cc ret tb mn fr lo fl ad0 w0 Q pc lv st w o := by
  intro r w' ho
  obtain ⟨h1, h4⟩ := k r w' ho
  unfold ga_N at h1
  rw [hc, hn] at h1
  rw [hc, hn] at h4
  exact ⟨h1, fun B a1 a2 a3 a4 ad H locs ls x1 x2 x3 x4 => h B ad H locs _ _ ls _ x2 x3 (fun H1 locs1 y1 y2 => h4 B a1 a2 a3 a4 ad H1 locs1 ls x1 y1 y2 x4)⟩
/-! fields -/
theorem ga_get_spec {ci k a : Nat} {v : Value} (h : ga_get w ci k a = some v) : ∃ fs, w.1[a]? = some (.inr (ci, fs)) ∧ fs[k]? = some v := by
  unfold ga_get at h
  split at h
  · rename_i c' fs hw
    split at h
    · rename_i hc
      subst hc
      exact ⟨fs, hw, h⟩
    · cases h
  · cases h
theorem ga_getv {ci k a index N : Nat} {C : String} {T : u_T} {v : Value} (hin : ∀ x ∈ u_ws C T N, x ∈ Ts) (hc : cl[ci]? = some (C, T, N)) (hk : k < N) (hl : Cond.fieldLink own index (T k).1 (T k).2.1 (T k).2.2.1 ∈ Ts) (d : decode cc pc = .ok (.getfield index, 3)) (hv : ga_get w ci k a = some v)
    (k : ga_J l S0 D cl tA base b xn p e R s m args below meth c nL Ts own cc ret tb mn fr lo fl ad0 w0 Q (pc + 3) lv (v :: st) w o) : ga_J l S0 D cl tA base b xn p e R s m args below meth c nL Ts own cc ret tb mn fr lo fl ad0 w0 Q pc lv (.ref a :: st) w o := by
  obtain ⟨fs, hw, hf⟩ := ga_get_spec hv
  refine ga_ofH (fun B ad H locs k n ls Q' hH hS hl2 kk => ?_) k
  obtain ⟨hx, hb, hml, hr, hown, hts, hlk, hbs, hK, hZ, htb, hmn, hfr, hlo, hst, h00⟩ := B
  exact va_get (D := D) hx hb hts hin hown hK hH.1 a (ga_w_get hw) hc _ hk (hts _ hl) (fun _ h9 => h9) (v := ga_v b ad v) (by simp [hf]) d kk
theorem ga_gi_spec {ci k a : Nat} {x : Int32} (h : ga_gi w ci k a = some x) : ga_get w ci k a = some (.int x) := by
  unfold ga_gi at h
  split at h
  · rename_i y hy
    cases h
    exact hy
  · cases h
theorem ga_gr_spec {ci k a : Nat} {x : Nat} (h : ga_gr w ci k a = some x) : ga_get w ci k a = some (.ref x) := by
  unfold ga_gr at h
  split at h
  · rename_i y hy
    cases h
    exact hy
  · cases h
theorem ga_getI {ci k a index N : Nat} {C : String} {T : u_T} {f : Int32 → ga_O} (hin : ∀ x ∈ u_ws C T N, x ∈ Ts) (hc : cl[ci]? = some (C, T, N)) (hk : k < N) (hl : Cond.fieldLink own index (T k).1 (T k).2.1 (T k).2.2.1 ∈ Ts) (d : decode cc pc = .ok (.getfield index, 3))
    (kk : ∀ x, ga_J l S0 D cl tA base b xn p e R s m args below meth c nL Ts own cc ret tb mn fr lo fl ad0 w0 Q (pc + 3) lv (.int x :: st) w (f x)) : ga_J l S0 D cl tA base b xn p e R s m args below meth c nL Ts own cc ret tb mn fr lo fl ad0 w0 Q pc lv (.ref a :: st) w ((ga_gi w ci k a).bind f) := by
  cases h : ga_gi w ci k a with
  | none => exact ga_no
  | some x => exact ga_getv hin hc hk hl d (ga_gi_spec h) (kk x)
theorem ga_getR {ci k a index N : Nat} {C : String} {T : u_T} {f : Nat → ga_O} (hin : ∀ x ∈ u_ws C T N, x ∈ Ts) (hc : cl[ci]? = some (C, T, N)) (hk : k < N) (hl : Cond.fieldLink own index (T k).1 (T k).2.1 (T k).2.2.1 ∈ Ts) (d : decode cc pc = .ok (.getfield index, 3))
    (kk : ∀ x, ga_J l S0 D cl tA base b xn p e R s m args below meth c nL Ts own cc ret tb mn fr lo fl ad0 w0 Q (pc + 3) lv (.ref x :: st) w (f x)) : ga_J l S0 D cl tA base b xn p e R s m args below meth c nL Ts own cc ret tb mn fr lo fl ad0 w0 Q pc lv (.ref a :: st) w ((ga_gr w ci k a).bind f) := by
  cases h : ga_gr w ci k a with
  | none => exact ga_no
  | some x => exact ga_getv hin hc hk hl d (ga_gr_spec h) (kk x)
theorem ga_put_spec {ci k a : Nat} {v : Value} {w2 : ga_W} (h : ga_put w ci k a v = some w2) : ∃ fs, w.1[a]? = some (.inr (ci, fs)) ∧ k < fs.length ∧ w2 = (w.1.set a (.inr (ci, fs.set k v)), w.2) := by
  unfold ga_put at h
  split at h
  · rename_i c' fs hw
    split at h
    · rename_i hc
      obtain ⟨hc, hk⟩ := hc
      subst hc
      cases h
      exact ⟨fs, hw, hk, rfl⟩
    · cases h
  · cases h
theorem ga_putv {ci k a index N : Nat} {C : String} {T : u_T} {ty0 : Nat → FieldType} {v : Value} {w2 : ga_W} (hin : ∀ x ∈ u_ws C T N, x ∈ Ts) (hty : ∀ k, k < N → parseFieldDescriptor (T k).2.2.1 = some (ty0 k)) (hnm : ∀ a, a < N → ∀ b, b < N → a ≠ b → (T a).2.1 ≠ (T b).2.1) (hc : cl[ci]? = some (C, T, N)) (hk : k < N) (hl : Cond.fieldLink own index (T k).1 (T k).2.1 (T k).2.2.1 ∈ Ts) (hfin : (T k).2.2.2 = false ∨ ((T k).2.2.2 = true ∧ mn = "<init>" ∧ (T k).1 = own)) (hn : ∀ ad, narrow (ty0 k) (ga_v b ad v) = ga_v b ad v ∧ fits (ty0 k) (ga_v b ad v) = true) (d : decode cc pc = .ok (.putfield index, 3)) (hv : ga_put w ci k a v = some w2)
    (kk : ga_J l S0 D cl tA base b xn p e R s m args below meth c nL Ts own cc ret tb mn fr lo fl ad0 w0 Q (pc + 3) lv st w2 o) : ga_J l S0 D cl tA base b xn p e R s m args below meth c nL Ts own cc ret tb mn fr lo fl ad0 w0 Q pc lv (v :: .ref a :: st) w o := by
  obtain ⟨fs, hw, hf, rfl⟩ := ga_put_spec hv
  refine ga_ofP (w2 := (w.1.set a (.inr (ci, fs.set k v)), w.2)) rfl (by simp) (fun B ad H locs k9 n ls Q' hH hS kk => ?_) kk
  obtain ⟨hx, hb, hml, hr, hown, hts, hlk, hbs, hK, hZ, htb, hmn, hfr, hlo, hst, h00⟩ := B
  have key : ∀ (H1 : Heap) (locs1 : List Loc), va_P D cl ((ga_w tA b ad w.1).set a (ad a, .inr (ci, (fs.map (ga_v b ad)).set k (ga_v b ad v)))) H1 → va_D (fun q => base ≤ q) ((ga_w tA b ad w.1).set a (ad a, .inr (ci, (fs.map (ga_v b ad)).set k (ga_v b ad v)))) → va_S (fun q => base ≤ q) s.heap H1 locs1 → W p l e R s m args below meth c H1 locs1 k9 n Q' (F0 m (pc + 3) ls (st.map (ga_v b ad))) := by
    intro H1 locs1 h1 h2 h3
    rw [← List.map_set] at h1 h2
    have e := ga_w_set (tA := tA) (b := b) (ad := ad) (w := w.1) (k := a) (x := .inr (ci, fs.set k v))
    simp only [ga_e] at e
    exact kk H1 locs1 ⟨by rw [← e]; exact h1, by rw [← e]; exact h2⟩ h3
  rcases hfin with hfin | ⟨hfin, hin2, hdecl⟩
  · exact va_put (D := D) hx hb hts hin ty0 hty hnm hown hK hH.1 hH.2 hS a (ga_w_get hw) hc k hk (hts _ hl) (fun _ h9 => h9) hfin (hty _ hk) (hn ad).1 (hn ad).2 (by simpa using hf) d key
  · exact va_putF (D := D) hx hb hts hin ty0 hty hnm hown hK hH.1 hH.2 hS a (ga_w_get hw) hc k hk (hts _ hl) (fun _ h9 => h9) hfin (hmn.trans hin2) hdecl (hty _ hk) (hn ad).1 (hn ad).2 (by simpa using hf) d key
theorem ga_putB {ci k a index N : Nat} {C : String} {T : u_T} {ty0 : Nat → FieldType} {v : Value} {f : ga_W → ga_O} (hin : ∀ x ∈ u_ws C T N, x ∈ Ts) (hty : ∀ k, k < N → parseFieldDescriptor (T k).2.2.1 = some (ty0 k)) (hnm : ∀ a, a < N → ∀ b, b < N → a ≠ b → (T a).2.1 ≠ (T b).2.1) (hc : cl[ci]? = some (C, T, N)) (hk : k < N) (hl : Cond.fieldLink own index (T k).1 (T k).2.1 (T k).2.2.1 ∈ Ts) (hfin : (T k).2.2.2 = false ∨ ((T k).2.2.2 = true ∧ mn = "<init>" ∧ (T k).1 = own)) (hn : ∀ ad, narrow (ty0 k) (ga_v b ad v) = ga_v b ad v ∧ fits (ty0 k) (ga_v b ad v) = true) (d : decode cc pc = .ok (.putfield index, 3))
    (kk : ∀ w2, ga_J l S0 D cl tA base b xn p e R s m args below meth c nL Ts own cc ret tb mn fr lo fl ad0 w0 Q (pc + 3) lv st w2 (f w2)) : ga_J l S0 D cl tA base b xn p e R s m args below meth c nL Ts own cc ret tb mn fr lo fl ad0 w0 Q pc lv (v :: .ref a :: st) w ((ga_put w ci k a v).bind f) := by
  cases h : ga_put w ci k a v with
  | none => exact ga_no
  | some w2 => exact ga_putv hin hty hnm hc hk hl hfin hn d h (kk w2)
/-! arrays -/
theorem ga_ai_spec {t a : Nat} {i : Int32} {x : Int32} (h : ga_ai w t a i = some x) : ∃ n f, w.1[a]? = some (.inl (t, n, .inl f)) ∧ vp_in i n ∧ x = f i.toNatClampNeg := by
  unfold ga_ai at h
  split at h
  · rename_i t' n f hw
    split at h
    · rename_i hc
      obtain ⟨hc, hi⟩ := hc
      subst hc
      cases h
      exact ⟨n, f, hw, hi, rfl⟩
    · cases h
  · cases h
theorem ga_ldI {t a : Nat} {i : Int32} {cA : ClassId} {f : Int32 → ga_O} (ht : tA[t]? = some (cA, .int)) (d : decode cc pc = .ok (.iaload, 1)) (kk : ∀ x, ga_J l S0 D cl tA base b xn p e R s m args below meth c nL Ts own cc ret tb mn fr lo fl ad0 w0 Q (pc + 1) lv (.int x :: st) w (f x)) : ga_J l S0 D cl tA base b xn p e R s m args below meth c nL Ts own cc ret tb mn fr lo fl ad0 w0 Q pc lv (.int i :: .ref a :: st) w ((ga_ai w t a i).bind f) := by
  cases h : ga_ai w t a i with
  | none => exact ga_no
  | some x =>
    obtain ⟨n, g, hw, hi, rfl⟩ := ga_ai_spec h
    refine ga_ofH (fun B ad H locs k n ls Q' hH hS hl2 k2 => ?_) (kk _)
    obtain ⟨hx, hb, hml, hr, hown, hts, hlk, hbs, hK, hZ, htb, hmn, hfr, hlo, hst, h00⟩ := B
    have e := ga_w_get (tA := tA) (b := b) (ad := ad) hw
    have e2 : (tA.getD t (0, .int)).1 = cA := by simp [List.getD, ht]
    simp only [ga_e, e2] at e
    exact va_iald hx hb hK hH.1 a t e ht hi d k2
theorem ga_si_spec {t a : Nat} {i : Int32} {x : Int32} {w2 : ga_W} (h : ga_si w t a i x = some w2) : ∃ n f, w.1[a]? = some (.inl (t, n, .inl f)) ∧ vp_in i n ∧ w2 = (w.1.set a (.inl (t, n, .inl (upd f i.toNatClampNeg x))), w.2) := by
  unfold ga_si at h
  split at h
  · rename_i t' n f hw
    split at h
    · rename_i hc
      obtain ⟨hc, hi⟩ := hc
      subst hc
      cases h
      exact ⟨n, f, hw, hi, rfl⟩
    · cases h
  · cases h
theorem ga_stI {t a : Nat} {i : Int32} {x : Int32} {cA : ClassId} {f : ga_W → ga_O} (ht : tA[t]? = some (cA, .int)) (d : decode cc pc = .ok (.iastore, 1)) (kk : ∀ w2, ga_J l S0 D cl tA base b xn p e R s m args below meth c nL Ts own cc ret tb mn fr lo fl ad0 w0 Q (pc + 1) lv st w2 (f w2)) : ga_J l S0 D cl tA base b xn p e R s m args below meth c nL Ts own cc ret tb mn fr lo fl ad0 w0 Q pc lv (.int x :: .int i :: .ref a :: st) w ((ga_si w t a i x).bind f) := by
  cases h : ga_si w t a i x with
  | none => exact ga_no
  | some w2 =>
    obtain ⟨n, g, hw, hi, rfl⟩ := ga_si_spec h
    refine ga_ofP (w2 := (w.1.set a (.inl (t, n, .inl (upd g i.toNatClampNeg x))), w.2)) rfl (by simp) (fun B ad H locs k n2 ls Q' hH hS k2 => ?_) (kk _)
    obtain ⟨hx, hb, hml, hr, hown, hts, hlk, hbs, hK, hZ, htb, hmn, hfr, hlo, hst, h00⟩ := B
    have e := ga_w_get (tA := tA) (b := b) (ad := ad) hw
    have e2 : (tA.getD t (0, .int)).1 = cA := by simp [List.getD, ht]
    have e3 := ga_w_set (tA := tA) (b := b) (ad := ad) (w := w.1) (k := a) (x := .inl (t, n, .inl (upd g i.toNatClampNeg x)))
    simp only [ga_e, e2] at e e3
    exact va_iast hx hb hK hH.1 hH.2 hS a t e ht hi d (fun H1 locs1 h1 h2 h3 => k2 H1 locs1 ⟨by rw [← e3]; exact h1, by rw [← e3]; exact h2⟩ h3)
theorem ga_az_spec {t a : Nat} {i : Int32} {x : Int32} (h : ga_az w t a i = some x) : ∃ n f, w.1[a]? = some (.inl (t, n, .inl f)) ∧ vp_in i n ∧ x = f i.toNatClampNeg := by
  unfold ga_az at h
  split at h
  · rename_i t' n f hw
    split at h
    · rename_i hc
      obtain ⟨hc, hi⟩ := hc
      subst hc
      cases h
      exact ⟨n, f, hw, hi, rfl⟩
    · cases h
  · cases h
theorem ga_ldZ {t a : Nat} {i : Int32} {cA : ClassId} {f : Int32 → ga_O} (ht : tA[t]? = some (cA, .boolean)) (d : decode cc pc = .ok (.baload, 1)) (kk : ∀ x, ga_J l S0 D cl tA base b xn p e R s m args below meth c nL Ts own cc ret tb mn fr lo fl ad0 w0 Q (pc + 1) lv (.int x :: st) w (f x)) : ga_J l S0 D cl tA base b xn p e R s m args below meth c nL Ts own cc ret tb mn fr lo fl ad0 w0 Q pc lv (.int i :: .ref a :: st) w ((ga_az w t a i).bind f) := by
  cases h : ga_az w t a i with
  | none => exact ga_no
  | some x =>
    obtain ⟨n, g, hw, hi, rfl⟩ := ga_az_spec h
    refine ga_ofH (fun B ad H locs k n ls Q' hH hS hl2 k2 => ?_) (kk _)
    obtain ⟨hx, hb, hml, hr, hown, hts, hlk, hbs, hK, hZ, htb, hmn, hfr, hlo, hst, h00⟩ := B
    have e := ga_w_get (tA := tA) (b := b) (ad := ad) hw
    have e2 : (tA.getD t (0, .int)).1 = cA := by simp [List.getD, ht]
    simp only [ga_e, e2] at e
    exact va_zald hx hb hK hH.1 a t e ht hi d k2
theorem ga_sz_spec {t a : Nat} {i : Int32} {x : Int32} {w2 : ga_W} (h : ga_sz w t a i x = some w2) : ∃ n f, w.1[a]? = some (.inl (t, n, .inl f)) ∧ vp_in i n ∧ w2 = (w.1.set a (.inl (t, n, .inl (upd f i.toNatClampNeg (vp_nar .boolean x)))), w.2) := by
  unfold ga_sz at h
  split at h
  · rename_i t' n f hw
    split at h
    · rename_i hc
      obtain ⟨hc, hi⟩ := hc
      subst hc
      cases h
      exact ⟨n, f, hw, hi, rfl⟩
    · cases h
  · cases h
theorem ga_stZ {t a : Nat} {i : Int32} {x : Int32} {cA : ClassId} {f : ga_W → ga_O} (ht : tA[t]? = some (cA, .boolean)) (d : decode cc pc = .ok (.bastore, 1)) (kk : ∀ w2, ga_J l S0 D cl tA base b xn p e R s m args below meth c nL Ts own cc ret tb mn fr lo fl ad0 w0 Q (pc + 1) lv st w2 (f w2)) : ga_J l S0 D cl tA base b xn p e R s m args below meth c nL Ts own cc ret tb mn fr lo fl ad0 w0 Q pc lv (.int x :: .int i :: .ref a :: st) w ((ga_sz w t a i x).bind f) := by
  cases h : ga_sz w t a i x with
  | none => exact ga_no
  | some w2 =>
    obtain ⟨n, g, hw, hi, rfl⟩ := ga_sz_spec h
    refine ga_ofP (w2 := (w.1.set a (.inl (t, n, .inl (upd g i.toNatClampNeg (vp_nar .boolean x)))), w.2)) rfl (by simp) (fun B ad H locs k n2 ls Q' hH hS k2 => ?_) (kk _)
    obtain ⟨hx, hb, hml, hr, hown, hts, hlk, hbs, hK, hZ, htb, hmn, hfr, hlo, hst, h00⟩ := B
    have e := ga_w_get (tA := tA) (b := b) (ad := ad) hw
    have e2 : (tA.getD t (0, .int)).1 = cA := by simp [List.getD, ht]
    have e3 := ga_w_set (tA := tA) (b := b) (ad := ad) (w := w.1) (k := a) (x := .inl (t, n, .inl (upd g i.toNatClampNeg (vp_nar .boolean x))))
    simp only [ga_e, e2] at e e3
    exact va_zast hx hb hK hH.1 hH.2 hS a t e ht hi d (fun H1 locs1 h1 h2 h3 => k2 H1 locs1 ⟨by rw [← e3]; exact h1, by rw [← e3]; exact h2⟩ h3)
theorem ga_al_spec {t a : Nat} {i : Int32} {x : Int64} (h : ga_al w t a i = some x) : ∃ n f, w.1[a]? = some (.inl (t, n, .inr (.inl f))) ∧ vp_in i n ∧ x = f i.toNatClampNeg := by
  unfold ga_al at h
  split at h
  · rename_i t' n f hw
    split at h
    · rename_i hc
      obtain ⟨hc, hi⟩ := hc
      subst hc
      cases h
      exact ⟨n, f, hw, hi, rfl⟩
    · cases h
  · cases h
theorem ga_ldL {t a : Nat} {i : Int32} {cA : ClassId} {f : Int64 → ga_O} (ht : tA[t]? = some (cA, .long)) (d : decode cc pc = .ok (.laload, 1)) (kk : ∀ x, ga_J l S0 D cl tA base b xn p e R s m args below meth c nL Ts own cc ret tb mn fr lo fl ad0 w0 Q (pc + 1) lv (.long x :: st) w (f x)) : ga_J l S0 D cl tA base b xn p e R s m args below meth c nL Ts own cc ret tb mn fr lo fl ad0 w0 Q pc lv (.int i :: .ref a :: st) w ((ga_al w t a i).bind f) := by
  cases h : ga_al w t a i with
  | none => exact ga_no
  | some x =>
    obtain ⟨n, g, hw, hi, rfl⟩ := ga_al_spec h
    refine ga_ofH (fun B ad H locs k n ls Q' hH hS hl2 k2 => ?_) (kk _)
    obtain ⟨hx, hb, hml, hr, hown, hts, hlk, hbs, hK, hZ, htb, hmn, hfr, hlo, hst, h00⟩ := B
    have e := ga_w_get (tA := tA) (b := b) (ad := ad) hw
    have e2 : (tA.getD t (0, .int)).1 = cA := by simp [List.getD, ht]
    simp only [ga_e, e2] at e
    exact va_lald hx hb hK hH.1 a t e ht hi d k2
theorem ga_sl_spec {t a : Nat} {i : Int32} {x : Int64} {w2 : ga_W} (h : ga_sl w t a i x = some w2) : ∃ n f, w.1[a]? = some (.inl (t, n, .inr (.inl f))) ∧ vp_in i n ∧ w2 = (w.1.set a (.inl (t, n, .inr (.inl (vp_updL f i.toNatClampNeg x)))), w.2) := by
  unfold ga_sl at h
  split at h
  · rename_i t' n f hw
    split at h
    · rename_i hc
      obtain ⟨hc, hi⟩ := hc
      subst hc
      cases h
      exact ⟨n, f, hw, hi, rfl⟩
    · cases h
  · cases h
theorem ga_stL {t a : Nat} {i : Int32} {x : Int64} {cA : ClassId} {f : ga_W → ga_O} (ht : tA[t]? = some (cA, .long)) (d : decode cc pc = .ok (.lastore, 1)) (kk : ∀ w2, ga_J l S0 D cl tA base b xn p e R s m args below meth c nL Ts own cc ret tb mn fr lo fl ad0 w0 Q (pc + 1) lv st w2 (f w2)) : ga_J l S0 D cl tA base b xn p e R s m args below meth c nL Ts own cc ret tb mn fr lo fl ad0 w0 Q pc lv (.long x :: .int i :: .ref a :: st) w ((ga_sl w t a i x).bind f) := by
  cases h : ga_sl w t a i x with
  | none => exact ga_no
  | some w2 =>
    obtain ⟨n, g, hw, hi, rfl⟩ := ga_sl_spec h
    refine ga_ofP (w2 := (w.1.set a (.inl (t, n, .inr (.inl (vp_updL g i.toNatClampNeg x)))), w.2)) rfl (by simp) (fun B ad H locs k n2 ls Q' hH hS k2 => ?_) (kk _)
    obtain ⟨hx, hb, hml, hr, hown, hts, hlk, hbs, hK, hZ, htb, hmn, hfr, hlo, hst, h00⟩ := B
    have e := ga_w_get (tA := tA) (b := b) (ad := ad) hw
    have e2 : (tA.getD t (0, .int)).1 = cA := by simp [List.getD, ht]
    have e3 := ga_w_set (tA := tA) (b := b) (ad := ad) (w := w.1) (k := a) (x := .inl (t, n, .inr (.inl (vp_updL g i.toNatClampNeg x))))
    simp only [ga_e, e2] at e e3
    exact va_last hx hb hK hH.1 hH.2 hS a t e ht hi d (fun H1 locs1 h1 h2 h3 => k2 H1 locs1 ⟨by rw [← e3]; exact h1, by rw [← e3]; exact h2⟩ h3)
theorem ga_ad_spec {t a : Nat} {i : Int32} {x : UInt64} (h : ga_ad w t a i = some x) : ∃ n f, w.1[a]? = some (.inl (t, n, .inr (.inr (.inr (.inl f))))) ∧ vp_in i n ∧ x = f i.toNatClampNeg := by
  unfold ga_ad at h
  split at h
  · rename_i t' n f hw
    split at h
    · rename_i hc
      obtain ⟨hc, hi⟩ := hc
      subst hc
      cases h
      exact ⟨n, f, hw, hi, rfl⟩
    · cases h
  · cases h
theorem ga_ldD {t a : Nat} {i : Int32} {cA : ClassId} {f : UInt64 → ga_O} (ht : tA[t]? = some (cA, .double)) (d : decode cc pc = .ok (.daload, 1)) (kk : ∀ x, ga_J l S0 D cl tA base b xn p e R s m args below meth c nL Ts own cc ret tb mn fr lo fl ad0 w0 Q (pc + 1) lv (.double x :: st) w (f x)) : ga_J l S0 D cl tA base b xn p e R s m args below meth c nL Ts own cc ret tb mn fr lo fl ad0 w0 Q pc lv (.int i :: .ref a :: st) w ((ga_ad w t a i).bind f) := by
  cases h : ga_ad w t a i with
  | none => exact ga_no
  | some x =>
    obtain ⟨n, g, hw, hi, rfl⟩ := ga_ad_spec h
    refine ga_ofH (fun B ad H locs k n ls Q' hH hS hl2 k2 => ?_) (kk _)
    obtain ⟨hx, hb, hml, hr, hown, hts, hlk, hbs, hK, hZ, htb, hmn, hfr, hlo, hst, h00⟩ := B
    have e := ga_w_get (tA := tA) (b := b) (ad := ad) hw
    have e2 : (tA.getD t (0, .int)).1 = cA := by simp [List.getD, ht]
    simp only [ga_e, e2] at e
    exact va_dald hx hb hK hH.1 a t e ht hi d k2
theorem ga_sd_spec {t a : Nat} {i : Int32} {x : UInt64} {w2 : ga_W} (h : ga_sd w t a i x = some w2) : ∃ n f, w.1[a]? = some (.inl (t, n, .inr (.inr (.inr (.inl f))))) ∧ vp_in i n ∧ w2 = (w.1.set a (.inl (t, n, .inr (.inr (.inr (.inl (vf_upd f i.toNatClampNeg x)))))), w.2) := by
  unfold ga_sd at h
  split at h
  · rename_i t' n f hw
    split at h
    · rename_i hc
      obtain ⟨hc, hi⟩ := hc
      subst hc
      cases h
      exact ⟨n, f, hw, hi, rfl⟩
    · cases h
  · cases h
theorem ga_stD {t a : Nat} {i : Int32} {x : UInt64} {cA : ClassId} {f : ga_W → ga_O} (ht : tA[t]? = some (cA, .double)) (d : decode cc pc = .ok (.dastore, 1)) (kk : ∀ w2, ga_J l S0 D cl tA base b xn p e R s m args below meth c nL Ts own cc ret tb mn fr lo fl ad0 w0 Q (pc + 1) lv st w2 (f w2)) : ga_J l S0 D cl tA base b xn p e R s m args below meth c nL Ts own cc ret tb mn fr lo fl ad0 w0 Q pc lv (.double x :: .int i :: .ref a :: st) w ((ga_sd w t a i x).bind f) := by
  cases h : ga_sd w t a i x with
  | none => exact ga_no
  | some w2 =>
    obtain ⟨n, g, hw, hi, rfl⟩ := ga_sd_spec h
    refine ga_ofP (w2 := (w.1.set a (.inl (t, n, .inr (.inr (.inr (.inl (vf_upd g i.toNatClampNeg x)))))), w.2)) rfl (by simp) (fun B ad H locs k n2 ls Q' hH hS k2 => ?_) (kk _)
    obtain ⟨hx, hb, hml, hr, hown, hts, hlk, hbs, hK, hZ, htb, hmn, hfr, hlo, hst, h00⟩ := B
    have e := ga_w_get (tA := tA) (b := b) (ad := ad) hw
    have e2 : (tA.getD t (0, .int)).1 = cA := by simp [List.getD, ht]
    have e3 := ga_w_set (tA := tA) (b := b) (ad := ad) (w := w.1) (k := a) (x := .inl (t, n, .inr (.inr (.inr (.inl (vf_upd g i.toNatClampNeg x))))))
    simp only [ga_e, e2] at e e3
    exact va_dast hx hb hK hH.1 hH.2 hS a t e ht hi d (fun H1 locs1 h1 h2 h3 => k2 H1 locs1 ⟨by rw [← e3]; exact h1, by rw [← e3]; exact h2⟩ h3)
theorem ga_len_spec {t a n : Nat} (h : ga_len w t a = some n) : ∃ x : vp_A, w.1[a]? = some (.inl (t, x)) ∧ x.1 = n := by
  unfold ga_len at h
  split at h
  · rename_i t' n' x hw
    split at h
    · rename_i hc
      subst hc
      cases h
      exact ⟨_, hw, rfl⟩
    · cases h
  · cases h
theorem ga_alen {t a : Nat} {cA : ClassId} {ty : FieldType} {f : Nat → ga_O} (ht : tA[t]? = some (cA, ty)) (d : decode cc pc = .ok (.arraylength, 1)) (kk : ∀ n, ga_J l S0 D cl tA base b xn p e R s m args below meth c nL Ts own cc ret tb mn fr lo fl ad0 w0 Q (pc + 1) lv (.int (Int32.ofNat n) :: st) w (f n)) : ga_J l S0 D cl tA base b xn p e R s m args below meth c nL Ts own cc ret tb mn fr lo fl ad0 w0 Q pc lv (.ref a :: st) w ((ga_len w t a).bind f) := by
  cases h : ga_len w t a with
  | none => exact ga_no
  | some n =>
    obtain ⟨x, hw, rfl⟩ := ga_len_spec h
    refine ga_ofH (fun B ad H locs k n ls Q' hH hS hl2 k2 => ?_) (kk _)
    obtain ⟨hx, hb, hml, hr, hown, hts, hlk, hbs, hK, hZ, htb, hmn, hfr, hlo, hst, h00⟩ := B
    have e := ga_w_get (tA := tA) (b := b) (ad := ad) hw
    have e2 : (tA.getD t (0, .int)).1 = cA := by simp [List.getD, ht]
    simp only [ga_e, e2] at e
    exact va_alen hx hb hK hH.1 a t e ht rfl d k2
end GB
end
section
/-! NEW CELLS, CALLS, ENDS -/
def ga_ok (n : Nat) (v : Value) : Bool := match v with
  | .ref k => decide (k < n)
  | _ => true
def ga_okE (n : Nat) (x : ga_E) : Bool := match x with
  | .inl _ => true
  | .inr o => o.2.all (ga_ok n)
/-- no place is named that isn't there yet -/
def ga_okA (w : ga_W) (lv : List (Nat × Value)) (st : List Value) : Bool := w.1.all (ga_okE w.1.length) && lv.all (fun q => ga_ok w.1.length q.2) && st.all (ga_ok w.1.length)
theorem ga_ok_v {b n : Nat} {ad ad2 : Nat → Nat} (h : ∀ k, k < n → ad2 k = ad k) {v : Value} (hv : ga_ok n v = true) : ga_v b ad2 v = ga_v b ad v := by
  cases v <;> try rfl
  simp only [ga_ok, decide_eq_true_eq] at hv
  simp only [ga_v, h _ hv]
theorem ga_ok_st {b n : Nat} {ad ad2 : Nat → Nat} (h : ∀ k, k < n → ad2 k = ad k) {st : List Value} (hv : st.all (ga_ok n) = true) : st.map (ga_v b ad2) = st.map (ga_v b ad) :=
  List.map_congr_left fun v hm => ga_ok_v h (List.all_eq_true.mp hv v hm)
theorem ga_ok_lv {b n : Nat} {ad ad2 : Nat → Nat} (h : ∀ k, k < n → ad2 k = ad k) {lv : List (Nat × Value)} (hv : lv.all (fun q => ga_ok n q.2) = true) : ga_l b ad2 lv = ga_l b ad lv :=
  List.map_congr_left fun v hm => by rw [ga_ok_v h (List.all_eq_true.mp hv v hm)]
theorem ga_ok_e {tA : List (ClassId × FieldType)} {b n : Nat} {ad ad2 : Nat → Nat} (h : ∀ k, k < n → ad2 k = ad k) {x : ga_E} (hx : ga_okE n x = true) : ga_e tA b ad2 x = ga_e tA b ad x := by
  cases x with
  | inl y => rfl
  | inr y => simp only [ga_e, ga_ok_st h hx]
theorem ga_w_push {tA : List (ClassId × FieldType)} {b q : Nat} {ad : Nat → Nat} {w : List ga_E} {x : ga_E} (hw : w.all (ga_okE w.length) = true) (hx : ga_okE w.length x = true) : ga_w tA b (fun k => if k = w.length then q else ad k) (w ++ [x]) = ga_w tA b ad w ++ [(q, ga_e tA b ad x)] := by
  have h : ∀ k, k < w.length → (fun k => if k = w.length then q else ad k) k = ad k := fun k hk => by simp only; rw [if_neg (by omega)]
  simp only [ga_w, List.mapIdx_append, List.mapIdx_cons, List.mapIdx_nil, Nat.zero_add, if_true]
  congr 1
  · apply List.ext_getElem?
    intro i
    simp only [List.getElem?_mapIdx]
    cases hi : w[i]? with
    | none => rfl
    | some y =>
      have hl := (List.getElem?_eq_some_iff.mp hi).1
      simp only [Option.map_some]
      rw [if_neg (by omega), ga_ok_e h (List.all_eq_true.mp hw y (List.mem_of_getElem? hi))]
  · rw [ga_ok_e h hx]
section GC
variable {l : Launch} {S0 : State} {D : va_G} {cl : List vw_C} {tA : List (ClassId × FieldType)} {base b : Nat} {xn : Nat → String} {p : Program} {e : Env} {R : Room} {s : State} {m : MethodId} {args : Array Value} {below : List Frame} {meth : Method} {c : Code} {nL : Nat} {Ts : List Cond} {own : String} {cc : ByteArray} {ret : Option FieldType} {tb : List ExceptionTableEntry} {mn : String} {fr lo : Nat} {fl : Bool} {ad0 : Nat → Nat} {w0 : ga_W} {Q : ga_R → ga_W → State → Prop}
variable {pc : Nat} {lv : List (Nat × Value)} {st : List Value} {w : ga_W} {o : ga_O}
theorem ga_grow {pc2 N : Nat} {x : ga_E} (hf : fl = false) (hx : ∀ n, ga_okE n x = true) (h : (ga_B l S0 D cl tA base b p R s m args meth c nL Ts own cc ret tb mn fr lo) → ∀ (ad : Nat → Nat) (H : Heap) (locs : List Loc) (k n : Nat) (ls : Array Slot) (st1 : List Value) (Q' : State → Prop), ga_H D cl tA base b ad w.1 H → va_S (fun q => base ≤ q) s.heap H locs → k + 1 ≤ R.cells → n + N ≤ R.slots → (∀ (q : Nat) (H1 : Heap), va_P D cl (ga_w tA b ad w.1 ++ [(q, ga_e tA b ad x)]) H1 → va_D (fun q => base ≤ q) (ga_w tA b ad w.1 ++ [(q, ga_e tA b ad x)]) → va_S (fun q => base ≤ q) s.heap H1 locs → W p l e R s m args below meth c H1 locs (k + 1) (n + N) Q' (F0 m pc2 ls (.ref q :: st1))) → st1 = st.map (ga_v b ad) → W p l e R s m args below meth c H locs k n Q' (F0 m pc ls (st.map (ga_v b ad))))
    {st2 : List Value} (hs2 : True)
    (kk : ga_J l S0 D cl tA base b xn p e R s m args below meth c nL Ts own cc ret tb mn fr lo fl ad0 w0 Q pc2 lv (.ref w.1.length :: st) (w.1 ++ [x], w.2.1 + 1, w.2.2 + N) o) : ga_J l S0 D cl tA base b xn p e R s m args below meth c nL Ts own cc ret tb mn fr lo fl ad0 w0 Q pc lv st w (if ga_okA w lv st = true then o else none) := by
  by_cases hok : ga_okA w lv st = true
  · rw [if_pos hok]
    simp only [ga_okA, Bool.and_eq_true] at hok
    obtain ⟨⟨hok1, hok2⟩, hok3⟩ := hok
    intro r w' ho
    obtain ⟨⟨m1, m2, m3, m4⟩, h4⟩ := kk r w' ho
    simp only [List.length_append, List.length_singleton] at m1 m2 m3
    refine ⟨⟨by omega, by omega, by omega, fun z => by rw [hf] at z; cases z⟩, fun B a1 a2 a3 a4 ad H locs ls x1 x2 x3 x4 => ?_⟩
    refine h B ad H locs _ _ ls (st.map (ga_v b ad)) _ x2 x3 (by omega) (by omega) (fun q H1 h1 h2 h3 => ?_) rfl
    have hag : ∀ k, k < w.1.length → (fun k => if k = w.1.length then q else ad k) k = ad k := fun k hk => by simp only; rw [if_neg (by omega)]
    have e := ga_w_push (tA := tA) (b := b) (q := q) (ad := ad) hok1 (hx w.1.length)
    have hh := h4 B (by simp only; omega) (by simp only; omega) a3 a4 (fun k => if k = w.1.length then q else ad k) H1 locs ls
      ⟨by simp only [List.length_append, List.length_singleton]; have := x1.1; omega, fun k hk => by
        simp only [List.length_append, List.length_singleton] at hk
        have := x1.1
        simp only
        rw [if_neg (by omega)]
        exact x1.2 k (by omega)⟩ ⟨by rw [e]; exact h1, by rw [e]; exact h2⟩ h3 (by rw [ga_ok_lv hag hok2]; exact x4)
    simp only [List.map_cons, ga_v, if_true] at hh
    rw [ga_ok_st hag hok3] at hh
    have e1 : w.2.1 + 1 - w0.2.1 = w.2.1 - w0.2.1 + 1 := by omega
    have e2 : w.2.2 + N - w0.2.2 = w.2.2 - w0.2.2 + N := by omega
    rw [e1, e2] at hh
    exact hh
  · rw [if_neg hok]
    exact ga_no
theorem ga_new {ci index N : Nat} {C : String} {T : u_T} {ty0 : Nat → FieldType} {fs : List Value} (hf : fl = false) (hin : ∀ x ∈ u_ws C T N, x ∈ Ts) (hty : ∀ k, k < N → parseFieldDescriptor (T k).2.2.1 = some (ty0 k)) (hc : cl[ci]? = some (C, T, N)) (h1 : Cond.classLink own index C ∈ Ts) (h2 : Cond.instantiable C N ∈ Ts) (h3 : Cond.initialized C ∈ Ts) (hfs : ∀ j, j < N → defaultValue (ty0 j) = vp_V fs j) (hfm : ∀ (b : Nat) (ad : Nat → Nat), fs.map (ga_v b ad) = fs) (hfo : ∀ n, fs.all (ga_ok n) = true) (d : decode cc pc = .ok (.new index, 3))
    (kk : ga_J l S0 D cl tA base b xn p e R s m args below meth c nL Ts own cc ret tb mn fr lo fl ad0 w0 Q (pc + 3) lv (.ref w.1.length :: st) (w.1 ++ [.inr (ci, fs)], w.2.1 + 1, w.2.2 + N) o) : ga_J l S0 D cl tA base b xn p e R s m args below meth c nL Ts own cc ret tb mn fr lo fl ad0 w0 Q pc lv st w (if ga_okA w lv st = true then o else none) := by
  refine ga_grow (x := .inr (ci, fs)) (st2 := []) hf hfo (fun B ad H locs k n ls st1 Q' hH hS q1 q2 k2 es => ?_) trivial kk
  obtain ⟨hx, hb, hml, hr, hown, hts, hlk, hbs, hK, hZ, htb, hmn, hfr, hlo, hst, h00⟩ := B
  subst es
  simp only [ga_e, hfm] at k2
  exact va_new (D := D) hx hb hts hin ty0 hty hown (hts _ h1) (hts _ h2) (hts _ h3) hK hH.1 hH.2 hS (fun q h => Nat.le_trans hbs h) hc hfs q1 q2 d k2
theorem ga_newa {atype : ArrayType} {ty : FieldType} {t : Nat} {cA : ClassId} {n : Int32} {N : Nat} {x : (Nat → Int32) ⊕ (Nat → Int64) ⊕ (Nat → UInt32) ⊕ (Nat → UInt64) ⊕ (Nat → Option Nat)} (hf : fl = false) (h1 : Cond.arrayClass (newarray.typeOf atype) ∈ Ts) (hty : newarray.typeOf atype = ty) (hpr : ∀ C, ty ≠ .object C) (ht : tA[t]? = some (cA, ty)) (ha : ∀ cA : ClassId, vp_cell cA (N, x) = arrV cA N (fun _ => defaultValue ty)) (hn : ¬ n < 0) (hN : n.toNatClampNeg = N) (hby : N * componentBytes ty ≤ 536870912) (d : decode cc pc = .ok (.newarray atype, 2))
    (kk : ga_J l S0 D cl tA base b xn p e R s m args below meth c nL Ts own cc ret tb mn fr lo fl ad0 w0 Q (pc + 2) lv (.ref w.1.length :: st) (w.1 ++ [.inl (t, N, x)], w.2.1 + 1, w.2.2 + N) o) : ga_J l S0 D cl tA base b xn p e R s m args below meth c nL Ts own cc ret tb mn fr lo fl ad0 w0 Q pc lv (.int n :: st) w (if ga_okA w lv st = true then o else none) := by
  refine ga_of (pc2 := pc) (st2 := .int n :: st) (fun _ _ _ _ _ _ _ _ _ k => k) ?_
  have key : ga_J l S0 D cl tA base b xn p e R s m args below meth c nL Ts own cc ret tb mn fr lo fl ad0 w0 Q pc lv (.int n :: st) w (if ga_okA w lv st = true then o else none) := by
    by_cases hok : ga_okA w lv st = true
    · rw [if_pos hok]
      simp only [ga_okA, Bool.and_eq_true] at hok
      obtain ⟨⟨hok1, hok2⟩, hok3⟩ := hok
      intro r w' ho
      obtain ⟨⟨m1, m2, m3, m4⟩, h4⟩ := kk r w' ho
      simp only [List.length_append, List.length_singleton] at m1 m2 m3
      refine ⟨⟨by omega, by omega, by omega, fun z => by rw [hf] at z; cases z⟩, fun B a1 a2 a3 a4 ad H locs ls x1 x2 x3 x4 => ?_⟩
      have B0 := B
      obtain ⟨hx, hb, hml, hr, hown, hts, hlk, hbs, hK, hZ, htb, hmn, hfr, hlo, hst, h00⟩ := B
      refine va_newa (D := D) hx hb (hts _ h1) hty hK x2.1 x2.2 x3 (fun q h => Nat.le_trans hbs h) (a0 := (N, x)) ha hn hN hby (by omega) (by omega) d (fun q cA2 H1 g0 g1 g2 g3 => ?_)
      have hcA : cA2 = cA := by
        have z1 := (hK.2 t _ ht).2
        have z2 := (g0.2 tA.length (cA2, ty) (by simp)).2
        have z3 : s.vm.findClass ("[" ++ ty.toString) = some cA := by cases ty <;> first | exact z1 | exact absurd rfl (hpr _)
        have z4 : s.vm.findClass ("[" ++ ty.toString) = some cA2 := by cases ty <;> first | exact z2 | exact absurd rfl (hpr _)
        exact Option.some.inj (z4.symm.trans z3)
      subst hcA
      have hag : ∀ k, k < w.1.length → (fun k => if k = w.1.length then q else ad k) k = ad k := fun k hk => by simp only; rw [if_neg (by omega)]
      have e := ga_w_push (tA := tA) (b := b) (q := q) (ad := ad) (x := .inl (t, N, x)) hok1 rfl
      have e9 : (tA.getD t (0, .int)).1 = cA2 := by simp [List.getD, ht]
      simp only [ga_e, e9] at e
      have hh := h4 B0 (by simp only; omega) (by simp only; omega) a3 a4 (fun k => if k = w.1.length then q else ad k) H1 locs ls
        ⟨by simp only [List.length_append, List.length_singleton]; have := x1.1; omega, fun k hk => by
          simp only [List.length_append, List.length_singleton] at hk
          have := x1.1
          simp only
          rw [if_neg (by omega)]
          exact x1.2 k (by omega)⟩ ⟨by rw [e]; exact g1, by rw [e]; exact g2⟩ g3 (by rw [ga_ok_lv hag hok2]; exact x4)
      simp only [List.map_cons, ga_v, if_true] at hh
      rw [ga_ok_st hag hok3] at hh
      have e1 : w.2.1 + 1 - w0.2.1 = w.2.1 - w0.2.1 + 1 := by omega
      have e2 : w.2.2 + N - w0.2.2 = w.2.2 - w0.2.2 + N := by omega
      rw [e1, e2] at hh
      exact hh
    · rw [if_neg hok]
      exact ga_no
  exact key
/-! calls -/
theorem ga_objInit {index a : Nat} (h1 : Cond.methodLink own index Lib.objectInit ∈ Ts) (h2 : Cond.instanceMethod Lib.objectInit ∈ Ts) (h3 : Cond.code Lib.objectInit ⟨#[0xb1]⟩ 1 none ∈ Ts) (hw : (st.map fun v => v.category).sum ≤ 8) (hf : 1 ≤ fr) (hl : 20 ≤ lo) (d : decode cc pc = .ok (.invokespecial index, 3))
    (k : ga_J l S0 D cl tA base b xn p e R s m args below meth c nL Ts own cc ret tb mn fr lo fl ad0 w0 Q (pc + 3) lv st w o) : ga_J l S0 D cl tA base b xn p e R s m args below meth c nL Ts own cc ret tb mn fr lo fl ad0 w0 Q pc lv (.ref a :: st) w o := by
  refine ga_of (fun B ad H locs k n ls Q' hl2 kk => ?_) k
  obtain ⟨hx, hb, hml, hr, hown, hts, hlk, hbs, hK, hZ, htb, hmn, hfr, hlo, hst, h00⟩ := B
  have hcs := ga_catsum b ad st
  exact W.objInit (g := F0 m pc ls (.ref (ad a) :: st.map (ga_v b ad))) hx hb hown (hts _ h1) (hts _ h2) (hts _ h3) rfl (by rw [hml]; exact hl2.1) rfl d (by omega) (by show 2 * 0 + _ + 12 ≤ _; omega) kk
theorem ga_max {index : Nat} {x y : Int32} (h1 : Cond.methodLink own index Lib.Math.max.name ∈ Ts) (h2 : Cond.static Lib.Math.max.name ∈ Ts) (h3 : Cond.initialized "java/lang/Math" ∈ Ts) (h4 : Cond.code Lib.Math.max.name Lib.Math.max.code 2 (some .int) ∈ Ts) (hw : (st.map fun v => v.category).sum ≤ 8) (hf : 1 ≤ fr) (hl : 21 ≤ lo) (d : decode cc pc = .ok (.invokestatic index, 3))
    (k : ga_J l S0 D cl tA base b xn p e R s m args below meth c nL Ts own cc ret tb mn fr lo fl ad0 w0 Q (pc + 3) lv (.int (if x < y then y else x) :: st) w o) : ga_J l S0 D cl tA base b xn p e R s m args below meth c nL Ts own cc ret tb mn fr lo fl ad0 w0 Q pc lv (.int y :: .int x :: st) w o := by
  intro r w' ho
  obtain ⟨g1, g4⟩ := k r w' ho
  refine ⟨g1, fun B a1 a2 a3 a4 ad H locs ls x1 x2 x3 x4 => ?_⟩
  have kk := g4 B a1 a2 a3 a4 ad H locs ls x1 x2 x3 x4
  obtain ⟨hx, hb, hml, hr, hown, hts, hlk, hbs, hK, hZ, htb, hmn, hfr, hlo, hst, h00⟩ := B
  obtain ⟨n1, n2, -, -⟩ := g1
  have hcs := ga_catsum b ad st
  exact va_mmax hx hb (hml.trans x4.1.symm) hown (hts _ h1) (hts _ h2) (hts _ h3) (hts _ h4) (by omega) (by omega) (by omega) (by omega) d kk
theorem ga_min {index : Nat} {x y : Int32} (h1 : Cond.methodLink own index Lib.Math.min.name ∈ Ts) (h2 : Cond.static Lib.Math.min.name ∈ Ts) (h3 : Cond.initialized "java/lang/Math" ∈ Ts) (h4 : Cond.code Lib.Math.min.name Lib.Math.min.code 2 (some .int) ∈ Ts) (hw : (st.map fun v => v.category).sum ≤ 8) (hf : 1 ≤ fr) (hl : 21 ≤ lo) (d : decode cc pc = .ok (.invokestatic index, 3))
    (k : ga_J l S0 D cl tA base b xn p e R s m args below meth c nL Ts own cc ret tb mn fr lo fl ad0 w0 Q (pc + 3) lv (.int (if y < x then y else x) :: st) w o) : ga_J l S0 D cl tA base b xn p e R s m args below meth c nL Ts own cc ret tb mn fr lo fl ad0 w0 Q pc lv (.int y :: .int x :: st) w o := by
  intro r w' ho
  obtain ⟨g1, g4⟩ := k r w' ho
  refine ⟨g1, fun B a1 a2 a3 a4 ad H locs ls x1 x2 x3 x4 => ?_⟩
  have kk := g4 B a1 a2 a3 a4 ad H locs ls x1 x2 x3 x4
  obtain ⟨hx, hb, hml, hr, hown, hts, hlk, hbs, hK, hZ, htb, hmn, hfr, hlo, hst, h00⟩ := B
  obtain ⟨n1, n2, -, -⟩ := g1
  have hcs := ga_catsum b ad st
  exact va_mmin hx hb (hml.trans x4.1.symm) hown (hts _ h1) (hts _ h2) (hts _ h3) (hts _ h4) (by omega) (by omega) (by omega) (by omega) d kk
end GC
/-- how a body ends -/
def ga_MQ (xn : Nat → String) (D : va_G) (cl : List vw_C) (tA : List (ClassId × FieldType)) (base b : Nat) (s : State) (args : Array Value) (below : List Frame) (ad0 : Nat → Nat) (w0 : ga_W) (r : ga_R) (w' : ga_W) : State → Prop := match r with
  | .inl v => MQ below (ga_Qc D cl tA base b ad0 w0.1.length v w') args s (w'.2.1 - w0.2.1) (w'.2.2 - w0.2.2) (fun q => base ≤ q)
  | .inr x => fun t => ∃ o, t.status = .running ∧ Ended t below o ∧ ga_Tq xn D cl tA base b ad0 w0.1.length x w' (w'.2.1 - w0.2.1) (w'.2.2 - w0.2.2) args s o t
/-- a method that ends so -/
def ga_MM (l : Launch) (S0 : State) (D : va_G) (cl : List vw_C) (tA : List (ClassId × FieldType)) (base b : Nat) (xn : Nat → String) (y : MethodName) (ws : List Cond) (fr lo : Nat) (av : List Value) (w : ga_W) (ad : Nat → Nat) (r : ga_R) (w' : ga_W) : Prop := match r with
  | .inl v => Met l y ws { frames := fr, cells := w'.2.1 - w.2.1, slots := w'.2.2 - w.2.2, locals := lo } (va_Pc (av.map (ga_v b ad)) (fun U => ga_P S0 D cl tA base b ad w U)) (ga_Qc D cl tA base b ad w.1.length v w') (w'.2.1 - w.2.1) (w'.2.2 - w.2.2) (fun q => base ≤ q)
  | .inr x => MetFree l y (headSpec ws { frames := fr, cells := w'.2.1 - w.2.1, slots := w'.2.2 - w.2.2, locals := lo }) (va_Pc (av.map (ga_v b ad)) (fun U => ga_P S0 D cl tA base b ad w U)) (fun _ _ _ _ _ => True) (ga_Tq xn D cl tA base b ad w.1.length x w' (w'.2.1 - w.2.1) (w'.2.2 - w.2.2))
/-- a method: its pure answer o at the arguments av in the world w -/
def ga_M (l : Launch) (S0 : State) (D : va_G) (cl : List vw_C) (tA : List (ClassId × FieldType)) (base b : Nat) (xn : Nat → String) (y : MethodName) (ws : List Cond) (fr lo : Nat) (fl : Bool) (av : List Value) (w : ga_W) (o : ga_O) : Prop :=
  ∀ (r : ga_R) (w' : ga_W), o = some (r, w') → (∀ (p : Program) (e : Env) (R : Room) (s : State) (m : MethodId) (args : Array Value) (below : List Frame) (meth : Method) (c : Code), ga_N fl w w') ∧
    ∀ ad : Nat → Nat, ga_MM l S0 D cl tA base b xn y ws fr lo av w ad r w'
/-- what comes behind a call -/
def ga_c (o1 : ga_O) (f : Option Value → ga_W → ga_O) (g : Nat → ga_W → ga_O) : ga_O := match o1 with
  | some (.inl v, w1) => f v w1
  | some (.inr x, w1) => g x w1
  | none => none
def ga_kI (f : Int32 → ga_W → ga_O) (v : Option Value) (w1 : ga_W) : ga_O := match v with
  | some (.int x) => f x w1
  | _ => none
def ga_kD (f : UInt64 → ga_W → ga_O) (v : Option Value) (w1 : ga_W) : ga_O := match v with
  | some (.double x) => f x w1
  | _ => none
def ga_kR (f : Nat → ga_W → ga_O) (v : Option Value) (w1 : ga_W) : ga_O := match v with
  | some (.ref x) => f x w1
  | _ => none
def ga_kV (f : ga_W → ga_O) (v : Option Value) (w1 : ga_W) : ga_O := match v with
  | none => f w1
  | _ => none
/-- the cell a is an object of the class number ci -/
def ga_is (w : ga_W) (ci a : Nat) : Bool := match w.1[a]? with
  | some (.inr (c', _)) => decide (c' = ci)
  | _ => false
theorem ga_is_spec {w : ga_W} {ci a : Nat} (h : ga_is w ci a = true) : ∃ fs, w.1[a]? = some (.inr (ci, fs)) := by
  unfold ga_is at h
  split at h
  · rename_i c' fs hw
    rw [decide_eq_true_eq] at h
    subst h
    exact ⟨fs, hw⟩
  · cases h
/-- an exception goes on to the caller -/
def ga_up (x : Nat) (w1 : ga_W) : ga_O := some (.inr x, w1)
/-- a call that ends in an exception of the class xn x, seen by the caller -/
def ga_XR (xn : Nat → String) (D : va_G) (cl : List vw_C) (tA : List (ClassId × FieldType)) (base b : Nat) (ad : Nat → Nat) (n0 : Nat) (x : Nat) (w1 : ga_W) (p : Program) (l : Launch) (e : Env) (R : Room) (s : State) (m : MethodId) (args : Array Value) (below : List Frame) (meth : Method) (c : Code) (H : Heap) (locs : List Loc) (k n mc ms : Nat) (g : JFrame) (rest : List Value) : Prop :=
  ∀ T : State, T.heap = H → Stand p l e R s m args below meth c T locs k n → ∃ (q : Addr) (ce : Cell) (T' : State) (L : List Loc) (ad' : Nat → Nat), Stand p l e R s m args below meth c T' (locs ++ L) (k + mc) (n + ms) ∧ (∀ z ∈ L, base ≤ z.base) ∧
    T'.heap[q]? = some ce ∧ ce.vm = .none ∧ s.vm.findClass (xn x) = some ce.cls ∧ ga_X n0 ad w1.1.length ad' ∧ ga_H D cl tA base b ad' w1.1 T'.heap ∧ H.size ≤ T'.heap.size ∧ (∀ z : Nat, z < H.size → ¬ base ≤ z → T'.heap[z]? = H[z]?) ∧
    Steps p.tables e below (T.setTop g) ((T'.setTop { g with stack := rest }).pushFrame (.throwing q))
section GD
variable {l : Launch} {S0 : State} {D : va_G} {cl : List vw_C} {tA : List (ClassId × FieldType)} {base b : Nat} {xn : Nat → String} {p : Program} {e : Env} {R : Room} {s : State} {m : MethodId} {args : Array Value} {below : List Frame} {meth : Method} {c : Code} {nL : Nat} {Ts : List Cond} {own : String} {cc : ByteArray} {ret : Option FieldType} {tb : List ExceptionTableEntry} {mn : String} {fr lo : Nat} {fl : Bool} {ad0 : Nat → Nat} {w0 : ga_W} {Q : ga_R → ga_W → State → Prop}
variable {pc : Nat} {lv : List (Nat × Value)} {st : List Value} {w : ga_W} {o : ga_O}
theorem ga_blind {av : List Value} {ad : Nat → Nat} : FrameBlind (va_Pc av (fun U => ga_P S0 D cl tA base b ad w U)) := by
  intro a U g mk q
  obtain ⟨q0, q1, q2, q3, q4, q5⟩ := q
  exact ⟨q0, q1, va_K.moved (u := U) (U := U.calling g mk a) (Vm.Alike.refl U.vm) q2, ga_Z.warm (u := U) (U := U.calling g mk a) (State.WarmedH.refl U) q3, q4, q5⟩
theorem ga_pre {ad : Nat → Nat} {H : Heap} {locs : List Loc} (B : (ga_B l S0 D cl tA base b p R s m args meth c nL Ts own cc ret tb mn fr lo)) (hH : ga_H D cl tA base b ad w.1 H) (hS : va_S (fun q => base ≤ q) s.heap H locs) : ∀ U : State, U.heap = H → s.WarmedH U.vm → ga_P S0 D cl tA base b ad w U := by
  intro U hU hW
  obtain ⟨hx, hb, hml, hr, hown, hts, hlk, hbs, hK, hZ, htb, hmn, hfr, hlo, hst, h00⟩ := B
  refine ⟨by rw [hU]; exact Nat.le_trans hbs hS.1, va_K.moved hW.alike hK, ?_, h00, by rw [hU]; exact hH⟩
  have h1 : ga_Z S0 base s H := hZ.kept hbs (fun a h1 h2 => hS.2.1 a h1 h2)
  rw [hU]
  exact h1.warm hW
/-- behind a call nothing old has changed -/
theorem ga_keep {H H1 : Heap} {locs L : List Loc} (hS : va_S (fun q => base ≤ q) s.heap H locs) (hz : H.size ≤ H1.size) (hk : ∀ z : Nat, z < H.size → ¬ base ≤ z → H1[z]? = H[z]?) (hL : ∀ z ∈ L, base ≤ z.base) : va_S (fun q => base ≤ q) s.heap H1 (locs ++ L) := by
  refine ⟨Nat.le_trans hS.1 hz, fun q h1 h2 => ?_, fun q hq => ?_⟩
  · rw [hk q (Nat.lt_of_lt_of_le h1 hS.1) h2]
    exact hS.2.1 q h1 h2
  · rcases List.mem_append.mp hq with h | h
    · exact hS.2.2 q h
    · exact hL q h
theorem ga_run {y : MethodName} {ws : List Cond} {fr1 lo1 : Nat} {fl1 : Bool} {av st0 : List Value} {o1 : ga_O} {f : Option Value → ga_W → ga_O} {g : Nat → ga_W → ga_O} (hM : ga_M l S0 D cl tA base b xn y ws fr1 lo1 fl1 av w o1) (hf : fl1 = true ∨ (fl = false ∧ lv.all (fun q => ga_ok w.1.length q.2) = true ∧ st.all (ga_ok w.1.length) = true))
    (hrv : ∀ (v : Option Value) (w1 : ga_W), o1 = some (.inl v, w1) → (ga_B l S0 D cl tA base b p R s m args meth c nL Ts own cc ret tb mn fr lo) → ∀ (ad : Nat → Nat) (H : Heap) (locs : List Loc) (k n : Nat) (ls : Array Slot), ga_H D cl tA base b ad w.1 H → va_S (fun q => base ≤ q) s.heap H locs → lv_has ls nL (ga_l b ad lv) → k + (w1.2.1 - w.2.1) ≤ R.cells → n + (w1.2.2 - w.2.2) ≤ R.slots →
      ∃ aa : Array Value, va_Run p l e R s m args below meth c H locs k n (w1.2.1 - w.2.1) (w1.2.2 - w.2.2) (F0 m pc ls (st0.map (ga_v b ad))) (st.map (ga_v b ad)) (ga_Qc D cl tA base b ad w.1.length v w1 aa) (fun q => base ≤ q))
    (hrx : ∀ (x : Nat) (w1 : ga_W), o1 = some (.inr x, w1) → (ga_B l S0 D cl tA base b p R s m args meth c nL Ts own cc ret tb mn fr lo) → ∀ (ad : Nat → Nat) (H : Heap) (locs : List Loc) (k n : Nat) (ls : Array Slot), ga_H D cl tA base b ad w.1 H → va_S (fun q => base ≤ q) s.heap H locs → lv_has ls nL (ga_l b ad lv) → k + (w1.2.1 - w.2.1) ≤ R.cells → n + (w1.2.2 - w.2.2) ≤ R.slots →
      ga_XR xn D cl tA base b ad w.1.length x w1 p l e R s m args below meth c H locs k n (w1.2.1 - w.2.1) (w1.2.2 - w.2.2) (F0 m pc ls (st0.map (ga_v b ad))) (st.map (ga_v b ad)))
    (kv : ∀ v w1, ga_J l S0 D cl tA base b xn p e R s m args below meth c nL Ts own cc ret tb mn fr lo fl ad0 w0 Q (pc + 3) lv (v.toList ++ st) w1 (f v w1)) (kx : ∀ x w1, ga_JX l S0 D cl tA base b xn p e R s m args below meth c nL Ts own cc ret tb mn fr lo fl ad0 w0 Q pc lv x w1 (g x w1)) : ga_J l S0 D cl tA base b xn p e R s m args below meth c nL Ts own cc ret tb mn fr lo fl ad0 w0 Q pc lv st0 w (ga_c o1 f g) := by
  cases ho1 : o1 with
  | none => exact ga_no
  | some q1 =>
    obtain ⟨r1, w1⟩ := q1
    intro r w' ho
    obtain ⟨hN1, -⟩ := hM r1 w1 ho1
    have hN1 := hN1 p e R s m args below meth c
    have hflip : ∀ w2 : ga_W, ga_N fl w1 w2 → ga_N fl w w2 := fun w2 h => by
      refine ga_N.tr ⟨hN1.1, hN1.2.1, hN1.2.2.1, fun z => ?_⟩ h
      rcases hf with hf | ⟨hf, -⟩
      · exact hN1.2.2.2 hf
      · rw [hf] at z; cases z
    have hsame : ∀ ad ad' : Nat → Nat, ga_X w.1.length ad w1.1.length ad' → ga_l b ad' lv = ga_l b ad lv ∧ st.map (ga_v b ad') = st.map (ga_v b ad) := fun ad ad' hX => by
      rcases hf with hf | ⟨-, hf1, hf2⟩
      · rw [hN1.2.2.2 hf] at hX
        rw [hX.eq]
        exact ⟨rfl, rfl⟩
      · exact ⟨ga_ok_lv (fun k hk => hX.2 k (Or.inl hk)) hf1, ga_ok_st (fun k hk => hX.2 k (Or.inl hk)) hf2⟩
    cases r1 with
    | inl v =>
      obtain ⟨g1, g4⟩ := kv v w1 r w' ho
      refine ⟨hflip _ g1, fun B a1 a2 a3 a4 ad H locs ls x1 x2 x3 x4 => ?_⟩
      obtain ⟨n1, n2, n3, -⟩ := hN1
      obtain ⟨n4, n5, n6, -⟩ := id g1
      obtain ⟨aa, hr⟩ := hrv v w1 ho1 B ad H locs (w.2.1 - w0.2.1) (w.2.2 - w0.2.2) ls x2 x3 x4 (by omega) (by omega)
      intro T hT X
      obtain ⟨v', st₀, t, T', L, h0, X', hL, e1, e2, ⟨⟨ad', hX, hv, hH'⟩, hF⟩, stp⟩ := hr T hT X
      cases hv
      obtain ⟨q1, q2⟩ := hsame ad ad' hX
      have k3 : va_S (fun q => base ≤ q) s.heap T'.heap (locs ++ L) := ga_keep x3 (by rw [e1, ← h0]; exact hF.1) (fun z h1 h2 => by rw [e1, ← h0]; exact hF.2 z (by rw [h0]; exact h1) h2) hL
      have hh := g4 B (by omega) (by omega) a3 a4 ad' T'.heap (locs ++ L) ls (ga_X.tr x1 hX) (by rw [e1]; exact hH') k3 (by rw [q1]; exact x4)
      have z1 : w1.2.1 - w0.2.1 = w.2.1 - w0.2.1 + (w1.2.1 - w.2.1) := by omega
      have z2 : w1.2.2 - w0.2.2 = w.2.2 - w0.2.2 + (w1.2.2 - w.2.2) := by omega
      rw [z1, z2, List.map_append, q2] at hh
      have z3 : v.toList.map (ga_v b ad') = (v.map (ga_v b ad')).toList := by cases v <;> rfl
      rw [z3] at hh
      obtain ⟨t2, s1, s2⟩ := hh T' rfl X'
      exact ⟨t2, stp t2 s1, s2⟩
    | inr x =>
      obtain ⟨g1, g4⟩ := kx x w1 r w' ho
      refine ⟨hflip _ g1, fun B a1 a2 a3 a4 ad H locs ls x1 x2 x3 x4 => ?_⟩
      obtain ⟨n1, n2, n3, -⟩ := hN1
      obtain ⟨n4, n5, n6, -⟩ := id g1
      have hr := hrx x w1 ho1 B ad H locs (w.2.1 - w0.2.1) (w.2.2 - w0.2.2) ls x2 x3 x4 (by omega) (by omega)
      intro T hT X
      obtain ⟨q, ce, T', L, ad', X', hL, hce, hcv, hcl, hX, hH', hz, hk, stp⟩ := hr T hT X
      obtain ⟨q1, q2⟩ := hsame ad ad' hX
      have hh := g4 B (by omega) (by omega) a3 a4 ad' T'.heap (locs ++ L) ls (st.map (ga_v b ad)) ce q (ga_X.tr x1 hX) hH' (ga_keep x3 hz hk hL) (by rw [q1]; exact x4) hce hcv hcl
      have z1 : w1.2.1 - w0.2.1 = w.2.1 - w0.2.1 + (w1.2.1 - w.2.1) := by omega
      have z2 : w1.2.2 - w0.2.2 = w.2.2 - w0.2.2 + (w1.2.2 - w.2.2) := by omega
      rw [z1, z2] at hh
      obtain ⟨t2, s1, s2⟩ := hh T' rfl X'
      exact ⟨t2, stp.trans s1, s2⟩
end GD
end
section
/-! A CALL THAT ENDS IN AN EXCEPTION -/
section GE
variable {l : Launch} {S0 : State} {D : va_G} {cl : List vw_C} {tA : List (ClassId × FieldType)} {base b : Nat} {xn : Nat → String} {p : Program} {e : Env} {R : Room} {s : State} {m : MethodId} {args : Array Value} {below : List Frame} {meth : Method} {c : Code} {nL : Nat} {Ts : List Cond} {own : String} {cc : ByteArray} {ret : Option FieldType} {tb : List ExceptionTableEntry} {mn : String} {fr lo : Nat} {fl : Bool} {ad0 : Nat → Nat} {w0 : ga_W} {Q : ga_R → ga_W → State → Prop}
variable {pc : Nat} {lv : List (Nat × Value)} {st : List Value} {w : ga_W} {o : ga_O}
theorem ga_backT {y : MethodName} {ws : List Cond} {fr1 lo1 mc ms maxL n0 x : Nat} {ad : Nat → Nat} {w1 : ga_W} {bytes : ByteArray} {ret1 : Option FieldType} {Pc : Array Value → State → Prop} (hM : MetFree l y (headSpec ws { frames := fr1, cells := mc, slots := ms, locals := lo1 }) Pc (fun _ _ _ _ _ => True) (ga_Tq xn D cl tA base b ad n0 x w1 mc ms))
    {U : State} {locs : List Loc} {k n : Nat} (X : Stand p l e R s m args below meth c U locs k n) {g : JFrame} (hg : g.method = m) (hsize : g.locals.size = c.maxLocals) {ig : Instr} {len : Nat} (hdg : decode c.code g.pc = .ok (ig, len)) (hW : 2 * g.monitorRoom + (g.stack.map fun v => v.category).sum ≤ 8)
    {mk : MethodId} {a : Array Value} (hn : U.methodNamed? y = some mk) (h1 : (headSpec ws { frames := fr1, cells := mc, slots := ms, locals := lo1 }).pre.before a U = true) (h2 : (Cond.code y bytes maxL ret1).before a U = true) (h3 : (Cond.initialized y.cls).before a U = true) (hfr : fr1 + 1 ≤ R.frames) (hlo : 8 + (maxL + 11) + lo1 ≤ R.locals) (h4 : k + mc ≤ R.cells) (h5 : n + ms ≤ R.slots) (hP : Pc a (U.calling g mk a)) :
    ∃ (q : Addr) (ce : Cell) (T' : State) (L : List Loc) (ad' : Nat → Nat), Stand p l e R s m args below meth c T' (locs ++ L) (k + mc) (n + ms) ∧ (∀ z ∈ L, base ≤ z.base) ∧
      T'.heap[q]? = some ce ∧ ce.vm = .none ∧ U.vm.findClass (xn x) = some ce.cls ∧ ga_X n0 ad w1.1.length ad' ∧ ga_H D cl tA base b ad' w1.1 T'.heap ∧ U.heap.size ≤ T'.heap.size ∧ (∀ z : Nat, z < U.heap.size → ¬ base ≤ z → T'.heap[z]? = U.heap[z]?) ∧
      Steps p.tables e below (doInvoke e (U.setTop g) [] mk a).1 ((T'.setTop g).pushFrame (.throwing q)) := by
  obtain ⟨methY, cY, hmY, hcY, -, hlY, -, -, -, -⟩ := Cond.code_spec hn h2
  obtain ⟨kY, hkY, -⟩ := className_of_methodNamed hn
  have hinitY : kY.init = .initialized := Cond.initialized_spec (findClass_of_methodNamed hn) hkY h3
  have h : At U g.method c below := by rw [hg]; exact X.here
  have hroom : (U.calling g mk a).hasRoom e.platform (headSpec ws { frames := fr1, cells := mc, slots := ms, locals := lo1 }).room = true := X.room_calling (g := g) (R' := (headSpec ws { frames := fr1, cells := mc, slots := ms, locals := lo1 }).room) hsize hmY hcY hfr (by rw [hlY]; show _ + (maxL + 11) + lo1 ≤ R.locals; omega) h4 h5
  have happ : (headSpec ws { frames := fr1, cells := mc, slots := ms, locals := lo1 }).appliesLoose y e.platform (U.calling g mk a) = true := Spec.appliesLoose_calling (g := g) h hdg hn hkY hinitY hroom h1
  obtain ⟨mid, hmid⟩ := h.above
  have hfrm : (U.setTop g).frames = (.java g :: mid) ++ below := by rw [State.frames_setTop' g h.top, hmid]; rfl
  obtain ⟨oc, t, hsteps, -, hend, hq⟩ := Steps.callFree hM p X.admits X.cas X.clock (acts := []) hfrm happ hP trivial
  have hq' : ga_Tq xn D cl tA base b ad n0 x w1 mc ms a (U.calling g mk a) oc t := hq
  obtain ⟨q, ce, L, ad', rfl, hce, hcv, hcl, hWt, hsm, hL, hX, hH, hF⟩ := hq'
  rw [State.frames_setTop' g h.top] at hend
  have hfr2 : t.frames = .throwing q :: .java g :: U.frames.tail := hend
  obtain ⟨g₀, hg0⟩ := Option.isSome_iff_exists.mp h.top
  obtain ⟨r, hr⟩ := State.topJava?_eq_some.mp hg0
  obtain ⟨e2, q2, q3, q4, q5, q6⟩ := hsm
  have e3 : t = ({ (U.calling g mk a).setFrames t.frames with heap := t.heap, slotsUsed := t.slotsUsed } : State).setVm t.vm := by
    have z : t = ({ t with vm := (U.calling g mk a).vm } : State).setVm t.vm := rfl
    rw [e2] at z
    exact z
  have hW' : U.WarmedH t.vm := hWt
  have hr' : (({ U with heap := t.heap, slotsUsed := t.slotsUsed } : State).setVm t.vm).frames = .java g₀ :: r := hr
  have ht : t = ((({ U with heap := t.heap, slotsUsed := t.slotsUsed } : State).setVm t.vm).setTop g).pushFrame (.throwing q) := by
    refine e3.trans ?_
    rw [hfr2, State.calling_eq h.top, State.setFrames_setFrames, State.pushFrame, State.frames_setTop _ hr', State.setTop_of_frames _ hr', State.setFrames_setFrames, hr]
    rfl
  have hsame : U.sameButNew ({ U with heap := t.heap, slotsUsed := t.slotsUsed } : State) L mc ms := by
    refine ⟨?_, q2, q3, q4, q5, q6⟩
    obtain ⟨th, hth, -⟩ := State.frames_cons hr
    show ({ U with heap := t.heap, slotsUsed := t.slotsUsed } : State) = { U.setFrames U.frames with heap := t.heap, slotsUsed := t.slotsUsed }
    rw [State.setFrames_self hth]
  subst hg
  refine ⟨q, ce, ({ U with heap := t.heap, slotsUsed := t.slotsUsed } : State).setVm t.vm, L, ad',
    ⟨X.admits, X.cas, X.clock, X.frames, X.room, X.hears, X.method, X.code, (X.here.setHeapUsed t.heap t.slotsUsed).setVm hW'.alike, X.tail, State.WarmedH.trans X.warmed hW', X.limits, X.bytes, X.same.trans (hsame.setVm s.vm)⟩,
    hL, hce, hcv, hcl, hX, hH, hF.1, fun z h1 h2 => hF.2 z h1 h2, ?_⟩
  rw [← ht]
  exact hsteps
theorem ga_xV {y : MethodName} {ws : List Cond} {fr1 lo1 mc ms maxL n0 x index nA b0 : Nat} {ad : Nat → Nat} {w1 : ga_W} {bytes : ByteArray} {ret1 : Option FieldType} {C : String} {Pc : Array Value → State → Prop} {H : Heap} {locs : List Loc} {k n : Nat} {As rest : List Value} {g : JFrame} (S : CallFix p m c cc nL s args Ts own) (hM : MetFree l y (headSpec ws { frames := fr1, cells := mc, slots := ms, locals := lo1 }) Pc (fun _ _ _ _ _ => True) (ga_Tq xn D cl tA base b ad n0 x w1 mc ms))
    (cw : CallW R s args own C index y bytes maxL ret1 ws { frames := fr1, cells := mc, slots := ms, locals := lo1 } mc ms nA) (hp : PreV s H C b0 Pc As) (hg : g.method = m) (hn : As.length = nA) (hsize : g.locals.size = nL) (hstack : g.stack = As.reverse ++ .ref b0 :: rest) (hW : 2 * g.monitorRoom + (rest.map fun v => v.category).sum ≤ 8) (hdg : decode cc g.pc = .ok (.invokevirtual index, 3)) (hf : k + mc ≤ R.cells ∧ n + ms ≤ R.slots) :
    ga_XR xn D cl tA base b ad n0 x w1 p l e R s m args below meth c H locs k n mc ms g rest := by
  obtain ⟨⟨hrc, hrs, hfr, hlo, hws, hcw, hcode, hini, hy, hlen, hl⟩, hin, hse⟩ := cw
  obtain ⟨hx, hb, hml, ho, -⟩ := S
  obtain ⟨hblind, ⟨cellB, hcB, hoB, hclB⟩, hPc⟩ := hp
  intro T hT X
  obtain ⟨mk, methM, hnamed, hmethM, hstM, habM⟩ := Cond.instanceMethod_spec hin
  obtain ⟨methM', cM, hmethM', -, -, -, -, -, -, hsigM⟩ := Cond.code_spec hnamed hcode
  cases hmethM.symm.trans hmethM'
  obtain ⟨c2, r2, m2, q1, q2, q3, q4, kP, hkP, hkPi⟩ := Cond.selects_spec hse
  cases hclB.symm.trans q1
  cases (State.methodFound?_of_named hnamed hy).symm.trans q2
  cases hnamed.symm.trans q3
  have hselP : selectMethod e.platform s.vm cellB.cls mk = .method mk := by rw [Launch.admits_selectMethod X.admits]; exact q4
  obtain ⟨vm₁, X₁, hstep₁⟩ := X.invokevirtual hx ho hl hnamed hmethM hstM hkP hkPi hy (a := b0) (cell := cellB) (by rw [hT]; exact hcB)
    (fun z h => by rw [h] at hoB; cases hoB) hselP hmethM habM hkP hkPi (g := g) hg (argsL := As) (rest := rest) (hn.trans (hlen _ hsigM)) hstack (by rw [hb]; exact hdg)
  obtain ⟨q, ce, T', L, ad', X', hL, hce, hcv, hcl, hX, hH, hz, hk, st⟩ := ga_backT hM X₁ (g := { g with stack := rest }) (ig := .invokevirtual index) (len := 3) hg (hsize.trans hml.symm) (by rw [hb]; exact hdg) hW (X₁.named hnamed) (a := (Value.ref b0 :: As).toArray) (atoms_intro fun w hw => hws w hw _ _ X₁.warmed) (hws _ hcw _ _ X₁.warmed)
    (word_at X₁.warmed (Or.inl (by first | rfl | simp [Cond.onTables, Cond.keeps, Cond.steady])) hini) hfr hlo hf.1 hf.2 (hblind _ _ _ _ (hPc (T.setVm vm₁) hT X₁.warmed))
  refine ⟨q, ce, T', L, ad', X', hL, hce, hcv, ?_, hX, hH, by rw [← hT]; exact hz, fun z h1 h2 => by rw [← hT]; exact hk z (by rw [← hT] at h1; exact h1) h2, hstep₁ _ fun acts => by rw [doInvoke_state]; exact st⟩
  have z1 : vm₁.findClass (xn x) = some ce.cls := hcl
  have z2 : s.WarmedH vm₁ := X₁.warmed
  rw [z2.alike.findClass] at z1
  exact z1
theorem ga_xS {y : MethodName} {ws : List Cond} {fr1 lo1 mc ms maxL n0 x index nA : Nat} {ad : Nat → Nat} {w1 : ga_W} {bytes : ByteArray} {ret1 : Option FieldType} {Pc : Array Value → State → Prop} {H : Heap} {locs : List Loc} {k n : Nat} {As rest : List Value} {g : JFrame} (S : CallFix p m c cc nL s args Ts own) (hM : MetFree l y (headSpec ws { frames := fr1, cells := mc, slots := ms, locals := lo1 }) Pc (fun _ _ _ _ _ => True) (ga_Tq xn D cl tA base b ad n0 x w1 mc ms))
    (cw : CallB R s args own index y bytes maxL ret1 ws { frames := fr1, cells := mc, slots := ms, locals := lo1 } mc ms nA ∧ (Cond.static y).before args s = true) (hp : PreS s H Pc As) (hg : g.method = m) (hn : As.length = nA) (hsize : g.locals.size = nL) (hstack : g.stack = As.reverse ++ rest) (hW : 2 * g.monitorRoom + (rest.map fun v => v.category).sum ≤ 8) (hdg : decode cc g.pc = .ok (.invokestatic index, 3)) (hf : k + mc ≤ R.cells ∧ n + ms ≤ R.slots) :
    ga_XR xn D cl tA base b ad n0 x w1 p l e R s m args below meth c H locs k n mc ms g rest := by
  obtain ⟨⟨hrc, hrs, hfr, hlo, hws, hcw, hcode, hini, hy, hlen, hl⟩, hstt⟩ := cw
  obtain ⟨hx, hb, hml, ho, -⟩ := S
  obtain ⟨hblind, hPc⟩ := hp
  intro T hT X
  obtain ⟨mk, hnamed⟩ := Cond.code_named hcode
  obtain ⟨methM, cM, hmethM, -, -, -, -, -, -, hsigM⟩ := Cond.code_spec hnamed hcode
  have hstatic : methM.isStatic = true := Cond.static_spec hnamed hmethM hstt
  obtain ⟨kP, hkP, -⟩ := className_of_methodNamed hnamed
  have hinitP : kP.init = .initialized := Cond.initialized_spec (findClass_of_methodNamed hnamed) hkP hini
  obtain ⟨vm₁, X₁, hstep₁⟩ := X.invokestatic hx ho hl hnamed hmethM hstatic hkP hinitP hy (g := g) hg (argsL := As) (rest := rest) (hn.trans (hlen _ hsigM)) hstack (by rw [hb]; exact hdg)
  obtain ⟨q, ce, T', L, ad', X', hL, hce, hcv, hcl, hX, hH, hz, hk, st⟩ := ga_backT hM X₁ (g := { g with stack := rest }) (ig := .invokestatic index) (len := 3) hg (hsize.trans hml.symm) (by rw [hb]; exact hdg) hW (X₁.named hnamed) (a := As.toArray) (atoms_intro fun w hw => hws w hw _ _ X₁.warmed) (hws _ hcw _ _ X₁.warmed)
    (word_at X₁.warmed (Or.inl (by first | rfl | simp [Cond.onTables, Cond.keeps, Cond.steady])) hini) hfr hlo hf.1 hf.2 (hblind _ _ _ _ (hPc (T.setVm vm₁) hT X₁.warmed))
  refine ⟨q, ce, T', L, ad', X', hL, hce, hcv, ?_, hX, hH, by rw [← hT]; exact hz, fun z h1 h2 => by rw [← hT]; exact hk z (by rw [← hT] at h1; exact h1) h2, hstep₁ _ fun acts => by rw [doInvoke_state]; exact st⟩
  have z1 : vm₁.findClass (xn x) = some ce.cls := hcl
  have z2 : s.WarmedH vm₁ := X₁.warmed
  rw [z2.alike.findClass] at z1
  exact z1
/-- a static method with handlers, that returns -/
theorem ga_runSW {y : MethodName} {ws : List Cond} {maxL mc ms nA index : Nat} {rm : Room} {bytes : ByteArray} {hh : List (Nat × Nat × Nat × Nat)} {ret1 : Option FieldType} {Pc : Array Value → State → Prop} {Qc : Array Value → State → Outcome → State → Prop} {free : Addr → Prop} {H : Heap} {locs : List Loc} {k n : Nat} {As rest : List Value} {g : JFrame} (S : CallFix p m c cc nL s args Ts own) (hM : Met l y ws rm Pc Qc mc ms free)
    (hrc : rm.cells = mc) (hrs : rm.slots = ms) (hfr : rm.frames + 1 ≤ R.frames) (hlo : 8 + (maxL + 11) + rm.locals ≤ R.locals) (hws : ∀ w ∈ ws, ∀ (a' : Array Value) (U : State), s.WarmedH U.vm → w.before a' U = true) (hcw : Cond.codeWith y bytes maxL ret1 hh ∈ ws) (hini : (Cond.initialized y.cls).before args s = true) (hstt : (Cond.static y).before args s = true) (hl : (Cond.methodLink own index y).before args s = true) (hy : y.cls ≠ "java/lang/invoke/MethodHandle" ∧ y.cls ≠ "java/lang/invoke/VarHandle") (hlen : ∀ sig, parseMethodDescriptor y.desc = some sig → nA = sig.parameters.length)
    (hp : PreS s H Pc As) (hg : g.method = m) (hn : As.length = nA) (hsize : g.locals.size = nL) (hstack : g.stack = As.reverse ++ rest) (hW : 2 * g.monitorRoom + (rest.map fun v => v.category).sum ≤ 8) (hdg : decode cc g.pc = .ok (.invokestatic index, 3)) (hf : k + mc ≤ R.cells ∧ n + ms ≤ R.slots) :
    va_Run p l e R s m args below meth c H locs k n mc ms g rest (Qc As.toArray) free := by
  have hK : Back l R p e below s args y 3 8 (PreOf R mc ms Pc) (PostOf Qc mc ms free) := va_backW (hh := hh) (bytes := bytes) (maxL := maxL) (ret := ret1) hM hp.1 hrc hrs hfr hlo hws hcw (fun a' U hW => word_at hW (Or.inl (by first | rfl | simp [Cond.onTables, Cond.keeps, Cond.steady])) hini)
  obtain ⟨hx, hb, hml, ho, -⟩ := S
  intro T hT X
  obtain ⟨mk, methM, cM, hnamed, hmethM, -, -, -, -, -, -, hsigM⟩ := Cond.codeWith_spec (hws _ hcw args s (State.WarmedH.refl s))
  have hstatic : methM.isStatic = true := Cond.static_spec hnamed hmethM hstt
  obtain ⟨kP, hkP, -⟩ := className_of_methodNamed hnamed
  have hinitP : kP.init = .initialized := Cond.initialized_spec (findClass_of_methodNamed hnamed) hkP hini
  obtain ⟨vm₁, X₁, hstep₁⟩ := X.invokestatic hx ho hl hnamed hmethM hstatic hkP hinitP hy (g := g) hg (argsL := As) (rest := rest) (hn.trans (hlen _ hsigM)) hstack (by rw [hb]; exact hdg)
  obtain ⟨v, ⟨U', l2, c2, s2⟩, X', ⟨g', mk', t, L, e1, e2, hq, h1, hL, h2, h3⟩, st⟩ := hK m meth c ⟨T.setVm vm₁, locs, k, n⟩ { g with stack := rest } (.invokestatic index) mk As.toArray X₁ hg (hsize.trans hml.symm) (by rw [hb]; exact hdg) hW (X₁.named hnamed) ⟨hf.1, hf.2, hp.2 (T.setVm vm₁) hT X₁.warmed⟩
  dsimp only [Pt.U, Pt.locs, Pt.cells, Pt.slots] at X' e1 e2 h1 h2 h3 st
  subst h1; subst h2; subst h3
  exact ⟨v, (T.setVm vm₁).calling g' mk' As.toArray, t, U', L, hT, X', hL, e1, e2, hq, fun target h => hstep₁ _ fun acts => by rw [doInvoke_state]; exact st.trans h⟩
end GE
end
section
/-! KINDS OF CALLS, ENDS -/
section GF
variable {l : Launch} {S0 : State} {D : va_G} {cl : List vw_C} {tA : List (ClassId × FieldType)} {base b : Nat} {xn : Nat → String} {p : Program} {e : Env} {R : Room} {s : State} {m : MethodId} {args : Array Value} {below : List Frame} {meth : Method} {c : Code} {nL : Nat} {Ts : List Cond} {own : String} {cc : ByteArray} {ret : Option FieldType} {tb : List ExceptionTableEntry} {mn : String} {fr lo : Nat} {fl : Bool} {ad0 : Nat → Nat} {w0 : ga_W} {Q : ga_R → ga_W → State → Prop}
variable {pc : Nat} {lv : List (Nat × Value)} {st : List Value} {w : ga_W} {o : ga_O}
theorem ga_rev (b : Nat) (ad : Nat → Nat) (av st : List Value) (v : Value) : (av.reverse ++ v :: st).map (ga_v b ad) = (av.map (ga_v b ad)).reverse ++ ga_v b ad v :: st.map (ga_v b ad) := by
  simp
theorem ga_rev2 (b : Nat) (ad : Nat → Nat) (av st : List Value) : (av.reverse ++ st).map (ga_v b ad) = (av.map (ga_v b ad)).reverse ++ st.map (ga_v b ad) := by
  simp
/-- invokevirtual; the receiver is the cell a, of the class number ci -/
theorem ga_invV {y : MethodName} {ws ws' : List Cond} {bytes : ByteArray} {maxL fr1 lo1 a ci index N nA : Nat} {ret1 : Option FieldType} {fl1 : Bool} {av : List Value} {C : String} {T : u_T} {o1 : ga_O} {f : Option Value → ga_W → ga_O} {g : Nat → ga_W → ga_O} (hM : ga_M l S0 D cl tA base b xn y ws fr1 lo1 fl1 (.ref a :: av) w o1) (hf : fl1 = true ∨ (fl = false ∧ lv.all (fun q => ga_ok w.1.length q.2) = true ∧ st.all (ga_ok w.1.length) = true))
    (hG : GoodIn Ts (wsV own index C y ws)) (hw : ws = Cond.code y bytes maxL ret1 :: ws') (hd : y.cls = C ∧ y.cls ≠ "java/lang/invoke/MethodHandle" ∧ y.cls ≠ "java/lang/invoke/VarHandle" ∧ (parseMethodDescriptor y.desc).map (fun d => d.parameters.length) = some nA) (hn : av.length = nA) (hfr : fr1 + 1 ≤ fr) (hlo : 8 + (maxL + 11) + lo1 ≤ lo) (hws : (st.map fun v => v.category).sum ≤ 8) (hc : cl[ci]? = some (C, T, N)) (d : decode cc pc = .ok (.invokevirtual index, 3))
    (kv : ∀ v w1, ga_J l S0 D cl tA base b xn p e R s m args below meth c nL Ts own cc ret tb mn fr lo fl ad0 w0 Q (pc + 3) lv (v.toList ++ st) w1 (f v w1)) (kx : ∀ x w1, ga_JX l S0 D cl tA base b xn p e R s m args below meth c nL Ts own cc ret tb mn fr lo fl ad0 w0 Q pc lv x w1 (g x w1)) : ga_J l S0 D cl tA base b xn p e R s m args below meth c nL Ts own cc ret tb mn fr lo fl ad0 w0 Q pc lv (av.reverse ++ .ref a :: st) w (if ga_is w ci a = true then ga_c o1 f g else none) := by
  by_cases his : ga_is w ci a = true
  · rw [if_pos his]
    obtain ⟨fs, hwa⟩ := ga_is_spec his
    refine ga_run hM hf (fun v w1 ho1 B ad H locs k n ls hH hS hl hk hn2 => ?_) (fun x w1 ho1 B ad H locs k n ls hH hS hl hk hn2 => ?_) kv kx
    · have B0 := B
      obtain ⟨hx, hb, hml, hr, hown, hts, hlk, hbs, hK, hZ, htb, hmn, hfr9, hlo9, hst, h00⟩ := B
      refine ⟨(Value.ref (ad a) :: av.map (ga_v b ad)).toArray, ?_⟩
      rw [ga_rev]
      exact va_runV (g := F0 m pc ls _) (As := av.map (ga_v b ad)) (rest := st.map (ga_v b ad)) ⟨hx, hb, hml, hown, hts⟩ ((hM _ _ ho1).2 ad) (cwV nA hts hG hw rfl rfl hd ⟨by show fr1 + 1 ≤ R.frames; omega, by show 8 + (maxL + 11) + lo1 ≤ R.locals; omega⟩)
        ⟨ga_blind, va_recv hK hH.1 hc (ga_w_get hwa), fun U hU hW => ⟨rfl, ga_pre B0 hH hS U hU hW⟩⟩ rfl (by simpa using hn) hl.1 rfl (lv_room (by rw [ga_catsum]; exact hws)) d ⟨hk, hn2⟩
    · have B0 := B
      obtain ⟨hx, hb, hml, hr, hown, hts, hlk, hbs, hK, hZ, htb, hmn, hfr9, hlo9, hst, h00⟩ := B
      rw [ga_rev]
      exact ga_xV (g := F0 m pc ls _) (As := av.map (ga_v b ad)) (rest := st.map (ga_v b ad)) ⟨hx, hb, hml, hown, hts⟩ ((hM _ _ ho1).2 ad) (cwV nA hts hG hw rfl rfl hd ⟨by show fr1 + 1 ≤ R.frames; omega, by show 8 + (maxL + 11) + lo1 ≤ R.locals; omega⟩)
        ⟨ga_blind, va_recv hK hH.1 hc (ga_w_get hwa), fun U hU hW => ⟨rfl, ga_pre B0 hH hS U hU hW⟩⟩ rfl (by simpa using hn) hl.1 rfl (lv_room (by rw [ga_catsum]; exact hws)) d ⟨hk, hn2⟩
  · rw [if_neg his]
    exact ga_no
theorem ga_invS {y : MethodName} {ws ws' : List Cond} {bytes : ByteArray} {maxL fr1 lo1 index nA : Nat} {ret1 : Option FieldType} {fl1 : Bool} {av : List Value} {o1 : ga_O} {f : Option Value → ga_W → ga_O} {g : Nat → ga_W → ga_O} (hM : ga_M l S0 D cl tA base b xn y ws fr1 lo1 fl1 av w o1) (hf : fl1 = true ∨ (fl = false ∧ lv.all (fun q => ga_ok w.1.length q.2) = true ∧ st.all (ga_ok w.1.length) = true))
    (hG : GoodIn Ts (va_wsS own index y ws)) (hw : ws = Cond.code y bytes maxL ret1 :: ws') (hd : y.cls ≠ "java/lang/invoke/MethodHandle" ∧ y.cls ≠ "java/lang/invoke/VarHandle" ∧ (parseMethodDescriptor y.desc).map (fun d => d.parameters.length) = some nA) (hn : av.length = nA) (hfr : fr1 + 1 ≤ fr) (hlo : 8 + (maxL + 11) + lo1 ≤ lo) (hws : (st.map fun v => v.category).sum ≤ 8) (d : decode cc pc = .ok (.invokestatic index, 3))
    (kv : ∀ v w1, ga_J l S0 D cl tA base b xn p e R s m args below meth c nL Ts own cc ret tb mn fr lo fl ad0 w0 Q (pc + 3) lv (v.toList ++ st) w1 (f v w1)) (kx : ∀ x w1, ga_JX l S0 D cl tA base b xn p e R s m args below meth c nL Ts own cc ret tb mn fr lo fl ad0 w0 Q pc lv x w1 (g x w1)) : ga_J l S0 D cl tA base b xn p e R s m args below meth c nL Ts own cc ret tb mn fr lo fl ad0 w0 Q pc lv (av.reverse ++ st) w (ga_c o1 f g) := by
  refine ga_run hM hf (fun v w1 ho1 B ad H locs k n ls hH hS hl hk hn2 => ?_) (fun x w1 ho1 B ad H locs k n ls hH hS hl hk hn2 => ?_) kv kx
  · have B0 := B
    obtain ⟨hx, hb, hml, hr, hown, hts, hlk, hbs, hK, hZ, htb, hmn, hfr9, hlo9, hst, h00⟩ := B
    have ok : ∀ x ∈ va_wsS own index y ws, x.before args s = true := fun x h => hts x (hG x h).1
    refine ⟨(av.map (ga_v b ad)).toArray, ?_⟩
    rw [ga_rev2]
    exact va_runS (g := F0 m pc ls _) (As := av.map (ga_v b ad)) (rest := st.map (ga_v b ad)) ⟨hx, hb, hml, hown, hts⟩ ((hM _ _ ho1).2 ad)
      ⟨callB_of nA hts (fun x h => hG x (by unfold va_wsS; exact List.mem_append_right _ h)) hw rfl rfl (ok _ (by simp [va_wsS])) (ok _ (by simp [va_wsS])) hd ⟨by show fr1 + 1 ≤ R.frames; omega, by show 8 + (maxL + 11) + lo1 ≤ R.locals; omega⟩, ok _ (by simp [va_wsS])⟩
      ⟨ga_blind, fun U hU hW => ⟨rfl, ga_pre B0 hH hS U hU hW⟩⟩ rfl (by simpa using hn) hl.1 rfl (lv_room (by rw [ga_catsum]; exact hws)) d ⟨hk, hn2⟩
  · have B0 := B
    obtain ⟨hx, hb, hml, hr, hown, hts, hlk, hbs, hK, hZ, htb, hmn, hfr9, hlo9, hst, h00⟩ := B
    have ok : ∀ x ∈ va_wsS own index y ws, x.before args s = true := fun x h => hts x (hG x h).1
    rw [ga_rev2]
    exact ga_xS (g := F0 m pc ls _) (As := av.map (ga_v b ad)) (rest := st.map (ga_v b ad)) ⟨hx, hb, hml, hown, hts⟩ ((hM _ _ ho1).2 ad)
      ⟨callB_of nA hts (fun x h => hG x (by unfold va_wsS; exact List.mem_append_right _ h)) hw rfl rfl (ok _ (by simp [va_wsS])) (ok _ (by simp [va_wsS])) hd ⟨by show fr1 + 1 ≤ R.frames; omega, by show 8 + (maxL + 11) + lo1 ≤ R.locals; omega⟩, ok _ (by simp [va_wsS])⟩
      ⟨ga_blind, fun U hU hW => ⟨rfl, ga_pre B0 hH hS U hU hW⟩⟩ rfl (by simpa using hn) hl.1 rfl (lv_room (by rw [ga_catsum]; exact hws)) d ⟨hk, hn2⟩
/-- a static method with handlers of its own, that returns -/
theorem ga_invSW {y : MethodName} {ws ws' : List Cond} {bytes : ByteArray} {hh : List (Nat × Nat × Nat × Nat)} {maxL fr1 lo1 index nA : Nat} {ret1 : Option FieldType} {fl1 : Bool} {av : List Value} {o1 : ga_O} {f : Option Value → ga_W → ga_O} (hM : ga_M l S0 D cl tA base b xn y ws fr1 lo1 fl1 av w o1) (hf : fl1 = true ∨ (fl = false ∧ lv.all (fun q => ga_ok w.1.length q.2) = true ∧ st.all (ga_ok w.1.length) = true))
    (hG : GoodIn Ts (va_wsS own index y ws)) (hw : ws = Cond.codeWith y bytes maxL ret1 hh :: ws') (hd : y.cls ≠ "java/lang/invoke/MethodHandle" ∧ y.cls ≠ "java/lang/invoke/VarHandle" ∧ (parseMethodDescriptor y.desc).map (fun d => d.parameters.length) = some nA) (hn : av.length = nA) (hfr : fr1 + 1 ≤ fr) (hlo : 8 + (maxL + 11) + lo1 ≤ lo) (hws : (st.map fun v => v.category).sum ≤ 8) (d : decode cc pc = .ok (.invokestatic index, 3))
    (kv : ∀ v w1, ga_J l S0 D cl tA base b xn p e R s m args below meth c nL Ts own cc ret tb mn fr lo fl ad0 w0 Q (pc + 3) lv (v.toList ++ st) w1 (f v w1)) : ga_J l S0 D cl tA base b xn p e R s m args below meth c nL Ts own cc ret tb mn fr lo fl ad0 w0 Q pc lv (av.reverse ++ st) w (ga_c o1 f (fun _ _ => none)) := by
  cases ho1 : o1 with
  | none => exact ga_no
  | some q1 =>
    obtain ⟨r1, w1⟩ := q1
    cases r1 with
    | inr x => exact ga_no
    | inl v =>
      rw [← ho1]
      refine ga_run hM hf (g := fun _ _ => none) (fun v2 w2 ho2 B ad H locs k n ls hH hS hl hk hn2 => ?_) (fun x w2 ho2 => absurd (ho1.symm.trans ho2) (fun h => by cases h)) kv (fun x w1 r w' h => nomatch h)
      have B0 := B
      obtain ⟨hx, hb, hml, hr, hown, hts, hlk, hbs, hK, hZ, htb, hmn, hfr9, hlo9, hst, h00⟩ := B
      have ok : ∀ x ∈ va_wsS own index y ws, x.before args s = true := fun x h => hts x (hG x h).1
      have hG2 : GoodIn Ts ws := fun x h => hG x (by unfold va_wsS; exact List.mem_append_right _ h)
      refine ⟨(av.map (ga_v b ad)).toArray, ?_⟩
      rw [ga_rev2]
      exact ga_runSW (hh := hh) (bytes := bytes) (maxL := maxL) (ret1 := ret1) (nA := nA) (g := F0 m pc ls _) (As := av.map (ga_v b ad)) (rest := st.map (ga_v b ad)) ⟨hx, hb, hml, hown, hts⟩ ((hM _ _ ho2).2 ad) rfl rfl (by show fr1 + 1 ≤ R.frames; omega) (by show 8 + (maxL + 11) + lo1 ≤ R.locals; omega) (pay_in hts hG2) (by rw [hw]; exact List.mem_cons_self) (ok _ (by simp [va_wsS])) (ok _ (by simp [va_wsS])) (ok _ (by simp [va_wsS])) ⟨hd.1, hd.2.1⟩
        (fun sig h => by have h2 := hd.2.2; rw [h] at h2; exact (Option.some.inj h2).symm)
        ⟨ga_blind, fun U hU hW => ⟨rfl, ga_pre B0 hH hS U hU hW⟩⟩ rfl (by simpa using hn) hl.1 rfl (lv_room (by rw [ga_catsum]; exact hws)) d ⟨hk, hn2⟩
/-- a constructor: it returns; nest: by a nest mate's link -/
theorem ga_invI {y : MethodName} {ws ws' : List Cond} {bytes : ByteArray} {maxL fr1 lo1 a index nA : Nat} {fl1 : Bool} {av : List Value} {o1 : ga_O} {f : ga_W → ga_O} (hM : ga_M l S0 D cl tA base b xn y ws fr1 lo1 fl1 (.ref a :: av) w o1) (hf : fl1 = true ∨ (fl = false ∧ lv.all (fun q => ga_ok w.1.length q.2) = true ∧ st.all (ga_ok w.1.length) = true))
    (hG : GoodIn Ts ws) (hw : ws = Cond.code y bytes maxL none :: ws') (h1 : Cond.initialized y.cls ∈ Ts) (h2 : Cond.methodLink own index y ∈ Ts ∨ ∃ host, Cond.methodLinkNest own index y host ∈ lw_tbl) (h3 : Cond.instanceMethod y ∈ Ts) (hy : y.name = "<init>") (hd : y.cls ≠ "java/lang/invoke/MethodHandle" ∧ y.cls ≠ "java/lang/invoke/VarHandle" ∧ (parseMethodDescriptor y.desc).map (fun d => d.parameters.length) = some nA) (hn : av.length = nA) (hfr : fr1 + 1 ≤ fr) (hlo : 8 + (maxL + 11) + lo1 ≤ lo) (hws : (st.map fun v => v.category).sum ≤ 8) (d : decode cc pc = .ok (.invokespecial index, 3))
    (kv : ∀ w1, ga_J l S0 D cl tA base b xn p e R s m args below meth c nL Ts own cc ret tb mn fr lo fl ad0 w0 Q (pc + 3) lv st w1 (f w1)) : ga_J l S0 D cl tA base b xn p e R s m args below meth c nL Ts own cc ret tb mn fr lo fl ad0 w0 Q pc lv (av.reverse ++ .ref a :: st) w (ga_c o1 (ga_kV f) (fun _ _ => none)) := by
  cases ho1 : o1 with
  | none => exact ga_no
  | some q1 =>
    obtain ⟨r1, w1⟩ := q1
    cases r1 with
    | inr x => exact ga_no
    | inl v =>
      rw [← ho1]
      refine ga_run hM hf (f := ga_kV f) (g := fun _ _ => none) (fun v2 w2 ho2 B ad H locs k n ls hH hS hl hk hn2 => ?_) (fun x w2 ho2 => absurd (ho1.symm.trans ho2) (fun h => by cases h)) (fun v w1 => ?_) (fun x w1 r w' h => nomatch h)
      · have B0 := B
        obtain ⟨hx, hb, hml, hr, hown, hts, hlk, hbs, hK, hZ, htb, hmn, hfr9, hlo9, hst, h00⟩ := B
        refine ⟨(Value.ref (ad a) :: av.map (ga_v b ad)).toArray, ?_⟩
        rw [ga_rev]
        rcases h2 with h2 | ⟨host, h2⟩
        · exact va_runI (g := F0 m pc ls _) (As := av.map (ga_v b ad)) (rest := st.map (ga_v b ad)) ⟨hx, hb, hml, hown, hts⟩ ((hM _ _ ho2).2 ad) (cwI nA hts hG hw rfl rfl (hts _ h1) (hts _ h2) (hts _ h3) hy hd ⟨by show fr1 + 1 ≤ R.frames; omega, by show 8 + (maxL + 11) + lo1 ≤ R.locals; omega⟩)
            ⟨ga_blind, fun U hU hW => ⟨rfl, ga_pre B0 hH hS U hU hW⟩⟩ rfl (by simpa using hn) hl.1 rfl (lv_room (by rw [ga_catsum]; exact hws)) d ⟨hk, hn2⟩
        · exact va_runIN (g := F0 m pc ls _) (As := av.map (ga_v b ad)) (rest := st.map (ga_v b ad)) ⟨hx, hb, hml, hown, hts⟩ ((hM _ _ ho2).2 ad) ⟨va_cnB nA hts hG hw rfl rfl (va_Nw.warmM hZ.2.1 (va_Nw.of rfl (h00.1 _ h2))) (hts _ h1) hd ⟨by show fr1 + 1 ≤ R.frames; omega, by show 8 + (maxL + 11) + lo1 ≤ R.locals; omega⟩, hy, hts _ h3⟩
            ⟨ga_blind, fun U hU hW => ⟨rfl, ga_pre B0 hH hS U hU hW⟩⟩ rfl (by simpa using hn) hl.1 rfl (lv_room (by rw [ga_catsum]; exact hws)) d ⟨hk, hn2⟩
      · cases v with
        | none => exact kv w1
        | some v => exact ga_no
/-! ends -/
theorem ga_iret {x : Int32} (hr : ret = some .int) (d : decode cc pc = .ok (.ireturn, 1)) : ga_J l S0 D cl tA base b xn p e R s m args below meth c nL Ts own cc ret tb mn fr lo fl ad0 w0 (ga_MQ xn D cl tA base b s args below ad0 w0) pc lv [.int x] w (some (.inl (some (.int x)), w)) := by
  intro r w' ho
  cases ho
  refine ⟨ga_N.rf, fun B a1 a2 a3 a4 ad H locs ls x1 x2 x3 x4 => ?_⟩
  obtain ⟨hx, hb, hml, hrt, hown, hts, hlk, hbs, hK, hZ, htb, hmn, hfr, hlo, hst, h00⟩ := B
  exact W.iret (v := x) hx hb (hrt.trans hr) (fun t ht hW => ⟨⟨ad, x1, rfl, by rw [ht]; exact x2⟩, x3.F ht⟩) x3.2.2 d hlk
theorem ga_zret {x : Int32} (hr : ret = some .boolean) (hn : narrow .boolean (.int x) = .int x) (d : decode cc pc = .ok (.ireturn, 1)) : ga_J l S0 D cl tA base b xn p e R s m args below meth c nL Ts own cc ret tb mn fr lo fl ad0 w0 (ga_MQ xn D cl tA base b s args below ad0 w0) pc lv [.int x] w (some (.inl (some (.int x)), w)) := by
  intro r w' ho
  cases ho
  refine ⟨ga_N.rf, fun B a1 a2 a3 a4 ad H locs ls x1 x2 x3 x4 => ?_⟩
  obtain ⟨hx, hb, hml, hrt, hown, hts, hlk, hbs, hK, hZ, htb, hmn, hfr, hlo, hst, h00⟩ := B
  exact W.zret (v := x) hx hb (hrt.trans hr) hn (fun t ht hW => ⟨⟨ad, x1, rfl, by rw [ht]; exact x2⟩, x3.F ht⟩) x3.2.2 d hlk
theorem ga_dret {x : UInt64} (hr : ret = some .double) (d : decode cc pc = .ok (.dreturn, 1)) : ga_J l S0 D cl tA base b xn p e R s m args below meth c nL Ts own cc ret tb mn fr lo fl ad0 w0 (ga_MQ xn D cl tA base b s args below ad0 w0) pc lv [.double x] w (some (.inl (some (.double x)), w)) := by
  intro r w' ho
  cases ho
  refine ⟨ga_N.rf, fun B a1 a2 a3 a4 ad H locs ls x1 x2 x3 x4 => ?_⟩
  obtain ⟨hx, hb, hml, hrt, hown, hts, hlk, hbs, hK, hZ, htb, hmn, hfr, hlo, hst, h00⟩ := B
  exact W.dret (v := x) hx hb (hrt.trans hr) (fun t ht hW => ⟨⟨ad, x1, rfl, by rw [ht]; exact x2⟩, x3.F ht⟩) x3.2.2 d hlk
theorem ga_vret (hr : ret = none) (d : decode cc pc = .ok (.return_, 1)) : ga_J l S0 D cl tA base b xn p e R s m args below meth c nL Ts own cc ret tb mn fr lo fl ad0 w0 (ga_MQ xn D cl tA base b s args below ad0 w0) pc lv [] w (some (.inl none, w)) := by
  intro r w' ho
  cases ho
  refine ⟨ga_N.rf, fun B a1 a2 a3 a4 ad H locs ls x1 x2 x3 x4 => ?_⟩
  obtain ⟨hx, hb, hml, hrt, hown, hts, hlk, hbs, hK, hZ, htb, hmn, hfr, hlo, hst, h00⟩ := B
  exact W.vret hx hb (hrt.trans hr) (fun t ht hW => ⟨⟨ad, x1, rfl, by rw [ht]; exact x2⟩, x3.F ht⟩) x3.2.2 d hlk
/-- an exception that the method lets go -/
theorem ga_thru {x : Nat} (ht : tb = []) : ga_JX l S0 D cl tA base b xn p e R s m args below meth c nL Ts own cc ret tb mn fr lo fl ad0 w0 (ga_MQ xn D cl tA base b s args below ad0 w0) pc lv x w (ga_up x w) := by
  intro r w' ho
  cases ho
  refine ⟨ga_N.rf, fun B a1 a2 a3 a4 ad H locs ls rest ce q x1 x2 x3 x4 hce hcv hcl => ?_⟩
  obtain ⟨hx, hb, hml, hr, hown, hts, hlk, hbs, hK, hZ, htb, hmn, hfr, hlo, hst, h00⟩ := B
  intro T hT X
  obtain ⟨st1, hrun, hend, hW, hsm⟩ := X.leaveThrown q (g := F0 m pc ls rest) rfl rfl rfl (fun z hz => by rw [htb, ht] at hz; cases hz) hlk
  refine ⟨_, st1, .threw q, hrun, hend, q, ce, locs, ad, rfl, ?_, hcv, hcl, hW, hsm, x3.2.2, x1, ?_, ?_⟩
  · show T.heap[q]? = some ce
    rw [hT]; exact hce
  · show ga_H D cl tA base b ad w.1 T.heap
    rw [hT]; exact x2
  · exact x3.F (t := T.setFrames (.throwing q :: below)) hT
/-- a method from its body -/
theorem ga_enter {y : MethodName} {ws ws' : List Cond} {maxL : Nat} {av : List Value} (hst : l.stackTraces = false) (hy : plainName y.cls = true) (hw : ws = Cond.code y cc maxL ret :: ws') (hsl : (lg_sl av).length ≤ maxL)
    (body : ∀ (p : Program) (e : Env) (R : Room) (s : State) (m : MethodId) (args : Array Value) (below : List Frame) (meth : Method) (c : Code) (ad0 : Nat → Nat), ga_J l S0 D cl tA base b xn p e R s m args below meth c maxL ws y.cls cc ret [] y.name fr lo fl ad0 w (ga_MQ xn D cl tA base b s args below ad0 w) 0 (lv_args 0 av) [] w o) : ga_M l S0 D cl tA base b xn y ws fr lo fl av w o := by
  intro r w' ho
  refine ⟨fun p e R s m args below meth c => (body p e R s m args below meth c (fun k => k) r w' ho).1, fun ad => ?_⟩
  have key : ∀ (p : Program) (e : Env) (s : State) (m : MethodId) (args : Array Value) (below : List Frame) (meth : Method) (c : Code) (s₁ : State), BodyLoose p l y (headSpec ws { frames := fr, cells := w'.2.1 - w.2.1, slots := w'.2.2 - w.2.2, locals := lo }) cc maxL ret e s m args below meth c s₁ → c.maxLocals = maxL → (va_Pc (av.map (ga_v b ad)) (fun U => ga_P S0 D cl tA base b ad w U)) args s →
      W p l e (headSpec ws { frames := fr, cells := w'.2.1 - w.2.1, slots := w'.2.2 - w.2.2, locals := lo }).room s m args below meth c s.heap [] 0 0 (ga_MQ xn D cl tA base b s args below ad w r w') (entryFrame m args maxL) := by
    intro p e s m args below meth c s₁ B hml hv
    obtain ⟨rfl, hbs, hK, hZ, h00, hH⟩ := hv
    obtain ⟨-, h4⟩ := body p e (headSpec ws { frames := fr, cells := w'.2.1 - w.2.1, slots := w'.2.2 - w.2.2, locals := lo }).room s m _ below meth c ad r w' ho
    have hname : meth.name = y.name := (name_of_methodNamed B.named B.method).1
    have htab : c.exceptionTable.toList = [] := by
      obtain ⟨meth9, c9, g1, g2, -, -, -, -, g7, -⟩ := Cond.code_spec B.named (atoms_spec (ws := ws) B.pre _ (by rw [hw]; exact List.mem_cons_self))
      cases Option.some.inj (g1.symm.trans B.method)
      cases Option.some.inj (g2.symm.trans (Stand.of_body B).code)
      rw [Array.isEmpty_iff.mp g7]
    have hB : ga_B l S0 D cl tA base b p (headSpec ws { frames := fr, cells := w'.2.1 - w.2.1, slots := w'.2.2 - w.2.2, locals := lo }).room s m ((av.map (ga_v b ad)).toArray) meth c maxL ws y.cls cc ret [] y.name fr lo :=
      ⟨B.exec, B.bytes, hml, B.returns, findClass_of_methodNamed B.named, atoms_spec (ws := ws) B.pre, B.notSynchronized, hbs, hK, hZ, htab, hname, Nat.le_refl _, Nat.le_refl _, hst, h00⟩
    have hl := lv_entry (av.map (ga_v b ad)) (n := maxL) (by rw [ga_sl_len]; exact hsl)
    rw [ga_l_args] at hl
    have hh := h4 hB (Nat.le_refl _) (Nat.le_refl _) (by show w'.2.1 ≤ w.2.1 + (w'.2.1 - w.2.1); omega) (by show w'.2.2 ≤ w.2.2 + (w'.2.2 - w.2.2); omega) ad s.heap [] _ ga_X.rf hH va_S.rf hl
    rw [Nat.sub_self, Nat.sub_self] at hh
    rw [lg_entry_eq]
    exact hh
  cases r with
  | inl v => exact Met.ofW (cc := cc) (maxL := maxL) (ret := ret) hy hw key
  | inr x =>
    refine MetFree.of_bodyS (code := cc) (maxLocals := maxL) (ret := ret) hy ?_ ?_
    · intro args s m h hn
      obtain ⟨meth, c, h1, h2, h3, h4, h5, h6, -, -⟩ := Cond.code_spec hn (atoms_spec (ws := ws) h _ (by rw [hw]; exact List.mem_cons_self))
      exact ⟨meth, c, h1, h2, h3, h4, h5, h6⟩
    · intro p e s m args below meth c s₁ B hml hP _
      have hh0 : s₁.heap = s.heap := by rw [B.state]; rfl
      obtain ⟨t, a1, oc, b1, b2, b3⟩ := key p e s m args below meth c s₁ B hml hP s₁ hh0 (Stand.of_body B)
      exact ⟨t, oc, a1, b1, b2, b3⟩
end GF
end
section
/-! THROW, CATCH, A METHOD WITH HANDLERS -/
/-- a word that the law's start has holds later too -/
def ga_tw (z : Cond) : Bool := goodWord z || (match z with
  | .declares _ => true
  | .castable _ _ => true
  | _ => false)
theorem ga_word {S0 U : State} {b : Nat} {args : Array Value} {z : Cond} (h0 : ga_0 S0 b) (hW : S0.WarmedH U.vm) (hz : z ∈ lw_tbl) (hg : ga_tw z = true) : z.before args U = true := by
  have h := h0.1 z hz
  by_cases hgw : goodWord z = true
  · exact word_at hW (good_of_word hgw) h
  · simp only [ga_tw, hgw, Bool.false_or] at hg
    split at hg
    · exact va_Nw.use rfl (va_Nw.warmD hW (va_Nw.of rfl h))
    · exact va_Nw.use rfl (va_Nw.warmC hW (va_Nw.of rfl h))
    · cases hg
/-- a static field lies where it lay, and holds a reference or null -/
theorem ga_static {S0 U : State} {b : Nat} {args : Array Value} {C n d : String} (hl : (Cond.laysStatic C n d).before #[Value.ref b] S0 = true) (hi : (Cond.initialized C).before #[Value.ref b] S0 = true) (hr : (Cond.isRef (.static C n d)).before #[Value.ref b] S0 = true) (hW : S0.WarmedH U.vm) (hH : ∀ q : Nat, q < S0.heap.size → U.heap[q]? = S0.heap[q]?) :
    (Cond.laysStatic C n d).before args U = true ∧ (Cond.isRef (.static C n d)).before args U = true := by
  constructor
  · obtain ⟨c, k, i, f, a, cell, h1, h2, h3, h4, h5, h6, h7, h8, h9⟩ := Cond.laysStatic_spec hl
    obtain ⟨k', hi', he⟩ := State.fieldFound?_setVm (s := S0) hW.alike h2
    have ha : a < S0.heap.size := (Array.getElem?_eq_some_iff.mp h5).1
    show (Cond.laysStatic C n d).holds args U none U [] = true
    exact Cond.laysStatic_of (by rw [hW.alike.findClass]; exact h1) hi' h3 (by rw [he]; exact h4) (by rw [hH a ha]; exact h5) h6 h7 h8 (by rw [he]; exact h9)
  · have hz : va_Zq C n d (fun q => S0.heap.size ≤ q) S0 S0.heap := va_Zqof hl hi hr (fun a ha => by omega)
    have hz2 : va_Zq C n d (fun q => S0.heap.size ≤ q) U U.heap := va_Zq.moved hW.alike (hz.kept (fun a ha _ => hH a ha))
    have key : ∀ v : Value, v.isRef = true → va_Z C n d v (fun q => S0.heap.size ≤ q) U U.heap → (Cond.isRef (.static C n d)).before args U = true := by
      intro v hv hzz
      obtain ⟨cf, kf, fi, f, a, cell, h1, h2, h3, h4, h5, h6, h7, -⟩ := hzz
      have he : (Term.static C n d).eval args U none [] U = some v := by
        simp [Term.eval, State.fieldNamed?, h1, h2, h4, h5, h6, h7]
      simp only [Cond.before, Cond.holds, Cond.value, he]
      cases v <;> simp_all [Value.isRef]
    rcases hz2 with hz2 | ⟨t, hz2⟩
    · exact key _ rfl hz2
    · exact key _ rfl hz2
def ga_hw (z : Cond) : Bool := decide (z = .isRef (.static Bundle.tN "UNASSIGNED_STACK" Bundle.steD)) || decide (z = .isRef (.static Bundle.tN "SUPPRESSED_SENTINEL" Bundle.listD)) || decide (z = .laysStatic Bundle.tN "UNASSIGNED_STACK" Bundle.steD) || decide (z = .laysStatic Bundle.tN "SUPPRESSED_SENTINEL" Bundle.listD)
section GG
variable {l : Launch} {S0 : State} {D : va_G} {cl : List vw_C} {tA : List (ClassId × FieldType)} {base b : Nat} {xn : Nat → String} {p : Program} {e : Env} {R : Room} {s : State} {m : MethodId} {args : Array Value} {below : List Frame} {meth : Method} {c : Code} {nL : Nat} {Ts : List Cond} {own : String} {cc : ByteArray} {ret : Option FieldType} {tb : List ExceptionTableEntry} {mn : String} {fr lo : Nat} {fl : Bool} {ad0 : Nat → Nat} {w0 : ga_W} {Q : ga_R → ga_W → State → Prop}
variable {pc : Nat} {lv : List (Nat × Value)} {st : List Value} {w : ga_W} {o : ga_O}
/-- the words of a throw, in a later state of the same tables -/
theorem ga_own {U : State} {ic : Nat} {X : String} {names : List String} (h0 : ga_0 S0 b) (hW : S0.WarmedH U.vm) (hH : ∀ q : Nat, q < S0.heap.size → U.heap[q]? = S0.heap[q]?) (hat : ∀ z ∈ Bundle.ownAtoms0 own ic X names, ga_hw z = true ∨ (z ∈ lw_tbl ∧ ga_tw z = true)) : ∀ z ∈ Bundle.ownAtoms0 own ic X names, z.before args U = true := by
  have i0 : (Cond.initialized Bundle.tN).before #[Value.ref b] S0 = true := h0.1 _ (by decide +kernel)
  have f := flat_of_before _ h0.2
  have u := ga_static (args := args) (h0.1 (Cond.laysStatic Bundle.tN "UNASSIGNED_STACK" Bundle.steD) (by decide +kernel)) i0 (f (Cond.isRef (.static Bundle.tN "UNASSIGNED_STACK" Bundle.steD)) (by decide +kernel)) hW hH
  have v := ga_static (args := args) (h0.1 (Cond.laysStatic Bundle.tN "SUPPRESSED_SENTINEL" Bundle.listD) (by decide +kernel)) i0 (f (Cond.isRef (.static Bundle.tN "SUPPRESSED_SENTINEL" Bundle.listD)) (by decide +kernel)) hW hH
  intro z hz
  rcases hat z hz with h | ⟨h1, h2⟩
  · simp only [ga_hw, Bool.or_eq_true, decide_eq_true_eq] at h
    rcases h with ((h | h) | h) | h
    · rw [h]; exact u.2
    · rw [h]; exact v.2
    · rw [h]; exact u.1
    · rw [h]; exact v.1
  · exact ga_word h0 hW h1 h2
/-- the frame, as if its method were called in the state that stands now -/
theorem ga_anew {T : State} {locs : List Loc} {k n : Nat} (X : Stand p l e R s m args below meth c T locs k n) {R' : Room} (hf : R'.frames ≤ R.frames) (hl : R'.locals ≤ R.locals) (hc : k + R'.cells ≤ R.cells) (hs : n + R'.slots ≤ R.slots) : Stand p l e R' ((T.setVm s.vm).setFrames (.invoking m args :: below)) m args below meth c T [] 0 0 := by
  have top : (T.setVm s.vm).topJava?.isSome := X.here.top
  have fr9 : ((T.setVm s.vm).setFrames (.invoking m args :: below)).frames = .invoking m args :: below := State.frames_setFrames _ (State.cur_lt_of_top top)
  obtain ⟨g₀, hg0⟩ := Option.isSome_iff_exists.mp top
  obtain ⟨r, hr⟩ := State.topJava?_eq_some.mp hg0
  obtain ⟨th, hth, -⟩ := State.frames_cons hr
  have lim : e.platform.stackLimits (T.setVm s.vm).me = e.platform.stackLimits s.me := X.limits
  have byt : (T.setVm s.vm).me.stackBytes = s.me.stackBytes := X.bytes
  have used : ((T.setVm s.vm).setFrames (.invoking m args :: below)).localsInUse = s.localsInUse := by
    rw [State.localsInUse_invoking fr9 (meth := meth) (c := c) X.method X.code, State.localsInUse_invoking X.frames X.method X.code]
  have drop0 : T.heap.toList.drop T.heap.size = [] := List.drop_eq_nil_of_le (Nat.le_of_eq Array.length_toList)
  refine ⟨X.admits, X.cas, X.clock, fr9, ?_, X.hears, X.method, X.code, X.here, X.tail, X.warmed, by rw [State.stackLimits_setFrames]; rfl, by rw [State.stackBytes_setFrames]; rfl, ?_, Nat.le_refl _, Nat.le_refl _, ?_, ?_, fun a c9 h9 => ⟨c9, h9, rfl, rfl, fun _ _ => rfl⟩⟩
  · have h := X.room
    have sz := X.heapSize
    have us := X.used
    simp only [State.hasRoom, Bool.and_eq_true, decide_eq_true_eq] at h ⊢
    obtain ⟨⟨⟨⟨h1, h2, h3, h4, h5, h6⟩, h7⟩, h8⟩, h9⟩ := h
    rw [X.frames, List.length_cons] at h2 h3
    simp only [fr9, used, List.length_cons, State.stackLimits_setFrames, State.stackBytes_setFrames, lim, byt]
    refine ⟨⟨⟨⟨by omega, by omega, by omega, by omega, by omega, h6⟩, ?_⟩, ?_⟩, X.book⟩
    · show T.heap.size + R'.cells ≤ e.platform.maxCells
      omega
    · show T.slotsUsed + R'.slots ≤ e.platform.maxSlots
      omega
  · show T.setVm s.vm = { ((T.setVm s.vm).setFrames (.invoking m args :: below)).setFrames (T.setVm s.vm).frames with heap := T.heap, slotsUsed := T.slotsUsed }
    rw [State.setFrames_setFrames, State.setFrames_self hth]
    rfl
  · show T.slotsUsed = T.slotsUsed + ((T.heap.toList.drop T.heap.size).map (·.slots.size)).sum
    rw [drop0]
    rfl
  · show ((T.heap.toList.drop T.heap.size).map (·.slots.size)).sum ≤ 0
    rw [drop0]
    exact Nat.le_refl _
/-- nothing old has changed, where no place was written -/
theorem ga_old {U V : State} {k n : Nat} (h : U.sameButNew ({ V with vm := U.vm } : State) [] k n) : U.heap.size ≤ V.heap.size ∧ ∀ q : Nat, q < U.heap.size → V.heap[q]? = U.heap[q]? := by
  obtain ⟨-, h2, -, -, -, h6⟩ := h
  refine ⟨h2, fun q hq => ?_⟩
  obtain ⟨c9, e1, e2, e3, e4⟩ := h6 q _ (Array.getElem?_eq_getElem hq)
  have hs : c9.slots = (U.heap[q]).slots := Array.ext_getElem? fun i => e4 i (fun z => nomatch z)
  have hc : c9 = U.heap[q] := by rw [hs] at e2; exact e2
  have e5 : V.heap[q]? = some c9 := e1
  rw [e5, hc, Array.getElem?_eq_getElem hq]
set_option maxHeartbeats 1000000 in
/-- throw new E() -/
theorem ga_throw {x ik ic : Nat} {names : List String} (ht : tb = []) (hE : Bundle.fit (xn x) = true) (hnames : ∀ n ∈ names, Bundle.fit n = true) (h1 : Cond.classLink own ik (xn x) ∈ lw_tbl) (h2 : Cond.initialized (xn x) ∈ lw_tbl) (hat : ∀ z ∈ Bundle.ownAtoms0 own ic (xn x) names, ga_hw z = true ∨ (z ∈ lw_tbl ∧ ga_tw z = true)) (hfr : names.length + 3 < fr) (hlo : (st.map fun v => v.category).sum + (13 * (names.length + 1) + 42) ≤ lo)
    (d0 : decode cc pc = .ok (.new ik, 3)) (d3 : decode cc (pc + 3) = .ok (.dup, 1)) (d4 : decode cc (pc + 4) = .ok (.invokespecial ic, 3)) (d7 : decode cc (pc + 7) = .ok (.athrow, 1)) : ga_J l S0 D cl tA base b xn p e R s m args below meth c nL Ts own cc ret tb mn fr lo fl ad0 w0 (ga_MQ xn D cl tA base b s args below ad0 w0) pc lv st w (some (.inr x, w.1, w.2.1 + 1, w.2.2 + 6)) := by
  intro r w' ho
  cases ho
  refine ⟨⟨by simp only; omega, by simp only; omega, Nat.le_refl _, fun _ => rfl⟩, fun B a1 a2 a3 a4 ad H locs ls x1 x2 x3 x4 => ?_⟩
  obtain ⟨hx, hb, hml, hr, hown, hts, hlk, hbs, hK, hZ, htb, hmn, hfr9, hlo9, hst, h00⟩ := B
  simp only at a3 a4
  have hcs := ga_catsum b ad st
  intro T hT X
  have htr : e.platform.stackTraces = false := (show e.platform.stackTraces = l.stackTraces by rw [X.admits.platform]).trans hst
  have Y := ga_anew X (R' := { frames := R.frames, locals := R.locals, cells := 1, slots := 6 }) (Nat.le_refl _) (Nat.le_refl _) (by show _ + 1 ≤ _; omega) (by show _ + 6 ≤ _; omega)
  obtain ⟨U0, hU0⟩ : ∃ z, z = (T.setVm s.vm).setFrames (.invoking m args :: below) := ⟨_, rfl⟩
  rw [← hU0] at Y
  have hvm : U0.vm = s.vm := by rw [hU0]; rfl
  have hhp : U0.heap = H := by rw [hU0]; exact hT
  have hZH : ga_Z S0 base s H := hZ.kept hbs (fun a g1 g2 => x3.2.1 a g1 g2)
  have hW0 : S0.WarmedH U0.vm := by rw [hvm]; exact hZ.2.1
  have hww : ∀ z ∈ Bundle.ownAtoms0 own ic (xn x) names, z.before args U0 = true := ga_own h00 hW0 (fun q hq => by rw [hhp]; exact hZH.2.2 q (Nat.lt_of_lt_of_le hq hZH.1)) hat
  have hown0 : U0.vm.findClass own = some m.cls := by rw [hvm]; exact hown
  have hins : (Cond.instantiable (xn x) 6).before args U0 = true := hww _ (by simp [Bundle.ownAtoms0])
  obtain ⟨vm₁, cX, kX, hfX, hkX, -, -, X₁, st1⟩ := Y.newCold hx (own := own) (C := xn x) (index := ik) (n := 6) hown0 (ga_word h00 hW0 h1 (by rfl)) hins (ga_word h00 hW0 h2 (by rfl))
    (g := F0 m pc ls (st.map (ga_v b ad))) rfl (by rw [hb]; exact d0) (Nat.le_refl _) (Nat.le_refl _)
  generalize hT1 : (T.setVm vm₁).pushCell { cls := cX, slots := kX.instanceTypes.map defaultValue, vm := .none } = T1 at X₁ st1
  have hcat : (Value.ref T.heap.size).category = 1 := rfl
  have hcellA : T1.heap[T.heap.size]? = some (freshCell cX kX) := by rw [← hT1]; exact State.heap_pushCell_size _ _
  have d3' : decode c.code (pc + 3) = .ok (.dup, 1) := by rw [hb]; exact d3
  obtain ⟨U, hsteps, hrun, hend, hWU, hsame, ce, hce, hO⟩ := X₁.ctorThrow0 hx htr (own := own) (cls := xn x) (names := names) (ic := ic) hown0 hE hnames hww (fun z hz => nomatch hz) hfX hkX hcellA (by rw [hhp, hT]; exact Nat.le_refl _)
    (g := { method := m, pc := pc + 4, locals := ls, stack := .ref T.heap.size :: .ref T.heap.size :: st.map (ga_v b ad), locked := none }) rfl (x4.1.trans hml.symm) rfl rfl (rest := st.map (ga_v b ad)) rfl
    (by rw [hb]; exact d4) (by rw [hb]; exact d7) (fun z hz => by rw [htb, ht] at hz; cases hz) (by show _ < R.frames; omega) (by show 2 * 0 + _ + _ ≤ R.locals; simp only [List.map_cons, List.sum_cons, hcat]; omega) hlk
  obtain ⟨f1, f2⟩ := ga_old hsame
  rw [hhp] at f1 f2
  have hWs : s.WarmedH U.vm := by
    have z0 : s.WarmedH U0.vm := by rw [hvm]; exact State.WarmedH.refl s
    exact State.WarmedH.trans z0 hWU
  have hcl : s.vm.findClass (xn x) = some ce.cls := by
    have h9 := hO.cls
    rw [hvm] at h9
    exact h9
  have hall : s.sameButNew ({ U with vm := s.vm } : State) locs (w.2.1 + 1 - w0.2.1) (w.2.2 + 6 - w0.2.2) := by
    subst hU0
    obtain ⟨e1, e2⟩ := hsame
    rw [State.setFrames_setFrames] at e1
    have g2 : (T.setVm s.vm).sameButNew ({ U with vm := s.vm } : State) [] (0 + 1) (0 + 6) := ⟨e1, e2⟩
    have g3 := X.same.trans g2
    rw [List.append_nil] at g3
    exact g3.mono (by omega) (by omega)
  have hH2 : ga_H D cl tA base b ad w.1 U.heap := ⟨x2.1.kept (fun k q hq => f2 q.1 (x2.1 k q hq).lt), x2.2⟩
  refine ⟨U, ?_, .threw T.heap.size, hrun, hend, T.heap.size, ce, locs, ad, rfl, hce, hO.vm, hcl, hWs, hall, x3.2.2, x1, hH2, Nat.le_trans x3.1 f1, fun q g1 g2 => by rw [f2 q (Nat.lt_of_lt_of_le g1 x3.1)]; exact x3.2.1 q g1 g2⟩
  refine st1 _ ?_
  show Steps p.tables e below (T1.setTop { method := m, pc := pc + 3, locals := ls, stack := .ref T.heap.size :: st.map (ga_v b ad), locked := none }) _
  jvm_step X₁.here [X₁.here.top, hx, d3', Value.category]
  exact hsteps
end GG
end
section
/-! CATCH, AND A METHOD WITH HANDLERS -/
/-- the search through the table ends with h and leaves the tables vm' -/
def ga_Fd (e : Env) (S : State) (f : JFrame) (a : Addr) (t : List ExceptionTableEntry) (h : Handler) (vm' : Vm) : Prop :=
  ∀ (Q : Handler → Pre) (E : CtlPost) (d : Bool) (acts : List Action), wp (findHandler.go f a t) Q E e d acts S ↔ Q h d acts (S.setVm vm')
section GH
variable {l : Launch} {S0 : State} {D : va_G} {cl : List vw_C} {tA : List (ClassId × FieldType)} {base b : Nat} {xn : Nat → String} {p : Program} {e : Env} {R : Room} {s : State} {m : MethodId} {args : Array Value} {below : List Frame} {meth : Method} {c : Code} {nL : Nat} {Ts : List Cond} {own : String} {cc : ByteArray} {ret : Option FieldType} {tb : List ExceptionTableEntry} {mn : String} {fr lo : Nat} {fl : Bool} {ad0 : Nat → Nat} {w0 : ga_W} {Q : ga_R → ga_W → State → Prop}
variable {pc : Nat} {lv : List (Nat × Value)} {st : List Value} {w : ga_W} {o : ga_O}
/-- one row that covers the place and names a class: cold or warm, it takes the thing or lets it by -/
theorem ga_row {S : State} {f : JFrame} {a : Addr} {cell : Cell} {z : ExceptionTableEntry} {t : List ExceptionTableEntry} {k : ClassId} (hx : covers z f.pc = true) (h0 : z.catchType ≠ 0) (hl : S.vm.ClassLinks e.platform f.method.cls z.catchType k) (hcell : S.heap[a]? = some cell) (hobj : ∀ j, cell.vm ≠ .statics j) (hk : ∃ j, S.vm.classes[cell.cls]? = some j) (Q : Handler → Pre) (E : CtlPost) (d : Bool) (acts : List Action) :
    wp (findHandler.go f a (z :: t)) Q E e d acts S ↔ if S.vm.assignable cell.cls k = true then Q (.found z.handlerPc) d acts (S.setVm (S.vm.noted f.method.cls z.catchType (.cls k))) else wp (findHandler.go f a t) Q E e d acts (S.setVm (S.vm.noted f.method.cls z.catchType (.cls k))) := by
  simp only [covers] at hx
  obtain ⟨ha, ht⟩ := (resolveClass_links e.toSetting hl).op (op := VmOp.resolveClass f.method.cls z.catchType) rfl
  have al : S.vm.Alike (S.vm.noted f.method.cls z.catchType (.cls k)) := (Vm.Alike.refl S.vm).noted _ _ _
  obtain ⟨j1, hj1⟩ := hk
  obtain ⟨-, -, -, j2, -, -, -, -, -, hj2, -, -⟩ := hl.here
  obtain ⟨j1', hj1', -⟩ := al.2.2 _ _ hj1
  obtain ⟨j2', hj2', -⟩ := al.2.2 _ _ hj2
  cases hfit : S.vm.assignable cell.cls k with
  | true =>
    have hf' : (S.vm.noted f.method.cls z.catchType (.cls k)).assignable cell.cls k = true := by rw [al.assignable]; exact hfit
    simp [findHandler.go, hx, h0, ha, ht, hcell, hobj, hj1', hj2', hf', VmOp.dirties, VmOp.acts]
  | false =>
    have hf' : (S.vm.noted f.method.cls z.catchType (.cls k)).assignable cell.cls k = false := by rw [al.assignable]; exact hfit
    simp [findHandler.go, hx, h0, ha, ht, hcell, hobj, hj1', hj2', hf', VmOp.dirties, VmOp.acts]
/-- rows that let it by, then one that takes it -/
theorem ga_seek {f : JFrame} {a : Addr} {cell : Cell} {z : ExceptionTableEntry} {suf : List ExceptionTableEntry} {kz : ClassId} (hobj : ∀ j, cell.vm ≠ .statics j) (hk : ∃ j, s.vm.classes[cell.cls]? = some j) (hx : covers z f.pc = true) (h0 : z.catchType ≠ 0) (hl : s.vm.ClassLinks e.platform f.method.cls z.catchType kz) (hfit : s.vm.assignable cell.cls kz = true) :
    ∀ (pre : List ExceptionTableEntry) (S : State), s.WarmedH S.vm → S.heap[a]? = some cell → (∀ y ∈ pre, covers y f.pc = false ∨ (y.catchType ≠ 0 ∧ ∃ k, s.vm.ClassLinks e.platform f.method.cls y.catchType k ∧ s.vm.assignable cell.cls k = false)) →
      ∃ vm', s.WarmedH vm' ∧ ga_Fd e S f a (pre ++ z :: suf) (.found z.handlerPc) vm' := by
  obtain ⟨j, hj⟩ := hk
  intro pre
  induction pre with
  | nil =>
    intro S hW hcell _
    obtain ⟨j', hj', -⟩ := hW.alike.2.2 _ _ hj
    obtain ⟨-, hw, -⟩ := State.classEntry (e := e) hW hl
    refine ⟨_, hw, fun Q E d acts => ?_⟩
    rw [List.nil_append, ga_row hx h0 (hW.classLinks hl) hcell hobj ⟨j', hj'⟩, if_pos (by rw [hW.alike.assignable]; exact hfit)]
  | cons y ys ih =>
    intro S hW hcell hpass
    have hrest := fun z hz => hpass z (List.mem_cons_of_mem _ hz)
    by_cases hcov : covers y f.pc = true
    · rcases hpass y List.mem_cons_self with h | ⟨hy0, k, hyl, hno⟩
      · rw [h] at hcov; cases hcov
      · obtain ⟨j', hj', -⟩ := hW.alike.2.2 _ _ hj
        obtain ⟨-, hw, -⟩ := State.classEntry (e := e) hW hyl
        obtain ⟨vm', hW', hq⟩ := ih (S.setVm (S.vm.noted f.method.cls y.catchType (.cls k))) hw hcell hrest
        refine ⟨vm', hW', fun Q E d acts => ?_⟩
        rw [List.cons_append, ga_row hcov hy0 (hW.classLinks hyl) hcell hobj ⟨j', hj'⟩, if_neg (by rw [hW.alike.assignable, hno]; decide)]
        exact hq Q E d acts
    · obtain ⟨vm', hW', hq⟩ := ih S hW hcell hrest
      refine ⟨vm', hW', fun Q E d acts => ?_⟩
      rw [List.cons_append, Jvm.W.findHandler_go_skip (by simpa using hcov)]
      exact hq Q E d acts
/-- into the handler -/
theorem ga_into {T target : State} {g : JFrame} {q : Addr} {pc2 : Nat} {vm' : Vm} (h : At T g.method c below) (hm : T.vm.method? g.method = some meth) (hc : meth.code = some c) (hf : ga_Fd e ((T.setTop g).pushFrame (.throwing q)) g q c.exceptionTable.toList (.found pc2) vm')
    (hrest : Steps p.tables e below ((T.setVm vm').setTop { g with pc := pc2, stack := [.ref q] }) target) : Steps p.tables e below ((T.setTop g).pushFrame (.throwing q)) target := by
  obtain ⟨hgo, hw⟩ := h.throwing q
  refine Steps.head hgo hw ?_
  have hstep : (stepThrowing e ((T.setTop g).pushFrame (.throwing q)) q (.java g :: T.frames.tail)).Is ((((T.setTop g).pushFrame (.throwing q)).setVm vm').setFrames (.java { g with pc := pc2, stack := [.ref q] } :: T.frames.tail)) [] := by
    have hm' : ((T.setTop g).pushFrame (.throwing q)).vm.method? g.method = some meth := by simpa [State.pushFrame, State.setFrames] using hm
    simp only [stepThrowing, searchFrame, vmDo]
    generalize hr : Sem.go _ e false [] ((T.setTop g).pushFrame (.throwing q)) = res
    obtain ⟨as, rfl, ha⟩ := Sem.eq_ok_of hr (a := Handler.found pc2) (s' := ((T.setTop g).pushFrame (.throwing q)).setVm vm') (acts' := []) (by simp [Jvm.W.findHandler_eq hm' hc, hf _ _ _ _])
    exact ⟨rfl, ha⟩
  rw [stepThread_throwing (frames_entered h.top _), hstep.1]
  obtain ⟨g₀, hg⟩ := Option.isSome_iff_exists.mp h.top
  obtain ⟨r, hr⟩ := State.topJava?_eq_some.mp hg
  have hr' : (T.setVm vm').frames = .java g₀ :: r := hr
  have e1 : ∀ (V : State) (F G : List Frame), ((V.setFrames F).setVm vm').setFrames G = (V.setVm vm').setFrames G := fun V F G => by
    have z : (V.setFrames F).setVm vm' = (V.setVm vm').setFrames F := rfl
    rw [z, State.setFrames_setFrames]
  rw [State.setTop_of_frames _ hr'] at hrest
  rw [hr, List.tail_cons, State.pushFrame, e1, State.setTop_of_frames _ hr, e1]
  exact hrest
/-- the handler's first row lays the exception into a local that nobody reads again -/
theorem ga_catch {x i : Nat} {j : Fin 4} {lv2 : List (Nat × Value)} (pre : List ExceptionTableEntry) (z : ExceptionTableEntry) (suf : List ExceptionTableEntry) (htl : tb = pre ++ z :: suf) (hpass : ∀ y ∈ pre, covers y pc = false ∨ (y.catchType ≠ 0 ∧ ∃ nm : String, Cond.classLink own y.catchType nm ∈ Ts ∧ ∀ (S : State) (b : Nat), ga_0 S b → (Cond.not (.castable (xn x) nm)).before #[Value.ref b] S = true)) (hcov : covers z pc = true) (h0 : z.catchType ≠ 0)
    (hl : Cond.classLink own z.catchType (xn x) ∈ Ts) (hcast : Cond.castable (xn x) (xn x) ∈ lw_tbl) (d : decode cc z.handlerPc = .ok (.astore_n j, 1)) (hi : (j : Nat) = i) (hn : i < nL) (h2 : (ga_s1 lv i .null).tail = lv2) (k : ga_J l S0 D cl tA base b xn p e R s m args below meth c nL Ts own cc ret tb mn fr lo fl ad0 w0 Q (z.handlerPc + 1) lv2 [] w o) : ga_JX l S0 D cl tA base b xn p e R s m args below meth c nL Ts own cc ret tb mn fr lo fl ad0 w0 Q pc lv x w o := by
  intro r w' ho
  obtain ⟨g1, g4⟩ := k r w' ho
  refine ⟨g1, fun B a1 a2 a3 a4 ad H locs ls rest ce q x1 x2 x3 x4 hce hcv hcl => ?_⟩
  have kk := g4 B a1 a2 a3 a4 ad H locs
  obtain ⟨hx, hb, hml, hr, hown, hts, hlk, hbs, hK, hZ, htb, hmn, hfr, hlo, hst, h00⟩ := B
  intro T hT X
  have hpl : e.platform.magicAccessors = ({} : Platform).magicAccessors := by rw [X.admits.platform]
  obtain ⟨kz, hkz, hlz⟩ := Cond.classLink_spec hown (hts _ hl) e.platform hpl
  cases Option.some.inj (hcl.symm.trans hkz)
  obtain ⟨c3, c4, hc3, hc4, hasg⟩ := Cond.castable_spec (ga_word (args := args) (U := s) h00 hZ.2.1 hcast rfl)
  cases Option.some.inj (hc3.symm.trans hcl)
  cases Option.some.inj (hc4.symm.trans hcl)
  obtain ⟨vm', hW', hfd⟩ := ga_seek (e := e) (s := s) (f := F0 m pc ls rest) (a := q) (cell := ce) (z := z) (suf := suf) (fun j h => by rw [hcv] at h; cases h) (by obtain ⟨k9, h9, -⟩ := Vm.findClass_spec hcl; exact ⟨k9, h9⟩) hcov h0 hlz hasg pre ((T.setTop (F0 m pc ls rest)).pushFrame (.throwing q)) (by rw [throwing_vm]; exact X.warmed) (by rw [throwing_heap, hT]; exact hce)
    (fun y hy => by
      rcases hpass y hy with h | ⟨hy0, nm, hnl, hno⟩
      · exact Or.inl h
      · obtain ⟨k6, hk6, hl6⟩ := Cond.classLink_spec hown (hts _ hnl) e.platform hpl
        obtain ⟨a8, b8, h1, h2, h3⟩ := va_Nc.moved hZ.2.1.alike (va_Nc.of (hno S0 b h00))
        cases Option.some.inj (h1.symm.trans hcl)
        cases Option.some.inj (h2.symm.trans hk6)
        exact Or.inr ⟨hy0, _, hl6, h3⟩)
  rw [← htl, ← htb] at hfd
  have hWd : W p l e R s m args below meth c H locs (w.2.1 - w0.2.1) (w.2.2 - w0.2.2) (Q r w') (F0 m z.handlerPc ls [.ref q]) := by
    refine lv_astore_n hx hb d hi x4 hn rfl (fun ls2 hl2 => ?_)
    refine kk ls2 x1 x2 x3 ⟨hl2.1, hl2.2.1, fun u hu => hl2.2.2 u (List.mem_cons_of_mem _ ?_)⟩
    have e1 := congrArg List.tail (ga_s1_l b ad lv i .null)
    rw [← h2] at hu
    simp only [List.tail_cons] at e1
    rw [e1]
    simpa [ga_l, List.map_tail] using hu
  obtain ⟨t, a9, b9⟩ := hWd (T.setVm vm') hT (X.noted hW')
  exact ⟨t, ga_into (h := X.here) (hm := X.method') (hc := X.code) hfd a9, b9⟩
/-- the handler's first row lays the exception into a local that nobody reads again -/
theorem ga_catchA {x i : Nat} {lv2 : List (Nat × Value)} (pre : List ExceptionTableEntry) (z : ExceptionTableEntry) (suf : List ExceptionTableEntry) (htl : tb = pre ++ z :: suf) (hpass : ∀ y ∈ pre, covers y pc = false ∨ (y.catchType ≠ 0 ∧ ∃ nm : String, Cond.classLink own y.catchType nm ∈ Ts ∧ ∀ (S : State) (b : Nat), ga_0 S b → (Cond.not (.castable (xn x) nm)).before #[Value.ref b] S = true)) (hcov : covers z pc = true) (h0 : z.catchType ≠ 0)
    (hl : Cond.classLink own z.catchType (xn x) ∈ Ts) (hcast : Cond.castable (xn x) (xn x) ∈ lw_tbl) (d : decode cc z.handlerPc = .ok (.astore i, 2)) (hn : i < nL) (h2 : (ga_s1 lv i .null).tail = lv2) (k : ga_J l S0 D cl tA base b xn p e R s m args below meth c nL Ts own cc ret tb mn fr lo fl ad0 w0 Q (z.handlerPc + 2) lv2 [] w o) : ga_JX l S0 D cl tA base b xn p e R s m args below meth c nL Ts own cc ret tb mn fr lo fl ad0 w0 Q pc lv x w o := by
  intro r w' ho
  obtain ⟨g1, g4⟩ := k r w' ho
  refine ⟨g1, fun B a1 a2 a3 a4 ad H locs ls rest ce q x1 x2 x3 x4 hce hcv hcl => ?_⟩
  have kk := g4 B a1 a2 a3 a4 ad H locs
  obtain ⟨hx, hb, hml, hr, hown, hts, hlk, hbs, hK, hZ, htb, hmn, hfr, hlo, hst, h00⟩ := B
  intro T hT X
  have hpl : e.platform.magicAccessors = ({} : Platform).magicAccessors := by rw [X.admits.platform]
  obtain ⟨kz, hkz, hlz⟩ := Cond.classLink_spec hown (hts _ hl) e.platform hpl
  cases Option.some.inj (hcl.symm.trans hkz)
  obtain ⟨c3, c4, hc3, hc4, hasg⟩ := Cond.castable_spec (ga_word (args := args) (U := s) h00 hZ.2.1 hcast rfl)
  cases Option.some.inj (hc3.symm.trans hcl)
  cases Option.some.inj (hc4.symm.trans hcl)
  obtain ⟨vm', hW', hfd⟩ := ga_seek (e := e) (s := s) (f := F0 m pc ls rest) (a := q) (cell := ce) (z := z) (suf := suf) (fun j h => by rw [hcv] at h; cases h) (by obtain ⟨k9, h9, -⟩ := Vm.findClass_spec hcl; exact ⟨k9, h9⟩) hcov h0 hlz hasg pre ((T.setTop (F0 m pc ls rest)).pushFrame (.throwing q)) (by rw [throwing_vm]; exact X.warmed) (by rw [throwing_heap, hT]; exact hce)
    (fun y hy => by
      rcases hpass y hy with h | ⟨hy0, nm, hnl, hno⟩
      · exact Or.inl h
      · obtain ⟨k6, hk6, hl6⟩ := Cond.classLink_spec hown (hts _ hnl) e.platform hpl
        obtain ⟨a8, b8, h1, h2, h3⟩ := va_Nc.moved hZ.2.1.alike (va_Nc.of (hno S0 b h00))
        cases Option.some.inj (h1.symm.trans hcl)
        cases Option.some.inj (h2.symm.trans hk6)
        exact Or.inr ⟨hy0, _, hl6, h3⟩)
  rw [← htl, ← htb] at hfd
  have hWd : W p l e R s m args below meth c H locs (w.2.1 - w0.2.1) (w.2.2 - w0.2.2) (Q r w') (F0 m z.handlerPc ls [.ref q]) := by
    refine lv_astore hx hb d x4 hn rfl (fun ls2 hl2 => ?_)
    refine kk ls2 x1 x2 x3 ⟨hl2.1, hl2.2.1, fun u hu => hl2.2.2 u (List.mem_cons_of_mem _ ?_)⟩
    have e1 := congrArg List.tail (ga_s1_l b ad lv i .null)
    rw [← h2] at hu
    simp only [List.tail_cons] at e1
    rw [e1]
    simpa [ga_l, List.map_tail] using hu
  obtain ⟨t, a9, b9⟩ := hWd (T.setVm vm') hT (X.noted hW')
  exact ⟨t, ga_into (h := X.here) (hm := X.method') (hc := X.code) hfd a9, b9⟩
/-- a method with handlers, from its body -/
theorem ga_enterH {y : MethodName} {ws ws' : List Cond} {maxL : Nat} {av : List Value} {hh : List (Nat × Nat × Nat × Nat)} (hst : l.stackTraces = false) (hy : plainName y.cls = true) (hw : ws = Cond.codeWith y cc maxL ret hh :: ws') (hsl : (lg_sl av).length ≤ maxL)
    (body : ∀ (p : Program) (e : Env) (R : Room) (s : State) (m : MethodId) (args : Array Value) (below : List Frame) (meth : Method) (c : Code) (ad0 : Nat → Nat), ga_J l S0 D cl tA base b xn p e R s m args below meth c maxL ws y.cls cc ret (tableOf hh) y.name fr lo fl ad0 w (ga_MQ xn D cl tA base b s args below ad0 w) 0 (lv_args 0 av) [] w o) : ga_M l S0 D cl tA base b xn y ws fr lo fl av w o := by
  intro r w' ho
  refine ⟨fun p e R s m args below meth c => (body p e R s m args below meth c (fun k => k) r w' ho).1, fun ad => ?_⟩
  have key : ∀ (p : Program) (e : Env) (s : State) (m : MethodId) (args : Array Value) (below : List Frame) (meth : Method) (c : Code) (s₁ : State), BodyLoose p l y (headSpec ws { frames := fr, cells := w'.2.1 - w.2.1, slots := w'.2.2 - w.2.2, locals := lo }) cc maxL ret e s m args below meth c s₁ → c.maxLocals = maxL → (va_Pc (av.map (ga_v b ad)) (fun U => ga_P S0 D cl tA base b ad w U)) args s →
      W p l e (headSpec ws { frames := fr, cells := w'.2.1 - w.2.1, slots := w'.2.2 - w.2.2, locals := lo }).room s m args below meth c s.heap [] 0 0 (ga_MQ xn D cl tA base b s args below ad w r w') (entryFrame m args maxL) := by
    intro p e s m args below meth c s₁ B hml hv
    obtain ⟨rfl, hbs, hK, hZ, h00, hH⟩ := hv
    obtain ⟨-, h4⟩ := body p e (headSpec ws { frames := fr, cells := w'.2.1 - w.2.1, slots := w'.2.2 - w.2.2, locals := lo }).room s m _ below meth c ad r w' ho
    have hname : meth.name = y.name := (name_of_methodNamed B.named B.method).1
    have htab : c.exceptionTable.toList = tableOf hh := by
      obtain ⟨m9, meth9, c9, hn9, g1, g2, -, -, g6, -⟩ := Cond.codeWith_spec (atoms_spec (ws := ws) B.pre _ (by rw [hw]; exact List.mem_cons_self))
      cases Option.some.inj (hn9.symm.trans B.named)
      cases Option.some.inj (g1.symm.trans B.method)
      cases Option.some.inj (g2.symm.trans (Stand.of_body B).code)
      rw [← g6, table_eq]
    have hB : ga_B l S0 D cl tA base b p (headSpec ws { frames := fr, cells := w'.2.1 - w.2.1, slots := w'.2.2 - w.2.2, locals := lo }).room s m ((av.map (ga_v b ad)).toArray) meth c maxL ws y.cls cc ret (tableOf hh) y.name fr lo :=
      ⟨B.exec, B.bytes, hml, B.returns, findClass_of_methodNamed B.named, atoms_spec (ws := ws) B.pre, B.notSynchronized, hbs, hK, hZ, htab, hname, Nat.le_refl _, Nat.le_refl _, hst, h00⟩
    have hl := lv_entry (av.map (ga_v b ad)) (n := maxL) (by rw [ga_sl_len]; exact hsl)
    rw [ga_l_args] at hl
    have hh9 := h4 hB (Nat.le_refl _) (Nat.le_refl _) (by show w'.2.1 ≤ w.2.1 + (w'.2.1 - w.2.1); omega) (by show w'.2.2 ≤ w.2.2 + (w'.2.2 - w.2.2); omega) ad s.heap [] _ ga_X.rf hH va_S.rf hl
    rw [Nat.sub_self, Nat.sub_self] at hh9
    rw [lg_entry_eq]
    exact hh9
  cases r with
  | inl v => exact va_MetW (cc := cc) (maxL := maxL) (ret := ret) hy hw key
  | inr x =>
    refine MetFree.of_bodyS (code := cc) (maxLocals := maxL) (ret := ret) hy ?_ ?_
    · intro args s m h hn
      obtain ⟨m9, meth, c, hn9, h1, h2, h3, h4, -, h5, h6, -⟩ := Cond.codeWith_spec (atoms_spec (ws := ws) h _ (by rw [hw]; exact List.mem_cons_self))
      cases hn.symm.trans hn9
      exact ⟨meth, c, h1, h2, h3, h4, h5, h6⟩
    · intro p e s m args below meth c s₁ B hml hP _
      have hh0 : s₁.heap = s.heap := by rw [B.state]; rfl
      obtain ⟨t, a1, oc, b1, b2, b3⟩ := key p e s m args below meth c s₁ B hml hP s₁ hh0 (Stand.of_body B)
      exact ⟨t, oc, a1, b1, b2, b3⟩
end GH
end
section
/-! SMALL ROWS FOR THE PRINTED WALKS -/
def ga_jn {κ : Type} (k : κ) (body : κ → ga_O) : ga_O := body k
section GS
variable {l : Launch} {S0 : State} {D : va_G} {cl : List vw_C} {tA : List (ClassId × FieldType)} {base b : Nat} {xn : Nat → String} {p : Program} {e : Env} {R : Room} {s : State} {m : MethodId} {args : Array Value} {below : List Frame} {meth : Method} {c : Code} {nL : Nat} {Ts : List Cond} {own : String} {cc : ByteArray} {ret : Option FieldType} {tb : List ExceptionTableEntry} {mn : String} {fr lo : Nat} {fl : Bool} {ad0 : Nat → Nat} {w0 : ga_W} {Q : ga_R → ga_W → State → Prop}
variable {pc : Nat} {lv : List (Nat × Value)} {st : List Value} {w : ga_W} {o : ga_O}
theorem ga_guard {P : Prop} [Decidable P] (k : P → ga_J l S0 D cl tA base b xn p e R s m args below meth c nL Ts own cc ret tb mn fr lo fl ad0 w0 Q pc lv st w o) : ga_J l S0 D cl tA base b xn p e R s m args below meth c nL Ts own cc ret tb mn fr lo fl ad0 w0 Q pc lv st w (if P then o else none) := by
  by_cases h : P
  · rw [if_pos h]; exact k h
  · rw [if_neg h]; exact ga_no
theorem ga_ite {P : Prop} [Decidable P] {o2 : ga_O} (k1 : P → ga_J l S0 D cl tA base b xn p e R s m args below meth c nL Ts own cc ret tb mn fr lo fl ad0 w0 Q pc lv st w o) (k2 : ¬ P → ga_J l S0 D cl tA base b xn p e R s m args below meth c nL Ts own cc ret tb mn fr lo fl ad0 w0 Q pc lv st w o2) : ga_J l S0 D cl tA base b xn p e R s m args below meth c nL Ts own cc ret tb mn fr lo fl ad0 w0 Q pc lv st w (if P then o else o2) := by
  by_cases h : P
  · rw [if_pos h]; exact k1 h
  · rw [if_neg h]; exact k2 h
theorem ga_iteX {x : Nat} {P : Prop} [Decidable P] {o2 : ga_O} (k1 : P → ga_JX l S0 D cl tA base b xn p e R s m args below meth c nL Ts own cc ret tb mn fr lo fl ad0 w0 Q pc lv x w o) (k2 : ¬ P → ga_JX l S0 D cl tA base b xn p e R s m args below meth c nL Ts own cc ret tb mn fr lo fl ad0 w0 Q pc lv x w o2) : ga_JX l S0 D cl tA base b xn p e R s m args below meth c nL Ts own cc ret tb mn fr lo fl ad0 w0 Q pc lv x w (if P then o else o2) := by
  by_cases h : P
  · rw [if_pos h]; exact k1 h
  · rw [if_neg h]; exact k2 h
theorem ga_join {κ : Type} {k : κ} {body : κ → ga_O} (P : κ → Prop) (h1 : P k) (h2 : ∀ K, P K → ga_J l S0 D cl tA base b xn p e R s m args below meth c nL Ts own cc ret tb mn fr lo fl ad0 w0 Q pc lv st w (body K)) : ga_J l S0 D cl tA base b xn p e R s m args below meth c nL Ts own cc ret tb mn fr lo fl ad0 w0 Q pc lv st w (ga_jn k body) := h2 k h1
theorem ga_named {x : Int32} {f : Int32 → ga_O} (k : ∀ v : Int32, ga_J l S0 D cl tA base b xn p e R s m args below meth c nL Ts own cc ret tb mn fr lo fl ad0 w0 Q pc lv (.int v :: st) w (f v)) : ga_J l S0 D cl tA base b xn p e R s m args below meth c nL Ts own cc ret tb mn fr lo fl ad0 w0 Q pc lv (.int x :: st) w ((fun v => f v) x) := k x
theorem ga_namedW {f : ga_W → ga_O} {v : ga_W} (k : ∀ v : ga_W, ga_J l S0 D cl tA base b xn p e R s m args below meth c nL Ts own cc ret tb mn fr lo fl ad0 w0 Q pc lv st v (f v)) : ga_J l S0 D cl tA base b xn p e R s m args below meth c nL Ts own cc ret tb mn fr lo fl ad0 w0 Q pc lv st v ((fun v => f v) v) := k v
theorem ga_vI {f : Int32 → ga_W → ga_O} (k : ∀ x w1, ga_J l S0 D cl tA base b xn p e R s m args below meth c nL Ts own cc ret tb mn fr lo fl ad0 w0 Q pc lv (.int x :: st) w1 (f x w1)) : ∀ v w1, ga_J l S0 D cl tA base b xn p e R s m args below meth c nL Ts own cc ret tb mn fr lo fl ad0 w0 Q pc lv (v.toList ++ st) w1 (ga_kI f v w1) := by
  intro v w1
  cases v with
  | none => exact ga_no
  | some v => cases v <;> first | exact k _ _ | exact ga_no
theorem ga_vD {f : UInt64 → ga_W → ga_O} (k : ∀ x w1, ga_J l S0 D cl tA base b xn p e R s m args below meth c nL Ts own cc ret tb mn fr lo fl ad0 w0 Q pc lv (.double x :: st) w1 (f x w1)) : ∀ v w1, ga_J l S0 D cl tA base b xn p e R s m args below meth c nL Ts own cc ret tb mn fr lo fl ad0 w0 Q pc lv (v.toList ++ st) w1 (ga_kD f v w1) := by
  intro v w1
  cases v with
  | none => exact ga_no
  | some v => cases v <;> first | exact k _ _ | exact ga_no
theorem ga_vV {f : ga_W → ga_O} (k : ∀ w1, ga_J l S0 D cl tA base b xn p e R s m args below meth c nL Ts own cc ret tb mn fr lo fl ad0 w0 Q pc lv st w1 (f w1)) : ∀ v w1, ga_J l S0 D cl tA base b xn p e R s m args below meth c nL Ts own cc ret tb mn fr lo fl ad0 w0 Q pc lv (v.toList ++ st) w1 (ga_kV f v w1) := by
  intro v w1
  cases v with
  | none => exact k _
  | some v => exact ga_no
theorem ga_nz1 {x : Int32} (h : x = 0 ∨ x = 1) : narrow .boolean (.int x) = .int x := by
  rcases h with rfl | rfl <;> rfl
theorem ga_nz {x : Int32} {ad : Nat → Nat} (h : x = 0 ∨ x = 1) : narrow .boolean (ga_v b ad (.int x)) = ga_v b ad (.int x) ∧ fits .boolean (ga_v b ad (.int x)) = true := by
  rcases h with rfl | rfl <;> exact ⟨rfl, rfl⟩
theorem ga_zr0 (cA : ClassId) (N : Nat) : vp_cell cA (N, .inl (fun _ => 0)) = arrV cA N (fun _ => defaultValue .int) := rfl
theorem ga_zr1 (cA : ClassId) (N : Nat) : vp_cell cA (N, .inl (fun _ => 0)) = arrV cA N (fun _ => defaultValue .boolean) := rfl
theorem ga_zr2 (cA : ClassId) (N : Nat) : vp_cell cA (N, .inr (.inl (fun _ => 0))) = arrV cA N (fun _ => defaultValue .long) := rfl
theorem ga_zr3 (cA : ClassId) (N : Nat) : vp_cell cA (N, .inr (.inr (.inr (.inl (fun _ => 0))))) = arrV cA N (fun _ => defaultValue .double) := rfl
theorem ga_by {N k : Nat} (h : N ≤ 60000) (hk : k ≤ 8) : N * k ≤ 536870912 := by
  have := Nat.mul_le_mul h hk
  omega
theorem ga_ps1 {x : Nat} {y1 : ExceptionTableEntry} (n1 : String) (a1 : Cond.classLink own y1.catchType n1 ∈ Ts) (c1 : ∀ (S : State) (b : Nat), ga_0 S b → (Cond.not (.castable (xn x) n1)).before #[Value.ref b] S = true) (z1 : y1.catchType ≠ 0 := by decide) : ∀ y ∈ [y1], covers y pc = false ∨ (y.catchType ≠ 0 ∧ ∃ nm : String, Cond.classLink own y.catchType nm ∈ Ts ∧ ∀ (S : State) (b : Nat), ga_0 S b → (Cond.not (.castable (xn x) nm)).before #[Value.ref b] S = true) := by
  intro y hy
  rw [List.mem_singleton] at hy
  subst hy
  exact Or.inr ⟨z1, n1, a1, c1⟩
theorem ga_ps2 {x : Nat} {y1 y2 : ExceptionTableEntry} (n1 : String) (a1 : Cond.classLink own y1.catchType n1 ∈ Ts) (c1 : ∀ (S : State) (b : Nat), ga_0 S b → (Cond.not (.castable (xn x) n1)).before #[Value.ref b] S = true) (n2 : String) (a2 : Cond.classLink own y2.catchType n2 ∈ Ts) (c2 : ∀ (S : State) (b : Nat), ga_0 S b → (Cond.not (.castable (xn x) n2)).before #[Value.ref b] S = true) (z1 : y1.catchType ≠ 0 := by decide) (z2 : y2.catchType ≠ 0 := by decide) : ∀ y ∈ [y1, y2], covers y pc = false ∨ (y.catchType ≠ 0 ∧ ∃ nm : String, Cond.classLink own y.catchType nm ∈ Ts ∧ ∀ (S : State) (b : Nat), ga_0 S b → (Cond.not (.castable (xn x) nm)).before #[Value.ref b] S = true) := by
  intro y hy
  rcases List.mem_cons.mp hy with rfl | hy
  · exact Or.inr ⟨z1, n1, a1, c1⟩
  · exact ga_ps1 n2 a2 c2 z2 y hy
theorem ga_ps3 {x : Nat} {y1 y2 y3 : ExceptionTableEntry} (n1 : String) (a1 : Cond.classLink own y1.catchType n1 ∈ Ts) (c1 : ∀ (S : State) (b : Nat), ga_0 S b → (Cond.not (.castable (xn x) n1)).before #[Value.ref b] S = true) (n2 : String) (a2 : Cond.classLink own y2.catchType n2 ∈ Ts) (c2 : ∀ (S : State) (b : Nat), ga_0 S b → (Cond.not (.castable (xn x) n2)).before #[Value.ref b] S = true) (n3 : String) (a3 : Cond.classLink own y3.catchType n3 ∈ Ts) (c3 : ∀ (S : State) (b : Nat), ga_0 S b → (Cond.not (.castable (xn x) n3)).before #[Value.ref b] S = true) (z1 : y1.catchType ≠ 0 := by decide) (z2 : y2.catchType ≠ 0 := by decide) (z3 : y3.catchType ≠ 0 := by decide) : ∀ y ∈ [y1, y2, y3], covers y pc = false ∨ (y.catchType ≠ 0 ∧ ∃ nm : String, Cond.classLink own y.catchType nm ∈ Ts ∧ ∀ (S : State) (b : Nat), ga_0 S b → (Cond.not (.castable (xn x) nm)).before #[Value.ref b] S = true) := by
  intro y hy
  rcases List.mem_cons.mp hy with rfl | hy
  · exact Or.inr ⟨z1, n1, a1, c1⟩
  · exact ga_ps2 n2 a2 c2 n3 a3 c3 z2 z3 y hy
end GS
theorem ga_out5 {x : Int32} (h0 : ¬ x = 0) (h1 : ¬ x = 1) (h2 : ¬ x = 2) (h3 : ¬ x = 3) (h4 : ¬ x = 4) (h5 : ¬ x = 5) : x.toInt < 0 ∨ 5 < x.toInt := by
  by_cases h : x.toInt < 0
  · exact Or.inl h
  · right
    refine Int.not_le.mp (fun hle => ?_)
    have key : ∀ k : Int32, ¬ x = k → ¬ x.toInt = k.toInt := fun k hk q => hk (Int32.toInt_inj.mp q)
    have q0 : ¬ x.toInt = 0 := key 0 h0
    have q1 : ¬ x.toInt = 1 := key 1 h1
    have q2 : ¬ x.toInt = 2 := key 2 h2
    have q3 : ¬ x.toInt = 3 := key 3 h3
    have q4 : ¬ x.toInt = 4 := key 4 h4
    have q5 : ¬ x.toInt = 5 := key 5 h5
    omega
theorem ga_out15 {x : Int32} (h0 : ¬ x = 0) (h1 : ¬ x = 1) (h2 : ¬ x = 2) (h3 : ¬ x = 3) (h4 : ¬ x = 4) (h5 : ¬ x = 5) (h6 : ¬ x = 6) (h7 : ¬ x = 7) (h8 : ¬ x = 8) (h9 : ¬ x = 9) (h10 : ¬ x = 10) (h11 : ¬ x = 11) (h12 : ¬ x = 12) (h13 : ¬ x = 13) (h14 : ¬ x = 14) (h15 : ¬ x = 15) : x.toInt < 0 ∨ 15 < x.toInt := by
  by_cases h : x.toInt < 0
  · exact Or.inl h
  · right
    refine Int.not_le.mp (fun hle => ?_)
    have key : ∀ k : Int32, ¬ x = k → ¬ x.toInt = k.toInt := fun k hk q => hk (Int32.toInt_inj.mp q)
    have q0 : ¬ x.toInt = 0 := key 0 h0
    have q1 : ¬ x.toInt = 1 := key 1 h1
    have q2 : ¬ x.toInt = 2 := key 2 h2
    have q3 : ¬ x.toInt = 3 := key 3 h3
    have q4 : ¬ x.toInt = 4 := key 4 h4
    have q5 : ¬ x.toInt = 5 := key 5 h5
    have q6 : ¬ x.toInt = 6 := key 6 h6
    have q7 : ¬ x.toInt = 7 := key 7 h7
    have q8 : ¬ x.toInt = 8 := key 8 h8
    have q9 : ¬ x.toInt = 9 := key 9 h9
    have q10 : ¬ x.toInt = 10 := key 10 h10
    have q11 : ¬ x.toInt = 11 := key 11 h11
    have q12 : ¬ x.toInt = 12 := key 12 h12
    have q13 : ¬ x.toInt = 13 := key 13 h13
    have q14 : ¬ x.toInt = 14 := key 14 h14
    have q15 : ¬ x.toInt = 15 := key 15 h15
    omega
theorem ga_out16 {x : Int32} (h0 : ¬ x = 0) (h1 : ¬ x = 1) (h2 : ¬ x = 2) (h3 : ¬ x = 3) (h4 : ¬ x = 4) (h5 : ¬ x = 5) (h6 : ¬ x = 6) (h7 : ¬ x = 7) (h8 : ¬ x = 8) (h9 : ¬ x = 9) (h10 : ¬ x = 10) (h11 : ¬ x = 11) (h12 : ¬ x = 12) (h13 : ¬ x = 13) (h14 : ¬ x = 14) (h15 : ¬ x = 15) (h16 : ¬ x = 16) : x.toInt < 0 ∨ 16 < x.toInt := by
  by_cases h : x.toInt < 0
  · exact Or.inl h
  · right
    refine Int.not_le.mp (fun hle => ?_)
    have key : ∀ k : Int32, ¬ x = k → ¬ x.toInt = k.toInt := fun k hk q => hk (Int32.toInt_inj.mp q)
    have q0 : ¬ x.toInt = 0 := key 0 h0
    have q1 : ¬ x.toInt = 1 := key 1 h1
    have q2 : ¬ x.toInt = 2 := key 2 h2
    have q3 : ¬ x.toInt = 3 := key 3 h3
    have q4 : ¬ x.toInt = 4 := key 4 h4
    have q5 : ¬ x.toInt = 5 := key 5 h5
    have q6 : ¬ x.toInt = 6 := key 6 h6
    have q7 : ¬ x.toInt = 7 := key 7 h7
    have q8 : ¬ x.toInt = 8 := key 8 h8
    have q9 : ¬ x.toInt = 9 := key 9 h9
    have q10 : ¬ x.toInt = 10 := key 10 h10
    have q11 : ¬ x.toInt = 11 := key 11 h11
    have q12 : ¬ x.toInt = 12 := key 12 h12
    have q13 : ¬ x.toInt = 13 := key 13 h13
    have q14 : ¬ x.toInt = 14 := key 14 h14
    have q15 : ¬ x.toInt = 15 := key 15 h15
    have q16 : ¬ x.toInt = 16 := key 16 h16
    omega
end
