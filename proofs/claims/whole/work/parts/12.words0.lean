/-! WORDS: where each stands in the tables -/
theorem gl_0 : Cond.selects "LevelStore$Levels" (⟨"LevelStore$Levels", "changeShelf", "()V"⟩ : MethodName) (⟨"LevelStore$Levels", "changeShelf", "()V"⟩ : MethodName) ∈ lw_tbl := List.mem_of_getElem? (i := 0) (by decide +kernel)
theorem gw_0 : Cond.selects "LevelStore$Levels" (⟨"LevelStore$Levels", "changeShelf", "()V"⟩ : MethodName) (⟨"LevelStore$Levels", "changeShelf", "()V"⟩ : MethodName) ∈ ga_G := List.mem_filter.mpr ⟨gl_0, rfl⟩
theorem gl_1 : Cond.selects "LevelStore" (⟨"LevelStore", "oldest", "()I"⟩ : MethodName) (⟨"LevelStore", "oldest", "()I"⟩ : MethodName) ∈ lw_tbl := List.mem_of_getElem? (i := 1) (by decide +kernel)
theorem gw_1 : Cond.selects "LevelStore" (⟨"LevelStore", "oldest", "()I"⟩ : MethodName) (⟨"LevelStore", "oldest", "()I"⟩ : MethodName) ∈ ga_G := List.mem_filter.mpr ⟨gl_1, rfl⟩
theorem gl_2 : Cond.selects "LevelStore$Levels" (⟨"LevelStore$Levels", "fullLevel", "()I"⟩ : MethodName) (⟨"LevelStore$Levels", "fullLevel", "()I"⟩ : MethodName) ∈ lw_tbl := List.mem_of_getElem? (i := 2) (by decide +kernel)
theorem gw_2 : Cond.selects "LevelStore$Levels" (⟨"LevelStore$Levels", "fullLevel", "()I"⟩ : MethodName) (⟨"LevelStore$Levels", "fullLevel", "()I"⟩ : MethodName) ∈ ga_G := List.mem_filter.mpr ⟨gl_2, rfl⟩
theorem gl_3 : Cond.selects "LevelStore$Levels" (⟨"LevelStore$Levels", "merge", "(IIII)V"⟩ : MethodName) (⟨"LevelStore$Levels", "merge", "(IIII)V"⟩ : MethodName) ∈ lw_tbl := List.mem_of_getElem? (i := 3) (by decide +kernel)
theorem gw_3 : Cond.selects "LevelStore$Levels" (⟨"LevelStore$Levels", "merge", "(IIII)V"⟩ : MethodName) (⟨"LevelStore$Levels", "merge", "(IIII)V"⟩ : MethodName) ∈ ga_G := List.mem_filter.mpr ⟨gl_3, rfl⟩
theorem gl_4 : Cond.selects "LevelStore$Levels" (⟨"LevelStore$Levels", "sortJoining", "()V"⟩ : MethodName) (⟨"LevelStore$Levels", "sortJoining", "()V"⟩ : MethodName) ∈ lw_tbl := List.mem_of_getElem? (i := 4) (by decide +kernel)
theorem gw_4 : Cond.selects "LevelStore$Levels" (⟨"LevelStore$Levels", "sortJoining", "()V"⟩ : MethodName) (⟨"LevelStore$Levels", "sortJoining", "()V"⟩ : MethodName) ∈ ga_G := List.mem_filter.mpr ⟨gl_4, rfl⟩
theorem gl_5 : Cond.selects "LevelStore$Levels" (⟨"LevelStore$Levels", "addStaying", "(II)V"⟩ : MethodName) (⟨"LevelStore$Levels", "addStaying", "(II)V"⟩ : MethodName) ∈ lw_tbl := List.mem_of_getElem? (i := 5) (by decide +kernel)
theorem gw_5 : Cond.selects "LevelStore$Levels" (⟨"LevelStore$Levels", "addStaying", "(II)V"⟩ : MethodName) (⟨"LevelStore$Levels", "addStaying", "(II)V"⟩ : MethodName) ∈ ga_G := List.mem_filter.mpr ⟨gl_5, rfl⟩
theorem gl_6 : Cond.selects "LevelStore$Levels" (⟨"LevelStore$Levels", "addMerged", "(II)V"⟩ : MethodName) (⟨"LevelStore$Levels", "addMerged", "(II)V"⟩ : MethodName) ∈ lw_tbl := List.mem_of_getElem? (i := 6) (by decide +kernel)
theorem gw_6 : Cond.selects "LevelStore$Levels" (⟨"LevelStore$Levels", "addMerged", "(II)V"⟩ : MethodName) (⟨"LevelStore$Levels", "addMerged", "(II)V"⟩ : MethodName) ∈ ga_G := List.mem_filter.mpr ⟨gl_6, rfl⟩
theorem gl_7 : Cond.selects "LevelStore$Levels" (⟨"LevelStore$Levels", "isOutdated", "(II)Z"⟩ : MethodName) (⟨"LevelStore$Levels", "isOutdated", "(II)Z"⟩ : MethodName) ∈ lw_tbl := List.mem_of_getElem? (i := 7) (by decide +kernel)
theorem gw_7 : Cond.selects "LevelStore$Levels" (⟨"LevelStore$Levels", "isOutdated", "(II)Z"⟩ : MethodName) (⟨"LevelStore$Levels", "isOutdated", "(II)Z"⟩ : MethodName) ∈ ga_G := List.mem_filter.mpr ⟨gl_7, rfl⟩
theorem gl_8 : Cond.selects "LevelStore$Levels" (⟨"LevelStore$Levels", "isNeedless", "(III)Z"⟩ : MethodName) (⟨"LevelStore$Levels", "isNeedless", "(III)Z"⟩ : MethodName) ∈ lw_tbl := List.mem_of_getElem? (i := 8) (by decide +kernel)
theorem gw_8 : Cond.selects "LevelStore$Levels" (⟨"LevelStore$Levels", "isNeedless", "(III)Z"⟩ : MethodName) (⟨"LevelStore$Levels", "isNeedless", "(III)Z"⟩ : MethodName) ∈ ga_G := List.mem_filter.mpr ⟨gl_8, rfl⟩
theorem gl_9 : Cond.selects "LevelStore$Levels" (⟨"LevelStore$Levels", "endNewTable", "(I)V"⟩ : MethodName) (⟨"LevelStore$Levels", "endNewTable", "(I)V"⟩ : MethodName) ∈ lw_tbl := List.mem_of_getElem? (i := 9) (by decide +kernel)
theorem gw_9 : Cond.selects "LevelStore$Levels" (⟨"LevelStore$Levels", "endNewTable", "(I)V"⟩ : MethodName) (⟨"LevelStore$Levels", "endNewTable", "(I)V"⟩ : MethodName) ∈ ga_G := List.mem_filter.mpr ⟨gl_9, rfl⟩
theorem gl_10 : Cond.selects "LevelStore" (⟨"LevelStore", "addToPending", "(IIZ)V"⟩ : MethodName) (⟨"LevelStore", "addToPending", "(IIZ)V"⟩ : MethodName) ∈ lw_tbl := List.mem_of_getElem? (i := 10) (by decide +kernel)
theorem gw_10 : Cond.selects "LevelStore" (⟨"LevelStore", "addToPending", "(IIZ)V"⟩ : MethodName) (⟨"LevelStore", "addToPending", "(IIZ)V"⟩ : MethodName) ∈ ga_G := List.mem_filter.mpr ⟨gl_10, rfl⟩
theorem gl_12 : Cond.selects "LevelStore" (⟨"LevelStore", "write", "()I"⟩ : MethodName) (⟨"LevelStore", "write", "()I"⟩ : MethodName) ∈ lw_tbl := List.mem_of_getElem? (i := 12) (by decide +kernel)
theorem gw_12 : Cond.selects "LevelStore" (⟨"LevelStore", "write", "()I"⟩ : MethodName) (⟨"LevelStore", "write", "()I"⟩ : MethodName) ∈ ga_G := List.mem_filter.mpr ⟨gl_12, rfl⟩
theorem gl_13 : Cond.selects "LevelStore" (⟨"LevelStore", "moveMemoryToLevel0", "()V"⟩ : MethodName) (⟨"LevelStore", "moveMemoryToLevel0", "()V"⟩ : MethodName) ∈ lw_tbl := List.mem_of_getElem? (i := 13) (by decide +kernel)
theorem gw_13 : Cond.selects "LevelStore" (⟨"LevelStore", "moveMemoryToLevel0", "()V"⟩ : MethodName) (⟨"LevelStore", "moveMemoryToLevel0", "()V"⟩ : MethodName) ∈ ga_G := List.mem_filter.mpr ⟨gl_13, rfl⟩
theorem gl_14 : Cond.selects "LevelStore" (⟨"LevelStore", "numberSeenBy", "(I)I"⟩ : MethodName) (⟨"LevelStore", "numberSeenBy", "(I)I"⟩ : MethodName) ∈ lw_tbl := List.mem_of_getElem? (i := 14) (by decide +kernel)
theorem gw_14 : Cond.selects "LevelStore" (⟨"LevelStore", "numberSeenBy", "(I)I"⟩ : MethodName) (⟨"LevelStore", "numberSeenBy", "(I)I"⟩ : MethodName) ∈ ga_G := List.mem_filter.mpr ⟨gl_14, rfl⟩
theorem gl_15 : Cond.selects "LevelStore" (⟨"LevelStore", "lookInTables", "(II)I"⟩ : MethodName) (⟨"LevelStore", "lookInTables", "(II)I"⟩ : MethodName) ∈ lw_tbl := List.mem_of_getElem? (i := 15) (by decide +kernel)
theorem gw_15 : Cond.selects "LevelStore" (⟨"LevelStore", "lookInTables", "(II)I"⟩ : MethodName) (⟨"LevelStore", "lookInTables", "(II)I"⟩ : MethodName) ∈ ga_G := List.mem_filter.mpr ⟨gl_15, rfl⟩
theorem gl_16 : Cond.selects "LevelStore" (⟨"LevelStore", "lookInTable", "(III)I"⟩ : MethodName) (⟨"LevelStore", "lookInTable", "(III)I"⟩ : MethodName) ∈ lw_tbl := List.mem_of_getElem? (i := 16) (by decide +kernel)
theorem gw_16 : Cond.selects "LevelStore" (⟨"LevelStore", "lookInTable", "(III)I"⟩ : MethodName) (⟨"LevelStore", "lookInTable", "(III)I"⟩ : MethodName) ∈ ga_G := List.mem_filter.mpr ⟨gl_16, rfl⟩
theorem gl_17 : Cond.selects "LevelStore" (⟨"LevelStore", "hasValue", "(II)Z"⟩ : MethodName) (⟨"LevelStore", "hasValue", "(II)Z"⟩ : MethodName) ∈ lw_tbl := List.mem_of_getElem? (i := 17) (by decide +kernel)
theorem gw_17 : Cond.selects "LevelStore" (⟨"LevelStore", "hasValue", "(II)Z"⟩ : MethodName) (⟨"LevelStore", "hasValue", "(II)Z"⟩ : MethodName) ∈ ga_G := List.mem_filter.mpr ⟨gl_17, rfl⟩
theorem gl_18 : Cond.selects "LevelStoreModel" (⟨"LevelStoreModel", "write", "(IIZ)I"⟩ : MethodName) (⟨"LevelStoreModel", "write", "(IIZ)I"⟩ : MethodName) ∈ lw_tbl := List.mem_of_getElem? (i := 18) (by decide +kernel)
theorem gw_18 : Cond.selects "LevelStoreModel" (⟨"LevelStoreModel", "write", "(IIZ)I"⟩ : MethodName) (⟨"LevelStoreModel", "write", "(IIZ)I"⟩ : MethodName) ∈ ga_G := List.mem_filter.mpr ⟨gl_18, rfl⟩
theorem gl_19 : Cond.selects "LevelStoreModel" (⟨"LevelStoreModel", "raise", "(I)I"⟩ : MethodName) (⟨"LevelStoreModel", "raise", "(I)I"⟩ : MethodName) ∈ lw_tbl := List.mem_of_getElem? (i := 19) (by decide +kernel)
theorem gw_19 : Cond.selects "LevelStoreModel" (⟨"LevelStoreModel", "raise", "(I)I"⟩ : MethodName) (⟨"LevelStoreModel", "raise", "(I)I"⟩ : MethodName) ∈ ga_G := List.mem_filter.mpr ⟨gl_19, rfl⟩
theorem gl_20 : Cond.selects "LevelStoreModel" (⟨"LevelStoreModel", "full", "(I)Z"⟩ : MethodName) (⟨"LevelStoreModel", "full", "(I)Z"⟩ : MethodName) ∈ lw_tbl := List.mem_of_getElem? (i := 20) (by decide +kernel)
theorem gw_20 : Cond.selects "LevelStoreModel" (⟨"LevelStoreModel", "full", "(I)Z"⟩ : MethodName) (⟨"LevelStoreModel", "full", "(I)Z"⟩ : MethodName) ∈ ga_G := List.mem_filter.mpr ⟨gl_20, rfl⟩
theorem gl_21 : Cond.selects "LevelStoreModel" (⟨"LevelStoreModel", "onLevel", "(I)I"⟩ : MethodName) (⟨"LevelStoreModel", "onLevel", "(I)I"⟩ : MethodName) ∈ lw_tbl := List.mem_of_getElem? (i := 21) (by decide +kernel)
theorem gw_21 : Cond.selects "LevelStoreModel" (⟨"LevelStoreModel", "onLevel", "(I)I"⟩ : MethodName) (⟨"LevelStoreModel", "onLevel", "(I)I"⟩ : MethodName) ∈ ga_G := List.mem_filter.mpr ⟨gl_21, rfl⟩
theorem gl_22 : Cond.selects "LevelStoreModel" (⟨"LevelStoreModel", "remember", "(IIZ)V"⟩ : MethodName) (⟨"LevelStoreModel", "remember", "(IIZ)V"⟩ : MethodName) ∈ lw_tbl := List.mem_of_getElem? (i := 22) (by decide +kernel)
theorem gw_22 : Cond.selects "LevelStoreModel" (⟨"LevelStoreModel", "remember", "(IIZ)V"⟩ : MethodName) (⟨"LevelStoreModel", "remember", "(IIZ)V"⟩ : MethodName) ∈ ga_G := List.mem_filter.mpr ⟨gl_22, rfl⟩
theorem gl_23 : Cond.selects "LevelStoreModel" (⟨"LevelStoreModel", "logged", "(I)V"⟩ : MethodName) (⟨"LevelStoreModel", "logged", "(I)V"⟩ : MethodName) ∈ lw_tbl := List.mem_of_getElem? (i := 23) (by decide +kernel)
theorem gw_23 : Cond.selects "LevelStoreModel" (⟨"LevelStoreModel", "logged", "(I)V"⟩ : MethodName) (⟨"LevelStoreModel", "logged", "(I)V"⟩ : MethodName) ∈ ga_G := List.mem_filter.mpr ⟨gl_23, rfl⟩
theorem gl_24 : Cond.selects "LevelStoreModel" (⟨"LevelStoreModel", "flushAll", "()V"⟩ : MethodName) (⟨"LevelStoreModel", "flushAll", "()V"⟩ : MethodName) ∈ lw_tbl := List.mem_of_getElem? (i := 24) (by decide +kernel)
theorem gw_24 : Cond.selects "LevelStoreModel" (⟨"LevelStoreModel", "flushAll", "()V"⟩ : MethodName) (⟨"LevelStoreModel", "flushAll", "()V"⟩ : MethodName) ∈ ga_G := List.mem_filter.mpr ⟨gl_24, rfl⟩
theorem gl_25 : Cond.selects "LevelStoreModel" (⟨"LevelStoreModel", "enter", "(IIIZ)V"⟩ : MethodName) (⟨"LevelStoreModel", "enter", "(IIIZ)V"⟩ : MethodName) ∈ lw_tbl := List.mem_of_getElem? (i := 25) (by decide +kernel)
theorem gw_25 : Cond.selects "LevelStoreModel" (⟨"LevelStoreModel", "enter", "(IIIZ)V"⟩ : MethodName) (⟨"LevelStoreModel", "enter", "(IIIZ)V"⟩ : MethodName) ∈ ga_G := List.mem_filter.mpr ⟨gl_25, rfl⟩
theorem gl_26 : Cond.selects "LevelStoreModel" (⟨"LevelStoreModel", "copyWork", "(II)V"⟩ : MethodName) (⟨"LevelStoreModel", "copyWork", "(II)V"⟩ : MethodName) ∈ lw_tbl := List.mem_of_getElem? (i := 26) (by decide +kernel)
theorem gw_26 : Cond.selects "LevelStoreModel" (⟨"LevelStoreModel", "copyWork", "(II)V"⟩ : MethodName) (⟨"LevelStoreModel", "copyWork", "(II)V"⟩ : MethodName) ∈ ga_G := List.mem_filter.mpr ⟨gl_26, rfl⟩
theorem gl_27 : Cond.selects "LevelStoreModel" (⟨"LevelStoreModel", "insert", "(IIII)V"⟩ : MethodName) (⟨"LevelStoreModel", "insert", "(IIII)V"⟩ : MethodName) ∈ lw_tbl := List.mem_of_getElem? (i := 27) (by decide +kernel)
theorem gw_27 : Cond.selects "LevelStoreModel" (⟨"LevelStoreModel", "insert", "(IIII)V"⟩ : MethodName) (⟨"LevelStoreModel", "insert", "(IIII)V"⟩ : MethodName) ∈ ga_G := List.mem_filter.mpr ⟨gl_27, rfl⟩
theorem gl_28 : Cond.selects "LevelStoreModel" (⟨"LevelStoreModel", "start", "(I)I"⟩ : MethodName) (⟨"LevelStoreModel", "start", "(I)I"⟩ : MethodName) ∈ lw_tbl := List.mem_of_getElem? (i := 28) (by decide +kernel)
theorem gw_28 : Cond.selects "LevelStoreModel" (⟨"LevelStoreModel", "start", "(I)I"⟩ : MethodName) (⟨"LevelStoreModel", "start", "(I)I"⟩ : MethodName) ∈ ga_G := List.mem_filter.mpr ⟨gl_28, rfl⟩
theorem gl_29 : Cond.selects "LevelStoreModel" (⟨"LevelStoreModel", "moveEntry", "(II)V"⟩ : MethodName) (⟨"LevelStoreModel", "moveEntry", "(II)V"⟩ : MethodName) ∈ lw_tbl := List.mem_of_getElem? (i := 29) (by decide +kernel)
theorem gw_29 : Cond.selects "LevelStoreModel" (⟨"LevelStoreModel", "moveEntry", "(II)V"⟩ : MethodName) (⟨"LevelStoreModel", "moveEntry", "(II)V"⟩ : MethodName) ∈ ga_G := List.mem_filter.mpr ⟨gl_29, rfl⟩
theorem gl_30 : Cond.selects "LevelStoreModel" (⟨"LevelStoreModel", "moveTable", "(II)V"⟩ : MethodName) (⟨"LevelStoreModel", "moveTable", "(II)V"⟩ : MethodName) ∈ lw_tbl := List.mem_of_getElem? (i := 30) (by decide +kernel)
theorem gw_30 : Cond.selects "LevelStoreModel" (⟨"LevelStoreModel", "moveTable", "(II)V"⟩ : MethodName) (⟨"LevelStoreModel", "moveTable", "(II)V"⟩ : MethodName) ∈ ga_G := List.mem_filter.mpr ⟨gl_30, rfl⟩
theorem gl_31 : Cond.selects "LevelStoreModel" (⟨"LevelStoreModel", "tidy", "()V"⟩ : MethodName) (⟨"LevelStoreModel", "tidy", "()V"⟩ : MethodName) ∈ lw_tbl := List.mem_of_getElem? (i := 31) (by decide +kernel)
theorem gw_31 : Cond.selects "LevelStoreModel" (⟨"LevelStoreModel", "tidy", "()V"⟩ : MethodName) (⟨"LevelStoreModel", "tidy", "()V"⟩ : MethodName) ∈ ga_G := List.mem_filter.mpr ⟨gl_31, rfl⟩
theorem gl_32 : Cond.selects "LevelStoreModel" (⟨"LevelStoreModel", "merge", "(I)Z"⟩ : MethodName) (⟨"LevelStoreModel", "merge", "(I)Z"⟩ : MethodName) ∈ lw_tbl := List.mem_of_getElem? (i := 32) (by decide +kernel)
theorem gw_32 : Cond.selects "LevelStoreModel" (⟨"LevelStoreModel", "merge", "(I)Z"⟩ : MethodName) (⟨"LevelStoreModel", "merge", "(I)Z"⟩ : MethodName) ∈ ga_G := List.mem_filter.mpr ⟨gl_32, rfl⟩
theorem gl_33 : Cond.selects "LevelStoreModel" (⟨"LevelStoreModel", "low", "(I)I"⟩ : MethodName) (⟨"LevelStoreModel", "low", "(I)I"⟩ : MethodName) ∈ lw_tbl := List.mem_of_getElem? (i := 33) (by decide +kernel)
theorem gw_33 : Cond.selects "LevelStoreModel" (⟨"LevelStoreModel", "low", "(I)I"⟩ : MethodName) (⟨"LevelStoreModel", "low", "(I)I"⟩ : MethodName) ∈ ga_G := List.mem_filter.mpr ⟨gl_33, rfl⟩
theorem gl_34 : Cond.selects "LevelStoreModel" (⟨"LevelStoreModel", "high", "(I)I"⟩ : MethodName) (⟨"LevelStoreModel", "high", "(I)I"⟩ : MethodName) ∈ lw_tbl := List.mem_of_getElem? (i := 34) (by decide +kernel)
theorem gw_34 : Cond.selects "LevelStoreModel" (⟨"LevelStoreModel", "high", "(I)I"⟩ : MethodName) (⟨"LevelStoreModel", "high", "(I)I"⟩ : MethodName) ∈ ga_G := List.mem_filter.mpr ⟨gl_34, rfl⟩
theorem gl_35 : Cond.selects "LevelStoreModel" (⟨"LevelStoreModel", "dropAll", "(I)V"⟩ : MethodName) (⟨"LevelStoreModel", "dropAll", "(I)V"⟩ : MethodName) ∈ lw_tbl := List.mem_of_getElem? (i := 35) (by decide +kernel)
theorem gw_35 : Cond.selects "LevelStoreModel" (⟨"LevelStoreModel", "dropAll", "(I)V"⟩ : MethodName) (⟨"LevelStoreModel", "dropAll", "(I)V"⟩ : MethodName) ∈ ga_G := List.mem_filter.mpr ⟨gl_35, rfl⟩
theorem gl_36 : Cond.selects "LevelStoreModel" (⟨"LevelStoreModel", "oldest", "()I"⟩ : MethodName) (⟨"LevelStoreModel", "oldest", "()I"⟩ : MethodName) ∈ lw_tbl := List.mem_of_getElem? (i := 36) (by decide +kernel)
theorem gw_36 : Cond.selects "LevelStoreModel" (⟨"LevelStoreModel", "oldest", "()I"⟩ : MethodName) (⟨"LevelStoreModel", "oldest", "()I"⟩ : MethodName) ∈ ga_G := List.mem_filter.mpr ⟨gl_36, rfl⟩
theorem gl_37 : Cond.selects "LevelStoreModel" (⟨"LevelStoreModel", "deeper", "(II)Z"⟩ : MethodName) (⟨"LevelStoreModel", "deeper", "(II)Z"⟩ : MethodName) ∈ lw_tbl := List.mem_of_getElem? (i := 37) (by decide +kernel)
theorem gw_37 : Cond.selects "LevelStoreModel" (⟨"LevelStoreModel", "deeper", "(II)Z"⟩ : MethodName) (⟨"LevelStoreModel", "deeper", "(II)Z"⟩ : MethodName) ∈ ga_G := List.mem_filter.mpr ⟨gl_37, rfl⟩
theorem gl_38 : Cond.selects "LevelStoreModel" (⟨"LevelStoreModel", "takeOut", "(I)V"⟩ : MethodName) (⟨"LevelStoreModel", "takeOut", "(I)V"⟩ : MethodName) ∈ lw_tbl := List.mem_of_getElem? (i := 38) (by decide +kernel)
theorem gw_38 : Cond.selects "LevelStoreModel" (⟨"LevelStoreModel", "takeOut", "(I)V"⟩ : MethodName) (⟨"LevelStoreModel", "takeOut", "(I)V"⟩ : MethodName) ∈ ga_G := List.mem_filter.mpr ⟨gl_38, rfl⟩
theorem gl_39 : Cond.selects "LevelStoreModel" (⟨"LevelStoreModel", "place", "(I)V"⟩ : MethodName) (⟨"LevelStoreModel", "place", "(I)V"⟩ : MethodName) ∈ lw_tbl := List.mem_of_getElem? (i := 39) (by decide +kernel)
theorem gw_39 : Cond.selects "LevelStoreModel" (⟨"LevelStoreModel", "place", "(I)V"⟩ : MethodName) (⟨"LevelStoreModel", "place", "(I)V"⟩ : MethodName) ∈ ga_G := List.mem_filter.mpr ⟨gl_39, rfl⟩
theorem gl_40 : Cond.selects "LevelStoreModel" (⟨"LevelStoreModel", "pick", "(I)I"⟩ : MethodName) (⟨"LevelStoreModel", "pick", "(I)I"⟩ : MethodName) ∈ lw_tbl := List.mem_of_getElem? (i := 40) (by decide +kernel)
theorem gw_40 : Cond.selects "LevelStoreModel" (⟨"LevelStoreModel", "pick", "(I)I"⟩ : MethodName) (⟨"LevelStoreModel", "pick", "(I)I"⟩ : MethodName) ∈ ga_G := List.mem_filter.mpr ⟨gl_40, rfl⟩
theorem gl_41 : Cond.selects "LevelStoreModel" (⟨"LevelStoreModel", "upTo", "(I)I"⟩ : MethodName) (⟨"LevelStoreModel", "upTo", "(I)I"⟩ : MethodName) ∈ lw_tbl := List.mem_of_getElem? (i := 41) (by decide +kernel)
theorem gw_41 : Cond.selects "LevelStoreModel" (⟨"LevelStoreModel", "upTo", "(I)I"⟩ : MethodName) (⟨"LevelStoreModel", "upTo", "(I)I"⟩ : MethodName) ∈ ga_G := List.mem_filter.mpr ⟨gl_41, rfl⟩
theorem gl_42 : Cond.selects "LevelStoreModel" (⟨"LevelStoreModel", "look", "(II)V"⟩ : MethodName) (⟨"LevelStoreModel", "look", "(II)V"⟩ : MethodName) ∈ lw_tbl := List.mem_of_getElem? (i := 42) (by decide +kernel)
theorem gw_42 : Cond.selects "LevelStoreModel" (⟨"LevelStoreModel", "look", "(II)V"⟩ : MethodName) (⟨"LevelStoreModel", "look", "(II)V"⟩ : MethodName) ∈ ga_G := List.mem_filter.mpr ⟨gl_42, rfl⟩
theorem gl_43 : Cond.selects "LevelStoreModel" (⟨"LevelStoreModel", "lookInMemory", "(II)V"⟩ : MethodName) (⟨"LevelStoreModel", "lookInMemory", "(II)V"⟩ : MethodName) ∈ lw_tbl := List.mem_of_getElem? (i := 43) (by decide +kernel)
theorem gw_43 : Cond.selects "LevelStoreModel" (⟨"LevelStoreModel", "lookInMemory", "(II)V"⟩ : MethodName) (⟨"LevelStoreModel", "lookInMemory", "(II)V"⟩ : MethodName) ∈ ga_G := List.mem_filter.mpr ⟨gl_43, rfl⟩
theorem gl_44 : Cond.selects "LevelStoreModel" (⟨"LevelStoreModel", "passes", "(II)Z"⟩ : MethodName) (⟨"LevelStoreModel", "passes", "(II)Z"⟩ : MethodName) ∈ lw_tbl := List.mem_of_getElem? (i := 44) (by decide +kernel)
theorem gw_44 : Cond.selects "LevelStoreModel" (⟨"LevelStoreModel", "passes", "(II)Z"⟩ : MethodName) (⟨"LevelStoreModel", "passes", "(II)Z"⟩ : MethodName) ∈ ga_G := List.mem_filter.mpr ⟨gl_44, rfl⟩
theorem gl_45 : Cond.selects "LevelStoreModel" (⟨"LevelStoreModel", "readBlocks", "(III)I"⟩ : MethodName) (⟨"LevelStoreModel", "readBlocks", "(III)I"⟩ : MethodName) ∈ lw_tbl := List.mem_of_getElem? (i := 45) (by decide +kernel)
theorem gw_45 : Cond.selects "LevelStoreModel" (⟨"LevelStoreModel", "readBlocks", "(III)I"⟩ : MethodName) (⟨"LevelStoreModel", "readBlocks", "(III)I"⟩ : MethodName) ∈ ga_G := List.mem_filter.mpr ⟨gl_45, rfl⟩
theorem gl_46 : Cond.selects "LevelStoreModel" (⟨"LevelStoreModel", "foundGone", "()Z"⟩ : MethodName) (⟨"LevelStoreModel", "foundGone", "()Z"⟩ : MethodName) ∈ lw_tbl := List.mem_of_getElem? (i := 46) (by decide +kernel)
theorem gw_46 : Cond.selects "LevelStoreModel" (⟨"LevelStoreModel", "foundGone", "()Z"⟩ : MethodName) (⟨"LevelStoreModel", "foundGone", "()Z"⟩ : MethodName) ∈ ga_G := List.mem_filter.mpr ⟨gl_46, rfl⟩
theorem gl_47 : Cond.selects "LevelStoreModel" (⟨"LevelStoreModel", "lookThrough", "(II)V"⟩ : MethodName) (⟨"LevelStoreModel", "lookThrough", "(II)V"⟩ : MethodName) ∈ lw_tbl := List.mem_of_getElem? (i := 47) (by decide +kernel)
theorem gw_47 : Cond.selects "LevelStoreModel" (⟨"LevelStoreModel", "lookThrough", "(II)V"⟩ : MethodName) (⟨"LevelStoreModel", "lookThrough", "(II)V"⟩ : MethodName) ∈ ga_G := List.mem_filter.mpr ⟨gl_47, rfl⟩
theorem gl_48 : Cond.selects "LevelStoreModel" (⟨"LevelStoreModel", "blockSize", "(II)I"⟩ : MethodName) (⟨"LevelStoreModel", "blockSize", "(II)I"⟩ : MethodName) ∈ lw_tbl := List.mem_of_getElem? (i := 48) (by decide +kernel)
theorem gw_48 : Cond.selects "LevelStoreModel" (⟨"LevelStoreModel", "blockSize", "(II)I"⟩ : MethodName) (⟨"LevelStoreModel", "blockSize", "(II)I"⟩ : MethodName) ∈ ga_G := List.mem_filter.mpr ⟨gl_48, rfl⟩
theorem gl_49 : Cond.selects "LevelStoreModel" (⟨"LevelStoreModel", "lose", "(I)I"⟩ : MethodName) (⟨"LevelStoreModel", "lose", "(I)I"⟩ : MethodName) ∈ lw_tbl := List.mem_of_getElem? (i := 49) (by decide +kernel)
theorem gw_49 : Cond.selects "LevelStoreModel" (⟨"LevelStoreModel", "lose", "(I)I"⟩ : MethodName) (⟨"LevelStoreModel", "lose", "(I)I"⟩ : MethodName) ∈ ga_G := List.mem_filter.mpr ⟨gl_49, rfl⟩
theorem gl_51 : Cond.initialized "LevelStore" ∈ lw_tbl := List.mem_of_getElem? (i := 51) (by decide +kernel)
theorem gw_51 : Cond.initialized "LevelStore" ∈ ga_G := List.mem_filter.mpr ⟨gl_51, rfl⟩
theorem gl_52 : Cond.initialized "LevelStore$Memory" ∈ lw_tbl := List.mem_of_getElem? (i := 52) (by decide +kernel)
theorem gw_52 : Cond.initialized "LevelStore$Memory" ∈ ga_G := List.mem_filter.mpr ⟨gl_52, rfl⟩
theorem gl_53 : Cond.initialized "LevelStore$Entries" ∈ lw_tbl := List.mem_of_getElem? (i := 53) (by decide +kernel)
theorem gw_53 : Cond.initialized "LevelStore$Entries" ∈ ga_G := List.mem_filter.mpr ⟨gl_53, rfl⟩
theorem gl_54 : Cond.initialized "LevelStore$Levels" ∈ lw_tbl := List.mem_of_getElem? (i := 54) (by decide +kernel)
theorem gw_54 : Cond.initialized "LevelStore$Levels" ∈ ga_G := List.mem_filter.mpr ⟨gl_54, rfl⟩
theorem gl_55 : Cond.initialized "LevelStore$Shelf" ∈ lw_tbl := List.mem_of_getElem? (i := 55) (by decide +kernel)
theorem gw_55 : Cond.initialized "LevelStore$Shelf" ∈ ga_G := List.mem_filter.mpr ⟨gl_55, rfl⟩
theorem gl_56 : Cond.initialized "LevelStore$Sorter" ∈ lw_tbl := List.mem_of_getElem? (i := 56) (by decide +kernel)
theorem gw_56 : Cond.initialized "LevelStore$Sorter" ∈ ga_G := List.mem_filter.mpr ⟨gl_56, rfl⟩
theorem gl_57 : Cond.initialized "java/util/Arrays" ∈ lw_tbl := List.mem_of_getElem? (i := 57) (by decide +kernel)
theorem gw_57 : Cond.initialized "java/util/Arrays" ∈ ga_G := List.mem_filter.mpr ⟨gl_57, rfl⟩
theorem gl_58 : Cond.initialized "LevelStoreModel" ∈ lw_tbl := List.mem_of_getElem? (i := 58) (by decide +kernel)
theorem gw_58 : Cond.initialized "LevelStoreModel" ∈ ga_G := List.mem_filter.mpr ⟨gl_58, rfl⟩
theorem gl_62 : Cond.initialized "java/lang/IllegalArgumentException" ∈ lw_tbl := List.mem_of_getElem? (i := 62) (by decide +kernel)
theorem gw_62 : Cond.initialized "java/lang/IllegalArgumentException" ∈ ga_G := List.mem_filter.mpr ⟨gl_62, rfl⟩
theorem gl_63 : Cond.initialized "java/lang/UnsupportedOperationException" ∈ lw_tbl := List.mem_of_getElem? (i := 63) (by decide +kernel)
theorem gw_63 : Cond.initialized "java/lang/UnsupportedOperationException" ∈ ga_G := List.mem_filter.mpr ⟨gl_63, rfl⟩
theorem gl_64 : Cond.initialized "java/lang/IllegalStateException" ∈ lw_tbl := List.mem_of_getElem? (i := 64) (by decide +kernel)
theorem gw_64 : Cond.initialized "java/lang/IllegalStateException" ∈ ga_G := List.mem_filter.mpr ⟨gl_64, rfl⟩
theorem gl_65 : Cond.initialized "java/lang/Math" ∈ lw_tbl := List.mem_of_getElem? (i := 65) (by decide +kernel)
theorem gw_65 : Cond.initialized "java/lang/Math" ∈ ga_G := List.mem_filter.mpr ⟨gl_65, rfl⟩
theorem gl_66 : Cond.initialized "java/util/NoSuchElementException" ∈ lw_tbl := List.mem_of_getElem? (i := 66) (by decide +kernel)
theorem gw_66 : Cond.initialized "java/util/NoSuchElementException" ∈ ga_G := List.mem_filter.mpr ⟨gl_66, rfl⟩
theorem gl_67 : Cond.initialized "java/lang/IndexOutOfBoundsException" ∈ lw_tbl := List.mem_of_getElem? (i := 67) (by decide +kernel)
theorem gw_67 : Cond.initialized "java/lang/IndexOutOfBoundsException" ∈ ga_G := List.mem_filter.mpr ⟨gl_67, rfl⟩
theorem gl_68 : Cond.initialized "java/lang/ArithmeticException" ∈ lw_tbl := List.mem_of_getElem? (i := 68) (by decide +kernel)
theorem gw_68 : Cond.initialized "java/lang/ArithmeticException" ∈ ga_G := List.mem_filter.mpr ⟨gl_68, rfl⟩
theorem gl_74 : Cond.methodLink "LevelStore" 1 (⟨"java/lang/Object", "<init>", "()V"⟩ : MethodName) ∈ lw_tbl := List.mem_of_getElem? (i := 74) (by decide +kernel)
theorem gw_74 : Cond.methodLink "LevelStore" 1 (⟨"java/lang/Object", "<init>", "()V"⟩ : MethodName) ∈ ga_G := List.mem_filter.mpr ⟨gl_74, rfl⟩
theorem gl_75 : Cond.instanceMethod (⟨"java/lang/Object", "<init>", "()V"⟩ : MethodName) ∈ lw_tbl := List.mem_of_getElem? (i := 75) (by decide +kernel)
theorem gw_75 : Cond.instanceMethod (⟨"java/lang/Object", "<init>", "()V"⟩ : MethodName) ∈ ga_G := List.mem_filter.mpr ⟨gl_75, rfl⟩
theorem gl_76 : Cond.code Lib.objectInit ⟨#[0xb1]⟩ 1 none ∈ lw_tbl := List.mem_of_getElem? (i := 76) (by decide +kernel)
theorem gw_76 : Cond.code Lib.objectInit ⟨#[0xb1]⟩ 1 none ∈ ga_G := List.mem_filter.mpr ⟨gl_76, rfl⟩
theorem gl_77 : Cond.classLink "LevelStore" 7 "LevelStore$Memory" ∈ lw_tbl := List.mem_of_getElem? (i := 77) (by decide +kernel)
theorem gw_77 : Cond.classLink "LevelStore" 7 "LevelStore$Memory" ∈ ga_G := List.mem_filter.mpr ⟨gl_77, rfl⟩
theorem gl_78 : Cond.instantiable "LevelStore$Memory" 4 ∈ lw_tbl := List.mem_of_getElem? (i := 78) (by decide +kernel)
theorem gw_78 : Cond.instantiable "LevelStore$Memory" 4 ∈ ga_G := List.mem_filter.mpr ⟨gl_78, rfl⟩
theorem gl_79 : Cond.methodLinkNest "LevelStore" 9 (⟨"LevelStore$Memory", "<init>", "()V"⟩ : MethodName) "LevelStore" ∈ lw_tbl := List.mem_of_getElem? (i := 79) (by decide +kernel)
theorem gl_80 : Cond.instanceMethod (⟨"LevelStore$Memory", "<init>", "()V"⟩ : MethodName) ∈ lw_tbl := List.mem_of_getElem? (i := 80) (by decide +kernel)
theorem gw_80 : Cond.instanceMethod (⟨"LevelStore$Memory", "<init>", "()V"⟩ : MethodName) ∈ ga_G := List.mem_filter.mpr ⟨gl_80, rfl⟩
theorem gl_81 : Cond.code y_M_init c_M_init 1 none ∈ lw_tbl := List.mem_of_getElem? (i := 81) (by decide +kernel)
theorem gw_81 : Cond.code y_M_init c_M_init 1 none ∈ ga_G := List.mem_filter.mpr ⟨gl_81, rfl⟩
theorem gl_82 : Cond.methodLink "LevelStore$Memory" 3 (⟨"java/lang/Object", "<init>", "()V"⟩ : MethodName) ∈ lw_tbl := List.mem_of_getElem? (i := 82) (by decide +kernel)
theorem gw_82 : Cond.methodLink "LevelStore$Memory" 3 (⟨"java/lang/Object", "<init>", "()V"⟩ : MethodName) ∈ ga_G := List.mem_filter.mpr ⟨gl_82, rfl⟩
theorem gl_83 : Cond.classLink "LevelStore$Memory" 9 "LevelStore$Entries" ∈ lw_tbl := List.mem_of_getElem? (i := 83) (by decide +kernel)
theorem gw_83 : Cond.classLink "LevelStore$Memory" 9 "LevelStore$Entries" ∈ ga_G := List.mem_filter.mpr ⟨gl_83, rfl⟩
theorem gl_84 : Cond.instantiable "LevelStore$Entries" 6 ∈ lw_tbl := List.mem_of_getElem? (i := 84) (by decide +kernel)
theorem gw_84 : Cond.instantiable "LevelStore$Entries" 6 ∈ ga_G := List.mem_filter.mpr ⟨gl_84, rfl⟩
theorem gl_85 : Cond.methodLink "LevelStore$Memory" 11 (⟨"LevelStore$Entries", "<init>", "(I)V"⟩ : MethodName) ∈ lw_tbl := List.mem_of_getElem? (i := 85) (by decide +kernel)
theorem gw_85 : Cond.methodLink "LevelStore$Memory" 11 (⟨"LevelStore$Entries", "<init>", "(I)V"⟩ : MethodName) ∈ ga_G := List.mem_filter.mpr ⟨gl_85, rfl⟩
theorem gl_86 : Cond.instanceMethod (⟨"LevelStore$Entries", "<init>", "(I)V"⟩ : MethodName) ∈ lw_tbl := List.mem_of_getElem? (i := 86) (by decide +kernel)
theorem gw_86 : Cond.instanceMethod (⟨"LevelStore$Entries", "<init>", "(I)V"⟩ : MethodName) ∈ ga_G := List.mem_filter.mpr ⟨gl_86, rfl⟩
theorem gl_87 : Cond.code y_E_init c_E_init 2 none ∈ lw_tbl := List.mem_of_getElem? (i := 87) (by decide +kernel)
theorem gw_87 : Cond.code y_E_init c_E_init 2 none ∈ ga_G := List.mem_filter.mpr ⟨gl_87, rfl⟩
theorem gl_88 : Cond.methodLink "LevelStore$Entries" 3 (⟨"java/lang/Object", "<init>", "()V"⟩ : MethodName) ∈ lw_tbl := List.mem_of_getElem? (i := 88) (by decide +kernel)
theorem gw_88 : Cond.methodLink "LevelStore$Entries" 3 (⟨"java/lang/Object", "<init>", "()V"⟩ : MethodName) ∈ ga_G := List.mem_filter.mpr ⟨gl_88, rfl⟩
theorem gl_89 : Cond.fieldLink "LevelStore$Entries" 9 "LevelStore$Entries" "keys" "[I" ∈ lw_tbl := List.mem_of_getElem? (i := 89) (by decide +kernel)
theorem gw_89 : Cond.fieldLink "LevelStore$Entries" 9 "LevelStore$Entries" "keys" "[I" ∈ ga_G := List.mem_filter.mpr ⟨gl_89, rfl⟩
theorem gl_90 : Cond.fieldLink "LevelStore$Memory" 28 "LevelStore$Entries" "keys" "[I" ∈ lw_tbl := List.mem_of_getElem? (i := 90) (by decide +kernel)
theorem gw_90 : Cond.fieldLink "LevelStore$Memory" 28 "LevelStore$Entries" "keys" "[I" ∈ ga_G := List.mem_filter.mpr ⟨gl_90, rfl⟩
theorem gl_91 : Cond.fieldLink "LevelStore$Sorter" 37 "LevelStore$Entries" "keys" "[I" ∈ lw_tbl := List.mem_of_getElem? (i := 91) (by decide +kernel)
theorem gw_91 : Cond.fieldLink "LevelStore$Sorter" 37 "LevelStore$Entries" "keys" "[I" ∈ ga_G := List.mem_filter.mpr ⟨gl_91, rfl⟩
theorem gl_92 : Cond.fieldLink "LevelStore$Shelf" 45 "LevelStore$Entries" "keys" "[I" ∈ lw_tbl := List.mem_of_getElem? (i := 92) (by decide +kernel)
theorem gw_92 : Cond.fieldLink "LevelStore$Shelf" 45 "LevelStore$Entries" "keys" "[I" ∈ ga_G := List.mem_filter.mpr ⟨gl_92, rfl⟩
theorem gl_93 : Cond.fieldLink "LevelStore$Levels" 152 "LevelStore$Entries" "keys" "[I" ∈ lw_tbl := List.mem_of_getElem? (i := 93) (by decide +kernel)
theorem gw_93 : Cond.fieldLink "LevelStore$Levels" 152 "LevelStore$Entries" "keys" "[I" ∈ ga_G := List.mem_filter.mpr ⟨gl_93, rfl⟩
theorem gl_94 : Cond.fieldLink "LevelStore" 246 "LevelStore$Entries" "keys" "[I" ∈ lw_tbl := List.mem_of_getElem? (i := 94) (by decide +kernel)
theorem gw_94 : Cond.fieldLink "LevelStore" 246 "LevelStore$Entries" "keys" "[I" ∈ ga_G := List.mem_filter.mpr ⟨gl_94, rfl⟩
theorem gl_95 : Cond.fieldLink "LevelStore$Entries" 15 "LevelStore$Entries" "numbers" "[I" ∈ lw_tbl := List.mem_of_getElem? (i := 95) (by decide +kernel)
theorem gw_95 : Cond.fieldLink "LevelStore$Entries" 15 "LevelStore$Entries" "numbers" "[I" ∈ ga_G := List.mem_filter.mpr ⟨gl_95, rfl⟩
theorem gl_96 : Cond.fieldLink "LevelStore$Memory" 54 "LevelStore$Entries" "numbers" "[I" ∈ lw_tbl := List.mem_of_getElem? (i := 96) (by decide +kernel)
theorem gw_96 : Cond.fieldLink "LevelStore$Memory" 54 "LevelStore$Entries" "numbers" "[I" ∈ ga_G := List.mem_filter.mpr ⟨gl_96, rfl⟩
theorem gl_97 : Cond.fieldLink "LevelStore$Shelf" 58 "LevelStore$Entries" "numbers" "[I" ∈ lw_tbl := List.mem_of_getElem? (i := 97) (by decide +kernel)
theorem gw_97 : Cond.fieldLink "LevelStore$Shelf" 58 "LevelStore$Entries" "numbers" "[I" ∈ ga_G := List.mem_filter.mpr ⟨gl_97, rfl⟩
theorem gl_98 : Cond.fieldLink "LevelStore$Levels" 165 "LevelStore$Entries" "numbers" "[I" ∈ lw_tbl := List.mem_of_getElem? (i := 98) (by decide +kernel)
theorem gw_98 : Cond.fieldLink "LevelStore$Levels" 165 "LevelStore$Entries" "numbers" "[I" ∈ ga_G := List.mem_filter.mpr ⟨gl_98, rfl⟩
theorem gl_99 : Cond.fieldLink "LevelStore$Entries" 18 "LevelStore$Entries" "values" "[I" ∈ lw_tbl := List.mem_of_getElem? (i := 99) (by decide +kernel)
theorem gw_99 : Cond.fieldLink "LevelStore$Entries" 18 "LevelStore$Entries" "values" "[I" ∈ ga_G := List.mem_filter.mpr ⟨gl_99, rfl⟩
theorem gl_100 : Cond.fieldLink "LevelStore$Memory" 31 "LevelStore$Entries" "values" "[I" ∈ lw_tbl := List.mem_of_getElem? (i := 100) (by decide +kernel)
theorem gw_100 : Cond.fieldLink "LevelStore$Memory" 31 "LevelStore$Entries" "values" "[I" ∈ ga_G := List.mem_filter.mpr ⟨gl_100, rfl⟩
theorem gl_101 : Cond.fieldLink "LevelStore" 221 "LevelStore$Entries" "values" "[I" ∈ lw_tbl := List.mem_of_getElem? (i := 101) (by decide +kernel)
theorem gw_101 : Cond.fieldLink "LevelStore" 221 "LevelStore$Entries" "values" "[I" ∈ ga_G := List.mem_filter.mpr ⟨gl_101, rfl⟩
theorem gl_102 : Cond.fieldLink "LevelStore$Entries" 21 "LevelStore$Entries" "gone" "[Z" ∈ lw_tbl := List.mem_of_getElem? (i := 102) (by decide +kernel)
theorem gw_102 : Cond.fieldLink "LevelStore$Entries" 21 "LevelStore$Entries" "gone" "[Z" ∈ ga_G := List.mem_filter.mpr ⟨gl_102, rfl⟩
theorem gl_103 : Cond.fieldLink "LevelStore$Memory" 34 "LevelStore$Entries" "gone" "[Z" ∈ lw_tbl := List.mem_of_getElem? (i := 103) (by decide +kernel)
theorem gw_103 : Cond.fieldLink "LevelStore$Memory" 34 "LevelStore$Entries" "gone" "[Z" ∈ ga_G := List.mem_filter.mpr ⟨gl_103, rfl⟩
theorem gl_104 : Cond.fieldLink "LevelStore$Levels" 166 "LevelStore$Entries" "gone" "[Z" ∈ lw_tbl := List.mem_of_getElem? (i := 104) (by decide +kernel)
theorem gw_104 : Cond.fieldLink "LevelStore$Levels" 166 "LevelStore$Entries" "gone" "[Z" ∈ ga_G := List.mem_filter.mpr ⟨gl_104, rfl⟩
theorem gl_105 : Cond.fieldLink "LevelStore" 217 "LevelStore$Entries" "gone" "[Z" ∈ lw_tbl := List.mem_of_getElem? (i := 105) (by decide +kernel)
theorem gw_105 : Cond.fieldLink "LevelStore" 217 "LevelStore$Entries" "gone" "[Z" ∈ ga_G := List.mem_filter.mpr ⟨gl_105, rfl⟩
theorem gl_106 : Cond.fieldLink "LevelStore$Entries" 25 "LevelStore$Entries" "spoiled" "[Z" ∈ lw_tbl := List.mem_of_getElem? (i := 106) (by decide +kernel)
theorem gw_106 : Cond.fieldLink "LevelStore$Entries" 25 "LevelStore$Entries" "spoiled" "[Z" ∈ ga_G := List.mem_filter.mpr ⟨gl_106, rfl⟩
theorem gl_107 : Cond.fieldLink "LevelStore$Levels" 90 "LevelStore$Entries" "spoiled" "[Z" ∈ lw_tbl := List.mem_of_getElem? (i := 107) (by decide +kernel)
theorem gw_107 : Cond.fieldLink "LevelStore$Levels" 90 "LevelStore$Entries" "spoiled" "[Z" ∈ ga_G := List.mem_filter.mpr ⟨gl_107, rfl⟩
theorem gl_108 : Cond.fieldLink "LevelStore$Shelf" 59 "LevelStore$Entries" "spoiled" "[Z" ∈ lw_tbl := List.mem_of_getElem? (i := 108) (by decide +kernel)
theorem gw_108 : Cond.fieldLink "LevelStore$Shelf" 59 "LevelStore$Entries" "spoiled" "[Z" ∈ ga_G := List.mem_filter.mpr ⟨gl_108, rfl⟩
theorem gl_109 : Cond.fieldLink "LevelStore" 240 "LevelStore$Entries" "spoiled" "[Z" ∈ lw_tbl := List.mem_of_getElem? (i := 109) (by decide +kernel)
theorem gw_109 : Cond.fieldLink "LevelStore" 240 "LevelStore$Entries" "spoiled" "[Z" ∈ ga_G := List.mem_filter.mpr ⟨gl_109, rfl⟩
theorem gl_110 : Cond.fieldLink "LevelStore$Memory" 24 "LevelStore$Entries" "size" "I" ∈ lw_tbl := List.mem_of_getElem? (i := 110) (by decide +kernel)
theorem gw_110 : Cond.fieldLink "LevelStore$Memory" 24 "LevelStore$Entries" "size" "I" ∈ ga_G := List.mem_filter.mpr ⟨gl_110, rfl⟩
theorem gl_111 : Cond.fieldLink "LevelStore$Entries" 28 "LevelStore$Entries" "size" "I" ∈ lw_tbl := List.mem_of_getElem? (i := 111) (by decide +kernel)
theorem gw_111 : Cond.fieldLink "LevelStore$Entries" 28 "LevelStore$Entries" "size" "I" ∈ ga_G := List.mem_filter.mpr ⟨gl_111, rfl⟩
theorem gl_112 : Cond.fieldLink "LevelStore$Shelf" 30 "LevelStore$Entries" "size" "I" ∈ lw_tbl := List.mem_of_getElem? (i := 112) (by decide +kernel)
theorem gw_112 : Cond.fieldLink "LevelStore$Shelf" 30 "LevelStore$Entries" "size" "I" ∈ ga_G := List.mem_filter.mpr ⟨gl_112, rfl⟩
theorem gl_113 : Cond.fieldLink "LevelStore$Sorter" 33 "LevelStore$Entries" "size" "I" ∈ lw_tbl := List.mem_of_getElem? (i := 113) (by decide +kernel)
theorem gw_113 : Cond.fieldLink "LevelStore$Sorter" 33 "LevelStore$Entries" "size" "I" ∈ ga_G := List.mem_filter.mpr ⟨gl_113, rfl⟩
theorem gl_114 : Cond.fieldLink "LevelStore" 50 "LevelStore$Entries" "size" "I" ∈ lw_tbl := List.mem_of_getElem? (i := 114) (by decide +kernel)
theorem gw_114 : Cond.fieldLink "LevelStore" 50 "LevelStore$Entries" "size" "I" ∈ ga_G := List.mem_filter.mpr ⟨gl_114, rfl⟩
theorem gl_115 : Cond.fieldLink "LevelStore$Levels" 56 "LevelStore$Entries" "size" "I" ∈ lw_tbl := List.mem_of_getElem? (i := 115) (by decide +kernel)
theorem gw_115 : Cond.fieldLink "LevelStore$Levels" 56 "LevelStore$Entries" "size" "I" ∈ ga_G := List.mem_filter.mpr ⟨gl_115, rfl⟩
theorem gl_116 : Cond.laysFinal "LevelStore$Entries" "LevelStore$Entries" "keys" "[I" ∈ lw_tbl := List.mem_of_getElem? (i := 116) (by decide +kernel)
theorem gw_116 : Cond.laysFinal "LevelStore$Entries" "LevelStore$Entries" "keys" "[I" ∈ ga_G := List.mem_filter.mpr ⟨gl_116, rfl⟩
theorem gl_118 : Cond.laysFinal "LevelStore$Entries" "LevelStore$Entries" "numbers" "[I" ∈ lw_tbl := List.mem_of_getElem? (i := 118) (by decide +kernel)
theorem gw_118 : Cond.laysFinal "LevelStore$Entries" "LevelStore$Entries" "numbers" "[I" ∈ ga_G := List.mem_filter.mpr ⟨gl_118, rfl⟩
theorem gl_120 : Cond.laysFinal "LevelStore$Entries" "LevelStore$Entries" "values" "[I" ∈ lw_tbl := List.mem_of_getElem? (i := 120) (by decide +kernel)
theorem gw_120 : Cond.laysFinal "LevelStore$Entries" "LevelStore$Entries" "values" "[I" ∈ ga_G := List.mem_filter.mpr ⟨gl_120, rfl⟩
theorem gl_122 : Cond.laysFinal "LevelStore$Entries" "LevelStore$Entries" "gone" "[Z" ∈ lw_tbl := List.mem_of_getElem? (i := 122) (by decide +kernel)
theorem gw_122 : Cond.laysFinal "LevelStore$Entries" "LevelStore$Entries" "gone" "[Z" ∈ ga_G := List.mem_filter.mpr ⟨gl_122, rfl⟩
theorem gl_124 : Cond.laysFinal "LevelStore$Entries" "LevelStore$Entries" "spoiled" "[Z" ∈ lw_tbl := List.mem_of_getElem? (i := 124) (by decide +kernel)
theorem gw_124 : Cond.laysFinal "LevelStore$Entries" "LevelStore$Entries" "spoiled" "[Z" ∈ ga_G := List.mem_filter.mpr ⟨gl_124, rfl⟩
theorem gl_126 : Cond.lays "LevelStore$Entries" "LevelStore$Entries" "size" "I" ∈ lw_tbl := List.mem_of_getElem? (i := 126) (by decide +kernel)
theorem gw_126 : Cond.lays "LevelStore$Entries" "LevelStore$Entries" "size" "I" ∈ ga_G := List.mem_filter.mpr ⟨gl_126, rfl⟩
theorem gl_129 : Cond.arrayClass .int ∈ lw_tbl := List.mem_of_getElem? (i := 129) (by decide +kernel)
theorem gw_129 : Cond.arrayClass .int ∈ ga_G := List.mem_filter.mpr ⟨gl_129, rfl⟩
theorem gl_130 : Cond.arrayClass .boolean ∈ lw_tbl := List.mem_of_getElem? (i := 130) (by decide +kernel)
theorem gw_130 : Cond.arrayClass .boolean ∈ ga_G := List.mem_filter.mpr ⟨gl_130, rfl⟩
theorem gl_131 : Cond.fieldLink "LevelStore$Memory" 14 "LevelStore$Memory" "rows" "LLevelStore$Entries;" ∈ lw_tbl := List.mem_of_getElem? (i := 131) (by decide +kernel)
theorem gw_131 : Cond.fieldLink "LevelStore$Memory" 14 "LevelStore$Memory" "rows" "LLevelStore$Entries;" ∈ ga_G := List.mem_filter.mpr ⟨gl_131, rfl⟩
theorem gl_132 : Cond.fieldLink "LevelStore" 80 "LevelStore$Memory" "rows" "LLevelStore$Entries;" ∈ lw_tbl := List.mem_of_getElem? (i := 132) (by decide +kernel)
theorem gw_132 : Cond.fieldLink "LevelStore" 80 "LevelStore$Memory" "rows" "LLevelStore$Entries;" ∈ ga_G := List.mem_filter.mpr ⟨gl_132, rfl⟩
theorem gl_133 : Cond.fieldLink "LevelStore$Memory" 20 "LevelStore$Memory" "recordEnds" "[I" ∈ lw_tbl := List.mem_of_getElem? (i := 133) (by decide +kernel)
theorem gw_133 : Cond.fieldLink "LevelStore$Memory" 20 "LevelStore$Memory" "recordEnds" "[I" ∈ ga_G := List.mem_filter.mpr ⟨gl_133, rfl⟩
theorem gl_134 : Cond.fieldLink "LevelStore$Memory" 42 "LevelStore$Memory" "records" "I" ∈ lw_tbl := List.mem_of_getElem? (i := 134) (by decide +kernel)
theorem gw_134 : Cond.fieldLink "LevelStore$Memory" 42 "LevelStore$Memory" "records" "I" ∈ ga_G := List.mem_filter.mpr ⟨gl_134, rfl⟩
theorem gl_135 : Cond.fieldLink "LevelStore" 67 "LevelStore$Memory" "records" "I" ∈ lw_tbl := List.mem_of_getElem? (i := 135) (by decide +kernel)
theorem gw_135 : Cond.fieldLink "LevelStore" 67 "LevelStore$Memory" "records" "I" ∈ ga_G := List.mem_filter.mpr ⟨gl_135, rfl⟩
theorem gl_136 : Cond.fieldLink "LevelStore$Memory" 45 "LevelStore$Memory" "synced" "I" ∈ lw_tbl := List.mem_of_getElem? (i := 136) (by decide +kernel)
theorem gw_136 : Cond.fieldLink "LevelStore$Memory" 45 "LevelStore$Memory" "synced" "I" ∈ ga_G := List.mem_filter.mpr ⟨gl_136, rfl⟩
theorem gl_137 : Cond.fieldLink "LevelStore" 70 "LevelStore$Memory" "synced" "I" ∈ lw_tbl := List.mem_of_getElem? (i := 137) (by decide +kernel)
theorem gw_137 : Cond.fieldLink "LevelStore" 70 "LevelStore$Memory" "synced" "I" ∈ ga_G := List.mem_filter.mpr ⟨gl_137, rfl⟩
theorem gl_138 : Cond.laysFinal "LevelStore$Memory" "LevelStore$Memory" "rows" "LLevelStore$Entries;" ∈ lw_tbl := List.mem_of_getElem? (i := 138) (by decide +kernel)
theorem gw_138 : Cond.laysFinal "LevelStore$Memory" "LevelStore$Memory" "rows" "LLevelStore$Entries;" ∈ ga_G := List.mem_filter.mpr ⟨gl_138, rfl⟩
theorem gl_140 : Cond.laysFinal "LevelStore$Memory" "LevelStore$Memory" "recordEnds" "[I" ∈ lw_tbl := List.mem_of_getElem? (i := 140) (by decide +kernel)
theorem gw_140 : Cond.laysFinal "LevelStore$Memory" "LevelStore$Memory" "recordEnds" "[I" ∈ ga_G := List.mem_filter.mpr ⟨gl_140, rfl⟩
theorem gl_142 : Cond.lays "LevelStore$Memory" "LevelStore$Memory" "records" "I" ∈ lw_tbl := List.mem_of_getElem? (i := 142) (by decide +kernel)
theorem gw_142 : Cond.lays "LevelStore$Memory" "LevelStore$Memory" "records" "I" ∈ ga_G := List.mem_filter.mpr ⟨gl_142, rfl⟩
theorem gl_144 : Cond.lays "LevelStore$Memory" "LevelStore$Memory" "synced" "I" ∈ lw_tbl := List.mem_of_getElem? (i := 144) (by decide +kernel)
theorem gw_144 : Cond.lays "LevelStore$Memory" "LevelStore$Memory" "synced" "I" ∈ ga_G := List.mem_filter.mpr ⟨gl_144, rfl⟩
theorem gl_147 : Cond.classLink "LevelStore" 16 "LevelStore$Levels" ∈ lw_tbl := List.mem_of_getElem? (i := 147) (by decide +kernel)
theorem gw_147 : Cond.classLink "LevelStore" 16 "LevelStore$Levels" ∈ ga_G := List.mem_filter.mpr ⟨gl_147, rfl⟩
theorem gl_148 : Cond.instantiable "LevelStore$Levels" 9 ∈ lw_tbl := List.mem_of_getElem? (i := 148) (by decide +kernel)
theorem gw_148 : Cond.instantiable "LevelStore$Levels" 9 ∈ ga_G := List.mem_filter.mpr ⟨gl_148, rfl⟩
theorem gl_149 : Cond.methodLinkNest "LevelStore" 18 (⟨"LevelStore$Levels", "<init>", "()V"⟩ : MethodName) "LevelStore" ∈ lw_tbl := List.mem_of_getElem? (i := 149) (by decide +kernel)
theorem gl_150 : Cond.instanceMethod (⟨"LevelStore$Levels", "<init>", "()V"⟩ : MethodName) ∈ lw_tbl := List.mem_of_getElem? (i := 150) (by decide +kernel)
theorem gw_150 : Cond.instanceMethod (⟨"LevelStore$Levels", "<init>", "()V"⟩ : MethodName) ∈ ga_G := List.mem_filter.mpr ⟨gl_150, rfl⟩
theorem gl_151 : Cond.code y_V_init c_V_init 1 none ∈ lw_tbl := List.mem_of_getElem? (i := 151) (by decide +kernel)
theorem gw_151 : Cond.code y_V_init c_V_init 1 none ∈ ga_G := List.mem_filter.mpr ⟨gl_151, rfl⟩
theorem gl_152 : Cond.methodLink "LevelStore$Levels" 3 (⟨"java/lang/Object", "<init>", "()V"⟩ : MethodName) ∈ lw_tbl := List.mem_of_getElem? (i := 152) (by decide +kernel)
theorem gw_152 : Cond.methodLink "LevelStore$Levels" 3 (⟨"java/lang/Object", "<init>", "()V"⟩ : MethodName) ∈ ga_G := List.mem_filter.mpr ⟨gl_152, rfl⟩
theorem gl_153 : Cond.classLink "LevelStore$Levels" 9 "LevelStore$Shelf" ∈ lw_tbl := List.mem_of_getElem? (i := 153) (by decide +kernel)
theorem gw_153 : Cond.classLink "LevelStore$Levels" 9 "LevelStore$Shelf" ∈ ga_G := List.mem_filter.mpr ⟨gl_153, rfl⟩
theorem gl_154 : Cond.instantiable "LevelStore$Shelf" 5 ∈ lw_tbl := List.mem_of_getElem? (i := 154) (by decide +kernel)
theorem gw_154 : Cond.instantiable "LevelStore$Shelf" 5 ∈ ga_G := List.mem_filter.mpr ⟨gl_154, rfl⟩
theorem gl_155 : Cond.methodLinkNest "LevelStore$Levels" 11 (⟨"LevelStore$Shelf", "<init>", "()V"⟩ : MethodName) "LevelStore" ∈ lw_tbl := List.mem_of_getElem? (i := 155) (by decide +kernel)
theorem gl_156 : Cond.instanceMethod (⟨"LevelStore$Shelf", "<init>", "()V"⟩ : MethodName) ∈ lw_tbl := List.mem_of_getElem? (i := 156) (by decide +kernel)
theorem gw_156 : Cond.instanceMethod (⟨"LevelStore$Shelf", "<init>", "()V"⟩ : MethodName) ∈ ga_G := List.mem_filter.mpr ⟨gl_156, rfl⟩
theorem gl_157 : Cond.code y_S_init c_S_init 1 none ∈ lw_tbl := List.mem_of_getElem? (i := 157) (by decide +kernel)
theorem gw_157 : Cond.code y_S_init c_S_init 1 none ∈ ga_G := List.mem_filter.mpr ⟨gl_157, rfl⟩
theorem gl_158 : Cond.methodLink "LevelStore$Shelf" 3 (⟨"java/lang/Object", "<init>", "()V"⟩ : MethodName) ∈ lw_tbl := List.mem_of_getElem? (i := 158) (by decide +kernel)
theorem gw_158 : Cond.methodLink "LevelStore$Shelf" 3 (⟨"java/lang/Object", "<init>", "()V"⟩ : MethodName) ∈ ga_G := List.mem_filter.mpr ⟨gl_158, rfl⟩
theorem gl_159 : Cond.classLink "LevelStore$Shelf" 9 "LevelStore$Entries" ∈ lw_tbl := List.mem_of_getElem? (i := 159) (by decide +kernel)
theorem gw_159 : Cond.classLink "LevelStore$Shelf" 9 "LevelStore$Entries" ∈ ga_G := List.mem_filter.mpr ⟨gl_159, rfl⟩
theorem gl_160 : Cond.methodLink "LevelStore$Shelf" 11 (⟨"LevelStore$Entries", "<init>", "(I)V"⟩ : MethodName) ∈ lw_tbl := List.mem_of_getElem? (i := 160) (by decide +kernel)
theorem gw_160 : Cond.methodLink "LevelStore$Shelf" 11 (⟨"LevelStore$Entries", "<init>", "(I)V"⟩ : MethodName) ∈ ga_G := List.mem_filter.mpr ⟨gl_160, rfl⟩
theorem gl_161 : Cond.fieldLink "LevelStore$Shelf" 14 "LevelStore$Shelf" "rows" "LLevelStore$Entries;" ∈ lw_tbl := List.mem_of_getElem? (i := 161) (by decide +kernel)
theorem gw_161 : Cond.fieldLink "LevelStore$Shelf" 14 "LevelStore$Shelf" "rows" "LLevelStore$Entries;" ∈ ga_G := List.mem_filter.mpr ⟨gl_161, rfl⟩
theorem gl_162 : Cond.fieldLink "LevelStore$Levels" 67 "LevelStore$Shelf" "rows" "LLevelStore$Entries;" ∈ lw_tbl := List.mem_of_getElem? (i := 162) (by decide +kernel)
theorem gw_162 : Cond.fieldLink "LevelStore$Levels" 67 "LevelStore$Shelf" "rows" "LLevelStore$Entries;" ∈ ga_G := List.mem_filter.mpr ⟨gl_162, rfl⟩
theorem gl_163 : Cond.fieldLink "LevelStore" 90 "LevelStore$Shelf" "rows" "LLevelStore$Entries;" ∈ lw_tbl := List.mem_of_getElem? (i := 163) (by decide +kernel)
theorem gw_163 : Cond.fieldLink "LevelStore" 90 "LevelStore$Shelf" "rows" "LLevelStore$Entries;" ∈ ga_G := List.mem_filter.mpr ⟨gl_163, rfl⟩
theorem gl_164 : Cond.fieldLink "LevelStore$Shelf" 20 "LevelStore$Shelf" "numbers" "[I" ∈ lw_tbl := List.mem_of_getElem? (i := 164) (by decide +kernel)
theorem gw_164 : Cond.fieldLink "LevelStore$Shelf" 20 "LevelStore$Shelf" "numbers" "[I" ∈ ga_G := List.mem_filter.mpr ⟨gl_164, rfl⟩
theorem gl_165 : Cond.fieldLink "LevelStore$Levels" 97 "LevelStore$Shelf" "numbers" "[I" ∈ lw_tbl := List.mem_of_getElem? (i := 165) (by decide +kernel)
theorem gw_165 : Cond.fieldLink "LevelStore$Levels" 97 "LevelStore$Shelf" "numbers" "[I" ∈ ga_G := List.mem_filter.mpr ⟨gl_165, rfl⟩
theorem gl_166 : Cond.fieldLink "LevelStore" 157 "LevelStore$Shelf" "numbers" "[I" ∈ lw_tbl := List.mem_of_getElem? (i := 166) (by decide +kernel)
theorem gw_166 : Cond.fieldLink "LevelStore" 157 "LevelStore$Shelf" "numbers" "[I" ∈ ga_G := List.mem_filter.mpr ⟨gl_166, rfl⟩
theorem gl_167 : Cond.fieldLink "LevelStore$Shelf" 24 "LevelStore$Shelf" "levelOf" "[I" ∈ lw_tbl := List.mem_of_getElem? (i := 167) (by decide +kernel)
theorem gw_167 : Cond.fieldLink "LevelStore$Shelf" 24 "LevelStore$Shelf" "levelOf" "[I" ∈ ga_G := List.mem_filter.mpr ⟨gl_167, rfl⟩
theorem gl_168 : Cond.fieldLink "LevelStore$Levels" 100 "LevelStore$Shelf" "levelOf" "[I" ∈ lw_tbl := List.mem_of_getElem? (i := 168) (by decide +kernel)
theorem gw_168 : Cond.fieldLink "LevelStore$Levels" 100 "LevelStore$Shelf" "levelOf" "[I" ∈ ga_G := List.mem_filter.mpr ⟨gl_168, rfl⟩
theorem gl_169 : Cond.fieldLink "LevelStore" 160 "LevelStore$Shelf" "levelOf" "[I" ∈ lw_tbl := List.mem_of_getElem? (i := 169) (by decide +kernel)
theorem gw_169 : Cond.fieldLink "LevelStore" 160 "LevelStore$Shelf" "levelOf" "[I" ∈ ga_G := List.mem_filter.mpr ⟨gl_169, rfl⟩
theorem gl_170 : Cond.fieldLink "LevelStore$Shelf" 27 "LevelStore$Shelf" "bounds" "[I" ∈ lw_tbl := List.mem_of_getElem? (i := 170) (by decide +kernel)
theorem gw_170 : Cond.fieldLink "LevelStore$Shelf" 27 "LevelStore$Shelf" "bounds" "[I" ∈ ga_G := List.mem_filter.mpr ⟨gl_170, rfl⟩
theorem gl_171 : Cond.fieldLink "LevelStore$Levels" 87 "LevelStore$Shelf" "bounds" "[I" ∈ lw_tbl := List.mem_of_getElem? (i := 171) (by decide +kernel)
theorem gw_171 : Cond.fieldLink "LevelStore$Levels" 87 "LevelStore$Shelf" "bounds" "[I" ∈ ga_G := List.mem_filter.mpr ⟨gl_171, rfl⟩
theorem gl_172 : Cond.fieldLink "LevelStore" 234 "LevelStore$Shelf" "bounds" "[I" ∈ lw_tbl := List.mem_of_getElem? (i := 172) (by decide +kernel)
theorem gw_172 : Cond.fieldLink "LevelStore" 234 "LevelStore$Shelf" "bounds" "[I" ∈ ga_G := List.mem_filter.mpr ⟨gl_172, rfl⟩
