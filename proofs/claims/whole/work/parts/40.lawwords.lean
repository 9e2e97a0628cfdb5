/-! WORDS OF THE LAW: where each stands in the tables -/
theorem gl_50 : Cond.initialized "LevelStoreLaw" ∈ lw_tbl := List.mem_of_getElem? (i := 50) (by decide +kernel)
theorem gw_50 : Cond.initialized "LevelStoreLaw" ∈ ga_G := List.mem_filter.mpr ⟨gl_50, rfl⟩
theorem gl_69 : Cond.classLink "LevelStoreLaw" 8 "LevelStore" ∈ lw_tbl := List.mem_of_getElem? (i := 69) (by decide +kernel)
theorem gw_69 : Cond.classLink "LevelStoreLaw" 8 "LevelStore" ∈ ga_G := List.mem_filter.mpr ⟨gl_69, rfl⟩
theorem gl_70 : Cond.instantiable "LevelStore" 9 ∈ lw_tbl := List.mem_of_getElem? (i := 70) (by decide +kernel)
theorem gw_70 : Cond.instantiable "LevelStore" 9 ∈ ga_G := List.mem_filter.mpr ⟨gl_70, rfl⟩
theorem gl_71 : Cond.methodLink "LevelStoreLaw" 68 (⟨"LevelStore", "<init>", "()V"⟩ : MethodName) ∈ lw_tbl := List.mem_of_getElem? (i := 71) (by decide +kernel)
theorem gw_71 : Cond.methodLink "LevelStoreLaw" 68 (⟨"LevelStore", "<init>", "()V"⟩ : MethodName) ∈ ga_G := List.mem_filter.mpr ⟨gl_71, rfl⟩
theorem gl_72 : Cond.instanceMethod (⟨"LevelStore", "<init>", "()V"⟩ : MethodName) ∈ lw_tbl := List.mem_of_getElem? (i := 72) (by decide +kernel)
theorem gw_72 : Cond.instanceMethod (⟨"LevelStore", "<init>", "()V"⟩ : MethodName) ∈ ga_G := List.mem_filter.mpr ⟨gl_72, rfl⟩
theorem gl_73 : Cond.code y_L_init c_L_init 1 none ∈ lw_tbl := List.mem_of_getElem? (i := 73) (by decide +kernel)
theorem gw_73 : Cond.code y_L_init c_L_init 1 none ∈ ga_G := List.mem_filter.mpr ⟨gl_73, rfl⟩
theorem gl_274 : Cond.methodLink "LevelStoreLaw" 93 (⟨"LevelStore", "sync", "()I"⟩ : MethodName) ∈ lw_tbl := List.mem_of_getElem? (i := 274) (by decide +kernel)
theorem gw_274 : Cond.methodLink "LevelStoreLaw" 93 (⟨"LevelStore", "sync", "()I"⟩ : MethodName) ∈ ga_G := List.mem_filter.mpr ⟨gl_274, rfl⟩
theorem gl_275 : Cond.instanceMethod (⟨"LevelStore", "sync", "()I"⟩ : MethodName) ∈ lw_tbl := List.mem_of_getElem? (i := 275) (by decide +kernel)
theorem gw_275 : Cond.instanceMethod (⟨"LevelStore", "sync", "()I"⟩ : MethodName) ∈ ga_G := List.mem_filter.mpr ⟨gl_275, rfl⟩
theorem gl_276 : Cond.selects "LevelStore" (⟨"LevelStore", "sync", "()I"⟩ : MethodName) (⟨"LevelStore", "sync", "()I"⟩ : MethodName) ∈ lw_tbl := List.mem_of_getElem? (i := 276) (by decide +kernel)
theorem gw_276 : Cond.selects "LevelStore" (⟨"LevelStore", "sync", "()I"⟩ : MethodName) (⟨"LevelStore", "sync", "()I"⟩ : MethodName) ∈ ga_G := List.mem_filter.mpr ⟨gl_276, rfl⟩
theorem gl_277 : Cond.code y_L_sync c_L_sync 1 (some .int) ∈ lw_tbl := List.mem_of_getElem? (i := 277) (by decide +kernel)
theorem gw_277 : Cond.code y_L_sync c_L_sync 1 (some .int) ∈ ga_G := List.mem_filter.mpr ⟨gl_277, rfl⟩
theorem gl_278 : Cond.methodLink "LevelStoreLaw" 118 (⟨"LevelStore", "giveUp", "()I"⟩ : MethodName) ∈ lw_tbl := List.mem_of_getElem? (i := 278) (by decide +kernel)
theorem gw_278 : Cond.methodLink "LevelStoreLaw" 118 (⟨"LevelStore", "giveUp", "()I"⟩ : MethodName) ∈ ga_G := List.mem_filter.mpr ⟨gl_278, rfl⟩
theorem gl_279 : Cond.instanceMethod (⟨"LevelStore", "giveUp", "()I"⟩ : MethodName) ∈ lw_tbl := List.mem_of_getElem? (i := 279) (by decide +kernel)
theorem gw_279 : Cond.instanceMethod (⟨"LevelStore", "giveUp", "()I"⟩ : MethodName) ∈ ga_G := List.mem_filter.mpr ⟨gl_279, rfl⟩
theorem gl_280 : Cond.selects "LevelStore" (⟨"LevelStore", "giveUp", "()I"⟩ : MethodName) (⟨"LevelStore", "giveUp", "()I"⟩ : MethodName) ∈ lw_tbl := List.mem_of_getElem? (i := 280) (by decide +kernel)
theorem gw_280 : Cond.selects "LevelStore" (⟨"LevelStore", "giveUp", "()I"⟩ : MethodName) (⟨"LevelStore", "giveUp", "()I"⟩ : MethodName) ∈ ga_G := List.mem_filter.mpr ⟨gl_280, rfl⟩
theorem gl_281 : Cond.code y_L_giveUp c_L_giveUp 2 (some .int) ∈ lw_tbl := List.mem_of_getElem? (i := 281) (by decide +kernel)
theorem gw_281 : Cond.code y_L_giveUp c_L_giveUp 2 (some .int) ∈ ga_G := List.mem_filter.mpr ⟨gl_281, rfl⟩
theorem gl_399 : Cond.methodLink "LevelStoreLaw" 72 (⟨"LevelStoreLaw", "put", "(LLevelStore;II[J)I"⟩ : MethodName) ∈ lw_tbl := List.mem_of_getElem? (i := 399) (by decide +kernel)
theorem gw_399 : Cond.methodLink "LevelStoreLaw" 72 (⟨"LevelStoreLaw", "put", "(LLevelStore;II[J)I"⟩ : MethodName) ∈ ga_G := List.mem_filter.mpr ⟨gl_399, rfl⟩
theorem gl_400 : Cond.static (⟨"LevelStoreLaw", "put", "(LLevelStore;II[J)I"⟩ : MethodName) ∈ lw_tbl := List.mem_of_getElem? (i := 400) (by decide +kernel)
theorem gw_400 : Cond.static (⟨"LevelStoreLaw", "put", "(LLevelStore;II[J)I"⟩ : MethodName) ∈ ga_G := List.mem_filter.mpr ⟨gl_400, rfl⟩
theorem gl_401 : Cond.codeWith y_W_put c_W_put 5 (some .int) [(0, 10, 13, 13), (0, 10, 17, 15), (0, 10, 21, 17)] ∈ lw_tbl := List.mem_of_getElem? (i := 401) (by decide +kernel)
theorem gw_401 : Cond.codeWith y_W_put c_W_put 5 (some .int) [(0, 10, 13, 13), (0, 10, 17, 15), (0, 10, 21, 17)] ∈ ga_G := List.mem_filter.mpr ⟨gl_401, rfl⟩
theorem gl_541 : Cond.methodLink "LevelStoreLaw" 81 (⟨"LevelStoreLaw", "remove", "(LLevelStore;I[J)I"⟩ : MethodName) ∈ lw_tbl := List.mem_of_getElem? (i := 541) (by decide +kernel)
theorem gw_541 : Cond.methodLink "LevelStoreLaw" 81 (⟨"LevelStoreLaw", "remove", "(LLevelStore;I[J)I"⟩ : MethodName) ∈ ga_G := List.mem_filter.mpr ⟨gl_541, rfl⟩
theorem gl_542 : Cond.static (⟨"LevelStoreLaw", "remove", "(LLevelStore;I[J)I"⟩ : MethodName) ∈ lw_tbl := List.mem_of_getElem? (i := 542) (by decide +kernel)
theorem gw_542 : Cond.static (⟨"LevelStoreLaw", "remove", "(LLevelStore;I[J)I"⟩ : MethodName) ∈ ga_G := List.mem_filter.mpr ⟨gl_542, rfl⟩
theorem gl_543 : Cond.codeWith y_W_remove c_W_remove 4 (some .int) [(0, 9, 12, 13), (0, 9, 15, 15), (0, 9, 18, 17)] ∈ lw_tbl := List.mem_of_getElem? (i := 543) (by decide +kernel)
theorem gw_543 : Cond.codeWith y_W_remove c_W_remove 4 (some .int) [(0, 9, 12, 13), (0, 9, 15, 15), (0, 9, 18, 17)] ∈ ga_G := List.mem_filter.mpr ⟨gl_543, rfl⟩
theorem gl_548 : Cond.methodLink "LevelStoreLaw" 85 (⟨"LevelStoreLaw", "open", "(LLevelStore;[J)I"⟩ : MethodName) ∈ lw_tbl := List.mem_of_getElem? (i := 548) (by decide +kernel)
theorem gw_548 : Cond.methodLink "LevelStoreLaw" 85 (⟨"LevelStoreLaw", "open", "(LLevelStore;[J)I"⟩ : MethodName) ∈ ga_G := List.mem_filter.mpr ⟨gl_548, rfl⟩
theorem gl_549 : Cond.static (⟨"LevelStoreLaw", "open", "(LLevelStore;[J)I"⟩ : MethodName) ∈ lw_tbl := List.mem_of_getElem? (i := 549) (by decide +kernel)
theorem gw_549 : Cond.static (⟨"LevelStoreLaw", "open", "(LLevelStore;[J)I"⟩ : MethodName) ∈ ga_G := List.mem_filter.mpr ⟨gl_549, rfl⟩
theorem gl_550 : Cond.codeWith y_W_open c_W_open 3 (some .int) [(0, 8, 11, 15)] ∈ lw_tbl := List.mem_of_getElem? (i := 550) (by decide +kernel)
theorem gw_550 : Cond.codeWith y_W_open c_W_open 3 (some .int) [(0, 8, 11, 15)] ∈ ga_G := List.mem_filter.mpr ⟨gl_550, rfl⟩
theorem gl_555 : Cond.methodLink "LevelStoreLaw" 89 (⟨"LevelStoreLaw", "close", "(LLevelStore;Z[J)I"⟩ : MethodName) ∈ lw_tbl := List.mem_of_getElem? (i := 555) (by decide +kernel)
theorem gw_555 : Cond.methodLink "LevelStoreLaw" 89 (⟨"LevelStoreLaw", "close", "(LLevelStore;Z[J)I"⟩ : MethodName) ∈ ga_G := List.mem_filter.mpr ⟨gl_555, rfl⟩
theorem gl_556 : Cond.static (⟨"LevelStoreLaw", "close", "(LLevelStore;Z[J)I"⟩ : MethodName) ∈ lw_tbl := List.mem_of_getElem? (i := 556) (by decide +kernel)
theorem gw_556 : Cond.static (⟨"LevelStoreLaw", "close", "(LLevelStore;Z[J)I"⟩ : MethodName) ∈ ga_G := List.mem_filter.mpr ⟨gl_556, rfl⟩
theorem gl_557 : Cond.codeWith y_W_close c_W_close 4 (some .int) [(0, 9, 12, 15), (0, 9, 15, 17)] ∈ lw_tbl := List.mem_of_getElem? (i := 557) (by decide +kernel)
theorem gw_557 : Cond.codeWith y_W_close c_W_close 4 (some .int) [(0, 9, 12, 15), (0, 9, 15, 17)] ∈ ga_G := List.mem_filter.mpr ⟨gl_557, rfl⟩
theorem gl_562 : Cond.methodLink "LevelStoreLaw" 97 (⟨"LevelStoreLaw", "crash", "(LLevelStore;I[J)I"⟩ : MethodName) ∈ lw_tbl := List.mem_of_getElem? (i := 562) (by decide +kernel)
theorem gw_562 : Cond.methodLink "LevelStoreLaw" 97 (⟨"LevelStoreLaw", "crash", "(LLevelStore;I[J)I"⟩ : MethodName) ∈ ga_G := List.mem_filter.mpr ⟨gl_562, rfl⟩
theorem gl_563 : Cond.static (⟨"LevelStoreLaw", "crash", "(LLevelStore;I[J)I"⟩ : MethodName) ∈ lw_tbl := List.mem_of_getElem? (i := 563) (by decide +kernel)
theorem gw_563 : Cond.static (⟨"LevelStoreLaw", "crash", "(LLevelStore;I[J)I"⟩ : MethodName) ∈ ga_G := List.mem_filter.mpr ⟨gl_563, rfl⟩
theorem gl_564 : Cond.codeWith y_W_crash c_W_crash 4 (some .int) [(0, 9, 12, 13)] ∈ lw_tbl := List.mem_of_getElem? (i := 564) (by decide +kernel)
theorem gw_564 : Cond.codeWith y_W_crash c_W_crash 4 (some .int) [(0, 9, 12, 13)] ∈ ga_G := List.mem_filter.mpr ⟨gl_564, rfl⟩
theorem gl_580 : Cond.methodLink "LevelStoreLaw" 100 (⟨"LevelStoreLaw", "flush", "(LLevelStore;[J)I"⟩ : MethodName) ∈ lw_tbl := List.mem_of_getElem? (i := 580) (by decide +kernel)
theorem gw_580 : Cond.methodLink "LevelStoreLaw" 100 (⟨"LevelStoreLaw", "flush", "(LLevelStore;[J)I"⟩ : MethodName) ∈ ga_G := List.mem_filter.mpr ⟨gl_580, rfl⟩
theorem gl_581 : Cond.static (⟨"LevelStoreLaw", "flush", "(LLevelStore;[J)I"⟩ : MethodName) ∈ lw_tbl := List.mem_of_getElem? (i := 581) (by decide +kernel)
theorem gw_581 : Cond.static (⟨"LevelStoreLaw", "flush", "(LLevelStore;[J)I"⟩ : MethodName) ∈ ga_G := List.mem_filter.mpr ⟨gl_581, rfl⟩
theorem gl_582 : Cond.codeWith y_W_flush c_W_flush 3 (some .int) [(0, 8, 11, 15), (0, 8, 14, 17)] ∈ lw_tbl := List.mem_of_getElem? (i := 582) (by decide +kernel)
theorem gw_582 : Cond.codeWith y_W_flush c_W_flush 3 (some .int) [(0, 8, 11, 15), (0, 8, 14, 17)] ∈ ga_G := List.mem_filter.mpr ⟨gl_582, rfl⟩
theorem gl_587 : Cond.methodLink "LevelStoreLaw" 103 (⟨"LevelStoreLaw", "get", "(LLevelStore;II[J)I"⟩ : MethodName) ∈ lw_tbl := List.mem_of_getElem? (i := 587) (by decide +kernel)
theorem gw_587 : Cond.methodLink "LevelStoreLaw" 103 (⟨"LevelStoreLaw", "get", "(LLevelStore;II[J)I"⟩ : MethodName) ∈ ga_G := List.mem_filter.mpr ⟨gl_587, rfl⟩
theorem gl_588 : Cond.static (⟨"LevelStoreLaw", "get", "(LLevelStore;II[J)I"⟩ : MethodName) ∈ lw_tbl := List.mem_of_getElem? (i := 588) (by decide +kernel)
theorem gw_588 : Cond.static (⟨"LevelStoreLaw", "get", "(LLevelStore;II[J)I"⟩ : MethodName) ∈ ga_G := List.mem_filter.mpr ⟨gl_588, rfl⟩
theorem gl_589 : Cond.codeWith y_W_get c_W_get 5 (some .int) [(0, 10, 13, 13), (0, 10, 17, 15), (0, 10, 21, 17), (0, 10, 25, 40)] ∈ lw_tbl := List.mem_of_getElem? (i := 589) (by decide +kernel)
theorem gw_589 : Cond.codeWith y_W_get c_W_get 5 (some .int) [(0, 10, 13, 13), (0, 10, 17, 15), (0, 10, 21, 17), (0, 10, 25, 40)] ∈ ga_G := List.mem_filter.mpr ⟨gl_589, rfl⟩
theorem gl_648 : Cond.methodLink "LevelStoreLaw" 106 (⟨"LevelStoreLaw", "next", "(LLevelStore;II[J)I"⟩ : MethodName) ∈ lw_tbl := List.mem_of_getElem? (i := 648) (by decide +kernel)
theorem gw_648 : Cond.methodLink "LevelStoreLaw" 106 (⟨"LevelStoreLaw", "next", "(LLevelStore;II[J)I"⟩ : MethodName) ∈ ga_G := List.mem_filter.mpr ⟨gl_648, rfl⟩
theorem gl_649 : Cond.static (⟨"LevelStoreLaw", "next", "(LLevelStore;II[J)I"⟩ : MethodName) ∈ lw_tbl := List.mem_of_getElem? (i := 649) (by decide +kernel)
theorem gw_649 : Cond.static (⟨"LevelStoreLaw", "next", "(LLevelStore;II[J)I"⟩ : MethodName) ∈ ga_G := List.mem_filter.mpr ⟨gl_649, rfl⟩
theorem gl_650 : Cond.codeWith y_W_next c_W_next 5 (some .int) [(0, 10, 13, 13), (0, 10, 17, 17), (0, 10, 21, 40)] ∈ lw_tbl := List.mem_of_getElem? (i := 650) (by decide +kernel)
theorem gw_650 : Cond.codeWith y_W_next c_W_next 5 (some .int) [(0, 10, 13, 13), (0, 10, 17, 17), (0, 10, 21, 40)] ∈ ga_G := List.mem_filter.mpr ⟨gl_650, rfl⟩
theorem gl_659 : Cond.methodLink "LevelStoreLaw" 109 (⟨"LevelStoreLaw", "snapshot", "(LLevelStore;[J)I"⟩ : MethodName) ∈ lw_tbl := List.mem_of_getElem? (i := 659) (by decide +kernel)
theorem gw_659 : Cond.methodLink "LevelStoreLaw" 109 (⟨"LevelStoreLaw", "snapshot", "(LLevelStore;[J)I"⟩ : MethodName) ∈ ga_G := List.mem_filter.mpr ⟨gl_659, rfl⟩
theorem gl_660 : Cond.static (⟨"LevelStoreLaw", "snapshot", "(LLevelStore;[J)I"⟩ : MethodName) ∈ lw_tbl := List.mem_of_getElem? (i := 660) (by decide +kernel)
theorem gw_660 : Cond.static (⟨"LevelStoreLaw", "snapshot", "(LLevelStore;[J)I"⟩ : MethodName) ∈ ga_G := List.mem_filter.mpr ⟨gl_660, rfl⟩
theorem gl_661 : Cond.codeWith y_W_snapshot c_W_snapshot 3 (some .int) [(0, 8, 11, 15)] ∈ lw_tbl := List.mem_of_getElem? (i := 661) (by decide +kernel)
theorem gw_661 : Cond.codeWith y_W_snapshot c_W_snapshot 3 (some .int) [(0, 8, 11, 15)] ∈ ga_G := List.mem_filter.mpr ⟨gl_661, rfl⟩
theorem gl_666 : Cond.methodLink "LevelStoreLaw" 112 (⟨"LevelStoreLaw", "release", "(LLevelStore;I[J)I"⟩ : MethodName) ∈ lw_tbl := List.mem_of_getElem? (i := 666) (by decide +kernel)
theorem gw_666 : Cond.methodLink "LevelStoreLaw" 112 (⟨"LevelStoreLaw", "release", "(LLevelStore;I[J)I"⟩ : MethodName) ∈ ga_G := List.mem_filter.mpr ⟨gl_666, rfl⟩
theorem gl_667 : Cond.static (⟨"LevelStoreLaw", "release", "(LLevelStore;I[J)I"⟩ : MethodName) ∈ lw_tbl := List.mem_of_getElem? (i := 667) (by decide +kernel)
theorem gw_667 : Cond.static (⟨"LevelStoreLaw", "release", "(LLevelStore;I[J)I"⟩ : MethodName) ∈ ga_G := List.mem_filter.mpr ⟨gl_667, rfl⟩
theorem gl_668 : Cond.codeWith y_W_release c_W_release 4 (some .int) [(0, 9, 12, 13), (0, 9, 15, 17)] ∈ lw_tbl := List.mem_of_getElem? (i := 668) (by decide +kernel)
theorem gw_668 : Cond.codeWith y_W_release c_W_release 4 (some .int) [(0, 9, 12, 13), (0, 9, 15, 17)] ∈ ga_G := List.mem_filter.mpr ⟨gl_668, rfl⟩
theorem gl_673 : Cond.methodLink "LevelStoreLaw" 115 (⟨"LevelStoreLaw", "spoil", "(LLevelStore;II[J)I"⟩ : MethodName) ∈ lw_tbl := List.mem_of_getElem? (i := 673) (by decide +kernel)
theorem gw_673 : Cond.methodLink "LevelStoreLaw" 115 (⟨"LevelStoreLaw", "spoil", "(LLevelStore;II[J)I"⟩ : MethodName) ∈ ga_G := List.mem_filter.mpr ⟨gl_673, rfl⟩
theorem gl_674 : Cond.static (⟨"LevelStoreLaw", "spoil", "(LLevelStore;II[J)I"⟩ : MethodName) ∈ lw_tbl := List.mem_of_getElem? (i := 674) (by decide +kernel)
theorem gw_674 : Cond.static (⟨"LevelStoreLaw", "spoil", "(LLevelStore;II[J)I"⟩ : MethodName) ∈ ga_G := List.mem_filter.mpr ⟨gl_674, rfl⟩
theorem gl_675 : Cond.codeWith y_W_spoil c_W_spoil 5 (some .int) [(0, 10, 13, 13), (0, 10, 17, 54)] ∈ lw_tbl := List.mem_of_getElem? (i := 675) (by decide +kernel)
theorem gw_675 : Cond.codeWith y_W_spoil c_W_spoil 5 (some .int) [(0, 10, 13, 13), (0, 10, 17, 54)] ∈ ga_G := List.mem_filter.mpr ⟨gl_675, rfl⟩
theorem gl_709 : Cond.methodLink "LevelStoreLaw" 122 (⟨"LevelStoreLaw", "effort", "(LLevelStore;[D)I"⟩ : MethodName) ∈ lw_tbl := List.mem_of_getElem? (i := 709) (by decide +kernel)
theorem gw_709 : Cond.methodLink "LevelStoreLaw" 122 (⟨"LevelStoreLaw", "effort", "(LLevelStore;[D)I"⟩ : MethodName) ∈ ga_G := List.mem_filter.mpr ⟨gl_709, rfl⟩
theorem gl_710 : Cond.static (⟨"LevelStoreLaw", "effort", "(LLevelStore;[D)I"⟩ : MethodName) ∈ lw_tbl := List.mem_of_getElem? (i := 710) (by decide +kernel)
theorem gw_710 : Cond.static (⟨"LevelStoreLaw", "effort", "(LLevelStore;[D)I"⟩ : MethodName) ∈ ga_G := List.mem_filter.mpr ⟨gl_710, rfl⟩
theorem gl_711 : Cond.codeWith y_W_effort c_W_effort 3 (some .int) [(0, 7, 10, 60)] ∈ lw_tbl := List.mem_of_getElem? (i := 711) (by decide +kernel)
theorem gw_711 : Cond.codeWith y_W_effort c_W_effort 3 (some .int) [(0, 7, 10, 60)] ∈ ga_G := List.mem_filter.mpr ⟨gl_711, rfl⟩
theorem gl_732 : Cond.methodLink "LevelStoreLaw" 126 (⟨"LevelStoreLaw", "table", "(LLevelStore;II[J)I"⟩ : MethodName) ∈ lw_tbl := List.mem_of_getElem? (i := 732) (by decide +kernel)
theorem gw_732 : Cond.methodLink "LevelStoreLaw" 126 (⟨"LevelStoreLaw", "table", "(LLevelStore;II[J)I"⟩ : MethodName) ∈ ga_G := List.mem_filter.mpr ⟨gl_732, rfl⟩
theorem gl_733 : Cond.static (⟨"LevelStoreLaw", "table", "(LLevelStore;II[J)I"⟩ : MethodName) ∈ lw_tbl := List.mem_of_getElem? (i := 733) (by decide +kernel)
theorem gw_733 : Cond.static (⟨"LevelStoreLaw", "table", "(LLevelStore;II[J)I"⟩ : MethodName) ∈ ga_G := List.mem_filter.mpr ⟨gl_733, rfl⟩
theorem gl_734 : Cond.codeWith y_W_table c_W_table 5 (some .int) [(0, 10, 13, 13), (0, 10, 17, 54)] ∈ lw_tbl := List.mem_of_getElem? (i := 734) (by decide +kernel)
theorem gw_734 : Cond.codeWith y_W_table c_W_table 5 (some .int) [(0, 10, 13, 13), (0, 10, 17, 54)] ∈ ga_G := List.mem_filter.mpr ⟨gl_734, rfl⟩
theorem gl_747 : Cond.methodLink "LevelStoreLaw" 129 (⟨"LevelStoreLaw", "count", "(LLevelStore;I[J)I"⟩ : MethodName) ∈ lw_tbl := List.mem_of_getElem? (i := 747) (by decide +kernel)
theorem gw_747 : Cond.methodLink "LevelStoreLaw" 129 (⟨"LevelStoreLaw", "count", "(LLevelStore;I[J)I"⟩ : MethodName) ∈ ga_G := List.mem_filter.mpr ⟨gl_747, rfl⟩
theorem gl_748 : Cond.static (⟨"LevelStoreLaw", "count", "(LLevelStore;I[J)I"⟩ : MethodName) ∈ lw_tbl := List.mem_of_getElem? (i := 748) (by decide +kernel)
theorem gw_748 : Cond.static (⟨"LevelStoreLaw", "count", "(LLevelStore;I[J)I"⟩ : MethodName) ∈ ga_G := List.mem_filter.mpr ⟨gl_748, rfl⟩
theorem gl_749 : Cond.codeWith y_W_count c_W_count 4 (some .int) [(0, 9, 12, 13)] ∈ lw_tbl := List.mem_of_getElem? (i := 749) (by decide +kernel)
theorem gw_749 : Cond.codeWith y_W_count c_W_count 4 (some .int) [(0, 9, 12, 13)] ∈ ga_G := List.mem_filter.mpr ⟨gl_749, rfl⟩
theorem gl_755 : Cond.classLink "LevelStoreLaw" 69 "LevelStoreModel" ∈ lw_tbl := List.mem_of_getElem? (i := 755) (by decide +kernel)
theorem gw_755 : Cond.classLink "LevelStoreLaw" 69 "LevelStoreModel" ∈ ga_G := List.mem_filter.mpr ⟨gl_755, rfl⟩
theorem gl_756 : Cond.instantiable "LevelStoreModel" 39 ∈ lw_tbl := List.mem_of_getElem? (i := 756) (by decide +kernel)
theorem gw_756 : Cond.instantiable "LevelStoreModel" 39 ∈ ga_G := List.mem_filter.mpr ⟨gl_756, rfl⟩
theorem gl_757 : Cond.methodLink "LevelStoreLaw" 71 (⟨"LevelStoreModel", "<init>", "()V"⟩ : MethodName) ∈ lw_tbl := List.mem_of_getElem? (i := 757) (by decide +kernel)
theorem gw_757 : Cond.methodLink "LevelStoreLaw" 71 (⟨"LevelStoreModel", "<init>", "()V"⟩ : MethodName) ∈ ga_G := List.mem_filter.mpr ⟨gl_757, rfl⟩
theorem gl_758 : Cond.instanceMethod (⟨"LevelStoreModel", "<init>", "()V"⟩ : MethodName) ∈ lw_tbl := List.mem_of_getElem? (i := 758) (by decide +kernel)
theorem gw_758 : Cond.instanceMethod (⟨"LevelStoreModel", "<init>", "()V"⟩ : MethodName) ∈ ga_G := List.mem_filter.mpr ⟨gl_758, rfl⟩
theorem gl_759 : Cond.code y_R_init c_R_init 1 none ∈ lw_tbl := List.mem_of_getElem? (i := 759) (by decide +kernel)
theorem gw_759 : Cond.code y_R_init c_R_init 1 none ∈ ga_G := List.mem_filter.mpr ⟨gl_759, rfl⟩
theorem gl_880 : Cond.methodLink "LevelStoreLaw" 78 (⟨"LevelStoreModel", "thrown", "()I"⟩ : MethodName) ∈ lw_tbl := List.mem_of_getElem? (i := 880) (by decide +kernel)
theorem gw_880 : Cond.methodLink "LevelStoreLaw" 78 (⟨"LevelStoreModel", "thrown", "()I"⟩ : MethodName) ∈ ga_G := List.mem_filter.mpr ⟨gl_880, rfl⟩
theorem gl_881 : Cond.instanceMethod (⟨"LevelStoreModel", "thrown", "()I"⟩ : MethodName) ∈ lw_tbl := List.mem_of_getElem? (i := 881) (by decide +kernel)
theorem gw_881 : Cond.instanceMethod (⟨"LevelStoreModel", "thrown", "()I"⟩ : MethodName) ∈ ga_G := List.mem_filter.mpr ⟨gl_881, rfl⟩
theorem gl_882 : Cond.selects "LevelStoreModel" (⟨"LevelStoreModel", "thrown", "()I"⟩ : MethodName) (⟨"LevelStoreModel", "thrown", "()I"⟩ : MethodName) ∈ lw_tbl := List.mem_of_getElem? (i := 882) (by decide +kernel)
theorem gw_882 : Cond.selects "LevelStoreModel" (⟨"LevelStoreModel", "thrown", "()I"⟩ : MethodName) (⟨"LevelStoreModel", "thrown", "()I"⟩ : MethodName) ∈ ga_G := List.mem_filter.mpr ⟨gl_882, rfl⟩
theorem gl_883 : Cond.code y_R_thrown c_R_thrown 1 (some .int) ∈ lw_tbl := List.mem_of_getElem? (i := 883) (by decide +kernel)
theorem gw_883 : Cond.code y_R_thrown c_R_thrown 1 (some .int) ∈ ga_G := List.mem_filter.mpr ⟨gl_883, rfl⟩
theorem gl_884 : Cond.methodLink "LevelStoreLaw" 77 (⟨"LevelStoreModel", "put", "(II)I"⟩ : MethodName) ∈ lw_tbl := List.mem_of_getElem? (i := 884) (by decide +kernel)
theorem gw_884 : Cond.methodLink "LevelStoreLaw" 77 (⟨"LevelStoreModel", "put", "(II)I"⟩ : MethodName) ∈ ga_G := List.mem_filter.mpr ⟨gl_884, rfl⟩
theorem gl_885 : Cond.instanceMethod (⟨"LevelStoreModel", "put", "(II)I"⟩ : MethodName) ∈ lw_tbl := List.mem_of_getElem? (i := 885) (by decide +kernel)
theorem gw_885 : Cond.instanceMethod (⟨"LevelStoreModel", "put", "(II)I"⟩ : MethodName) ∈ ga_G := List.mem_filter.mpr ⟨gl_885, rfl⟩
theorem gl_886 : Cond.selects "LevelStoreModel" (⟨"LevelStoreModel", "put", "(II)I"⟩ : MethodName) (⟨"LevelStoreModel", "put", "(II)I"⟩ : MethodName) ∈ lw_tbl := List.mem_of_getElem? (i := 886) (by decide +kernel)
theorem gw_886 : Cond.selects "LevelStoreModel" (⟨"LevelStoreModel", "put", "(II)I"⟩ : MethodName) (⟨"LevelStoreModel", "put", "(II)I"⟩ : MethodName) ∈ ga_G := List.mem_filter.mpr ⟨gl_886, rfl⟩
theorem gl_887 : Cond.code y_R_put c_R_put 3 (some .int) ∈ lw_tbl := List.mem_of_getElem? (i := 887) (by decide +kernel)
theorem gw_887 : Cond.code y_R_put c_R_put 3 (some .int) ∈ ga_G := List.mem_filter.mpr ⟨gl_887, rfl⟩
theorem gl_983 : Cond.methodLink "LevelStoreLaw" 84 (⟨"LevelStoreModel", "remove", "(I)I"⟩ : MethodName) ∈ lw_tbl := List.mem_of_getElem? (i := 983) (by decide +kernel)
theorem gw_983 : Cond.methodLink "LevelStoreLaw" 84 (⟨"LevelStoreModel", "remove", "(I)I"⟩ : MethodName) ∈ ga_G := List.mem_filter.mpr ⟨gl_983, rfl⟩
theorem gl_984 : Cond.instanceMethod (⟨"LevelStoreModel", "remove", "(I)I"⟩ : MethodName) ∈ lw_tbl := List.mem_of_getElem? (i := 984) (by decide +kernel)
theorem gw_984 : Cond.instanceMethod (⟨"LevelStoreModel", "remove", "(I)I"⟩ : MethodName) ∈ ga_G := List.mem_filter.mpr ⟨gl_984, rfl⟩
theorem gl_985 : Cond.selects "LevelStoreModel" (⟨"LevelStoreModel", "remove", "(I)I"⟩ : MethodName) (⟨"LevelStoreModel", "remove", "(I)I"⟩ : MethodName) ∈ lw_tbl := List.mem_of_getElem? (i := 985) (by decide +kernel)
theorem gw_985 : Cond.selects "LevelStoreModel" (⟨"LevelStoreModel", "remove", "(I)I"⟩ : MethodName) (⟨"LevelStoreModel", "remove", "(I)I"⟩ : MethodName) ∈ ga_G := List.mem_filter.mpr ⟨gl_985, rfl⟩
theorem gl_986 : Cond.code y_R_remove c_R_remove 2 (some .int) ∈ lw_tbl := List.mem_of_getElem? (i := 986) (by decide +kernel)
theorem gw_986 : Cond.code y_R_remove c_R_remove 2 (some .int) ∈ ga_G := List.mem_filter.mpr ⟨gl_986, rfl⟩
theorem gl_987 : Cond.methodLink "LevelStoreLaw" 88 (⟨"LevelStoreModel", "open", "()I"⟩ : MethodName) ∈ lw_tbl := List.mem_of_getElem? (i := 987) (by decide +kernel)
theorem gw_987 : Cond.methodLink "LevelStoreLaw" 88 (⟨"LevelStoreModel", "open", "()I"⟩ : MethodName) ∈ ga_G := List.mem_filter.mpr ⟨gl_987, rfl⟩
theorem gl_988 : Cond.instanceMethod (⟨"LevelStoreModel", "open", "()I"⟩ : MethodName) ∈ lw_tbl := List.mem_of_getElem? (i := 988) (by decide +kernel)
theorem gw_988 : Cond.instanceMethod (⟨"LevelStoreModel", "open", "()I"⟩ : MethodName) ∈ ga_G := List.mem_filter.mpr ⟨gl_988, rfl⟩
theorem gl_989 : Cond.selects "LevelStoreModel" (⟨"LevelStoreModel", "open", "()I"⟩ : MethodName) (⟨"LevelStoreModel", "open", "()I"⟩ : MethodName) ∈ lw_tbl := List.mem_of_getElem? (i := 989) (by decide +kernel)
theorem gw_989 : Cond.selects "LevelStoreModel" (⟨"LevelStoreModel", "open", "()I"⟩ : MethodName) (⟨"LevelStoreModel", "open", "()I"⟩ : MethodName) ∈ ga_G := List.mem_filter.mpr ⟨gl_989, rfl⟩
theorem gl_990 : Cond.code y_R_open c_R_open 1 (some .int) ∈ lw_tbl := List.mem_of_getElem? (i := 990) (by decide +kernel)
theorem gw_990 : Cond.code y_R_open c_R_open 1 (some .int) ∈ ga_G := List.mem_filter.mpr ⟨gl_990, rfl⟩
theorem gl_991 : Cond.methodLink "LevelStoreLaw" 92 (⟨"LevelStoreModel", "close", "(Z)I"⟩ : MethodName) ∈ lw_tbl := List.mem_of_getElem? (i := 991) (by decide +kernel)
theorem gw_991 : Cond.methodLink "LevelStoreLaw" 92 (⟨"LevelStoreModel", "close", "(Z)I"⟩ : MethodName) ∈ ga_G := List.mem_filter.mpr ⟨gl_991, rfl⟩
theorem gl_992 : Cond.instanceMethod (⟨"LevelStoreModel", "close", "(Z)I"⟩ : MethodName) ∈ lw_tbl := List.mem_of_getElem? (i := 992) (by decide +kernel)
theorem gw_992 : Cond.instanceMethod (⟨"LevelStoreModel", "close", "(Z)I"⟩ : MethodName) ∈ ga_G := List.mem_filter.mpr ⟨gl_992, rfl⟩
theorem gl_993 : Cond.selects "LevelStoreModel" (⟨"LevelStoreModel", "close", "(Z)I"⟩ : MethodName) (⟨"LevelStoreModel", "close", "(Z)I"⟩ : MethodName) ∈ lw_tbl := List.mem_of_getElem? (i := 993) (by decide +kernel)
theorem gw_993 : Cond.selects "LevelStoreModel" (⟨"LevelStoreModel", "close", "(Z)I"⟩ : MethodName) (⟨"LevelStoreModel", "close", "(Z)I"⟩ : MethodName) ∈ ga_G := List.mem_filter.mpr ⟨gl_993, rfl⟩
theorem gl_994 : Cond.code y_R_close c_R_close 3 (some .int) ∈ lw_tbl := List.mem_of_getElem? (i := 994) (by decide +kernel)
theorem gw_994 : Cond.code y_R_close c_R_close 3 (some .int) ∈ ga_G := List.mem_filter.mpr ⟨gl_994, rfl⟩
theorem gl_995 : Cond.methodLink "LevelStoreLaw" 96 (⟨"LevelStoreModel", "sync", "()I"⟩ : MethodName) ∈ lw_tbl := List.mem_of_getElem? (i := 995) (by decide +kernel)
theorem gw_995 : Cond.methodLink "LevelStoreLaw" 96 (⟨"LevelStoreModel", "sync", "()I"⟩ : MethodName) ∈ ga_G := List.mem_filter.mpr ⟨gl_995, rfl⟩
theorem gl_996 : Cond.instanceMethod (⟨"LevelStoreModel", "sync", "()I"⟩ : MethodName) ∈ lw_tbl := List.mem_of_getElem? (i := 996) (by decide +kernel)
theorem gw_996 : Cond.instanceMethod (⟨"LevelStoreModel", "sync", "()I"⟩ : MethodName) ∈ ga_G := List.mem_filter.mpr ⟨gl_996, rfl⟩
theorem gl_997 : Cond.selects "LevelStoreModel" (⟨"LevelStoreModel", "sync", "()I"⟩ : MethodName) (⟨"LevelStoreModel", "sync", "()I"⟩ : MethodName) ∈ lw_tbl := List.mem_of_getElem? (i := 997) (by decide +kernel)
theorem gw_997 : Cond.selects "LevelStoreModel" (⟨"LevelStoreModel", "sync", "()I"⟩ : MethodName) (⟨"LevelStoreModel", "sync", "()I"⟩ : MethodName) ∈ ga_G := List.mem_filter.mpr ⟨gl_997, rfl⟩
theorem gl_998 : Cond.code y_R_sync c_R_sync 1 (some .int) ∈ lw_tbl := List.mem_of_getElem? (i := 998) (by decide +kernel)
theorem gw_998 : Cond.code y_R_sync c_R_sync 1 (some .int) ∈ ga_G := List.mem_filter.mpr ⟨gl_998, rfl⟩
theorem gl_999 : Cond.methodLink "LevelStoreLaw" 99 (⟨"LevelStoreModel", "crash", "(I)I"⟩ : MethodName) ∈ lw_tbl := List.mem_of_getElem? (i := 999) (by decide +kernel)
theorem gw_999 : Cond.methodLink "LevelStoreLaw" 99 (⟨"LevelStoreModel", "crash", "(I)I"⟩ : MethodName) ∈ ga_G := List.mem_filter.mpr ⟨gl_999, rfl⟩
theorem gl_1000 : Cond.instanceMethod (⟨"LevelStoreModel", "crash", "(I)I"⟩ : MethodName) ∈ lw_tbl := List.mem_of_getElem? (i := 1000) (by decide +kernel)
theorem gw_1000 : Cond.instanceMethod (⟨"LevelStoreModel", "crash", "(I)I"⟩ : MethodName) ∈ ga_G := List.mem_filter.mpr ⟨gl_1000, rfl⟩
theorem gl_1001 : Cond.selects "LevelStoreModel" (⟨"LevelStoreModel", "crash", "(I)I"⟩ : MethodName) (⟨"LevelStoreModel", "crash", "(I)I"⟩ : MethodName) ∈ lw_tbl := List.mem_of_getElem? (i := 1001) (by decide +kernel)
theorem gw_1001 : Cond.selects "LevelStoreModel" (⟨"LevelStoreModel", "crash", "(I)I"⟩ : MethodName) (⟨"LevelStoreModel", "crash", "(I)I"⟩ : MethodName) ∈ ga_G := List.mem_filter.mpr ⟨gl_1001, rfl⟩
theorem gl_1002 : Cond.code y_R_crash c_R_crash 3 (some .int) ∈ lw_tbl := List.mem_of_getElem? (i := 1002) (by decide +kernel)
theorem gw_1002 : Cond.code y_R_crash c_R_crash 3 (some .int) ∈ ga_G := List.mem_filter.mpr ⟨gl_1002, rfl⟩
theorem gl_1003 : Cond.methodLink "LevelStoreLaw" 102 (⟨"LevelStoreModel", "flush", "()I"⟩ : MethodName) ∈ lw_tbl := List.mem_of_getElem? (i := 1003) (by decide +kernel)
theorem gw_1003 : Cond.methodLink "LevelStoreLaw" 102 (⟨"LevelStoreModel", "flush", "()I"⟩ : MethodName) ∈ ga_G := List.mem_filter.mpr ⟨gl_1003, rfl⟩
theorem gl_1004 : Cond.instanceMethod (⟨"LevelStoreModel", "flush", "()I"⟩ : MethodName) ∈ lw_tbl := List.mem_of_getElem? (i := 1004) (by decide +kernel)
theorem gw_1004 : Cond.instanceMethod (⟨"LevelStoreModel", "flush", "()I"⟩ : MethodName) ∈ ga_G := List.mem_filter.mpr ⟨gl_1004, rfl⟩
theorem gl_1005 : Cond.selects "LevelStoreModel" (⟨"LevelStoreModel", "flush", "()I"⟩ : MethodName) (⟨"LevelStoreModel", "flush", "()I"⟩ : MethodName) ∈ lw_tbl := List.mem_of_getElem? (i := 1005) (by decide +kernel)
theorem gw_1005 : Cond.selects "LevelStoreModel" (⟨"LevelStoreModel", "flush", "()I"⟩ : MethodName) (⟨"LevelStoreModel", "flush", "()I"⟩ : MethodName) ∈ ga_G := List.mem_filter.mpr ⟨gl_1005, rfl⟩
theorem gl_1006 : Cond.code y_R_flush c_R_flush 1 (some .int) ∈ lw_tbl := List.mem_of_getElem? (i := 1006) (by decide +kernel)
theorem gw_1006 : Cond.code y_R_flush c_R_flush 1 (some .int) ∈ ga_G := List.mem_filter.mpr ⟨gl_1006, rfl⟩
theorem gl_1007 : Cond.methodLink "LevelStoreLaw" 105 (⟨"LevelStoreModel", "get", "(II)I"⟩ : MethodName) ∈ lw_tbl := List.mem_of_getElem? (i := 1007) (by decide +kernel)
theorem gw_1007 : Cond.methodLink "LevelStoreLaw" 105 (⟨"LevelStoreModel", "get", "(II)I"⟩ : MethodName) ∈ ga_G := List.mem_filter.mpr ⟨gl_1007, rfl⟩
theorem gl_1008 : Cond.instanceMethod (⟨"LevelStoreModel", "get", "(II)I"⟩ : MethodName) ∈ lw_tbl := List.mem_of_getElem? (i := 1008) (by decide +kernel)
theorem gw_1008 : Cond.instanceMethod (⟨"LevelStoreModel", "get", "(II)I"⟩ : MethodName) ∈ ga_G := List.mem_filter.mpr ⟨gl_1008, rfl⟩
theorem gl_1009 : Cond.selects "LevelStoreModel" (⟨"LevelStoreModel", "get", "(II)I"⟩ : MethodName) (⟨"LevelStoreModel", "get", "(II)I"⟩ : MethodName) ∈ lw_tbl := List.mem_of_getElem? (i := 1009) (by decide +kernel)
theorem gw_1009 : Cond.selects "LevelStoreModel" (⟨"LevelStoreModel", "get", "(II)I"⟩ : MethodName) (⟨"LevelStoreModel", "get", "(II)I"⟩ : MethodName) ∈ ga_G := List.mem_filter.mpr ⟨gl_1009, rfl⟩
theorem gl_1010 : Cond.code y_R_get c_R_get 3 (some .int) ∈ lw_tbl := List.mem_of_getElem? (i := 1010) (by decide +kernel)
theorem gw_1010 : Cond.code y_R_get c_R_get 3 (some .int) ∈ ga_G := List.mem_filter.mpr ⟨gl_1010, rfl⟩
theorem gl_1041 : Cond.methodLink "LevelStoreLaw" 108 (⟨"LevelStoreModel", "next", "(II)I"⟩ : MethodName) ∈ lw_tbl := List.mem_of_getElem? (i := 1041) (by decide +kernel)
theorem gw_1041 : Cond.methodLink "LevelStoreLaw" 108 (⟨"LevelStoreModel", "next", "(II)I"⟩ : MethodName) ∈ ga_G := List.mem_filter.mpr ⟨gl_1041, rfl⟩
theorem gl_1042 : Cond.instanceMethod (⟨"LevelStoreModel", "next", "(II)I"⟩ : MethodName) ∈ lw_tbl := List.mem_of_getElem? (i := 1042) (by decide +kernel)
theorem gw_1042 : Cond.instanceMethod (⟨"LevelStoreModel", "next", "(II)I"⟩ : MethodName) ∈ ga_G := List.mem_filter.mpr ⟨gl_1042, rfl⟩
theorem gl_1043 : Cond.selects "LevelStoreModel" (⟨"LevelStoreModel", "next", "(II)I"⟩ : MethodName) (⟨"LevelStoreModel", "next", "(II)I"⟩ : MethodName) ∈ lw_tbl := List.mem_of_getElem? (i := 1043) (by decide +kernel)
theorem gw_1043 : Cond.selects "LevelStoreModel" (⟨"LevelStoreModel", "next", "(II)I"⟩ : MethodName) (⟨"LevelStoreModel", "next", "(II)I"⟩ : MethodName) ∈ ga_G := List.mem_filter.mpr ⟨gl_1043, rfl⟩
theorem gl_1044 : Cond.code y_R_next c_R_next 4 (some .int) ∈ lw_tbl := List.mem_of_getElem? (i := 1044) (by decide +kernel)
theorem gw_1044 : Cond.code y_R_next c_R_next 4 (some .int) ∈ ga_G := List.mem_filter.mpr ⟨gl_1044, rfl⟩
theorem gl_1049 : Cond.methodLink "LevelStoreLaw" 111 (⟨"LevelStoreModel", "snapshot", "()I"⟩ : MethodName) ∈ lw_tbl := List.mem_of_getElem? (i := 1049) (by decide +kernel)
theorem gw_1049 : Cond.methodLink "LevelStoreLaw" 111 (⟨"LevelStoreModel", "snapshot", "()I"⟩ : MethodName) ∈ ga_G := List.mem_filter.mpr ⟨gl_1049, rfl⟩
theorem gl_1050 : Cond.instanceMethod (⟨"LevelStoreModel", "snapshot", "()I"⟩ : MethodName) ∈ lw_tbl := List.mem_of_getElem? (i := 1050) (by decide +kernel)
theorem gw_1050 : Cond.instanceMethod (⟨"LevelStoreModel", "snapshot", "()I"⟩ : MethodName) ∈ ga_G := List.mem_filter.mpr ⟨gl_1050, rfl⟩
theorem gl_1051 : Cond.selects "LevelStoreModel" (⟨"LevelStoreModel", "snapshot", "()I"⟩ : MethodName) (⟨"LevelStoreModel", "snapshot", "()I"⟩ : MethodName) ∈ lw_tbl := List.mem_of_getElem? (i := 1051) (by decide +kernel)
theorem gw_1051 : Cond.selects "LevelStoreModel" (⟨"LevelStoreModel", "snapshot", "()I"⟩ : MethodName) (⟨"LevelStoreModel", "snapshot", "()I"⟩ : MethodName) ∈ ga_G := List.mem_filter.mpr ⟨gl_1051, rfl⟩
theorem gl_1052 : Cond.code y_R_snapshot c_R_snapshot 2 (some .int) ∈ lw_tbl := List.mem_of_getElem? (i := 1052) (by decide +kernel)
theorem gw_1052 : Cond.code y_R_snapshot c_R_snapshot 2 (some .int) ∈ ga_G := List.mem_filter.mpr ⟨gl_1052, rfl⟩
theorem gl_1053 : Cond.methodLink "LevelStoreLaw" 114 (⟨"LevelStoreModel", "release", "(I)I"⟩ : MethodName) ∈ lw_tbl := List.mem_of_getElem? (i := 1053) (by decide +kernel)
theorem gw_1053 : Cond.methodLink "LevelStoreLaw" 114 (⟨"LevelStoreModel", "release", "(I)I"⟩ : MethodName) ∈ ga_G := List.mem_filter.mpr ⟨gl_1053, rfl⟩
theorem gl_1054 : Cond.instanceMethod (⟨"LevelStoreModel", "release", "(I)I"⟩ : MethodName) ∈ lw_tbl := List.mem_of_getElem? (i := 1054) (by decide +kernel)
theorem gw_1054 : Cond.instanceMethod (⟨"LevelStoreModel", "release", "(I)I"⟩ : MethodName) ∈ ga_G := List.mem_filter.mpr ⟨gl_1054, rfl⟩
theorem gl_1055 : Cond.selects "LevelStoreModel" (⟨"LevelStoreModel", "release", "(I)I"⟩ : MethodName) (⟨"LevelStoreModel", "release", "(I)I"⟩ : MethodName) ∈ lw_tbl := List.mem_of_getElem? (i := 1055) (by decide +kernel)
theorem gw_1055 : Cond.selects "LevelStoreModel" (⟨"LevelStoreModel", "release", "(I)I"⟩ : MethodName) (⟨"LevelStoreModel", "release", "(I)I"⟩ : MethodName) ∈ ga_G := List.mem_filter.mpr ⟨gl_1055, rfl⟩
theorem gl_1056 : Cond.code y_R_release c_R_release 3 (some .int) ∈ lw_tbl := List.mem_of_getElem? (i := 1056) (by decide +kernel)
theorem gw_1056 : Cond.code y_R_release c_R_release 3 (some .int) ∈ ga_G := List.mem_filter.mpr ⟨gl_1056, rfl⟩
theorem gl_1057 : Cond.methodLink "LevelStoreLaw" 117 (⟨"LevelStoreModel", "spoil", "(II)I"⟩ : MethodName) ∈ lw_tbl := List.mem_of_getElem? (i := 1057) (by decide +kernel)
theorem gw_1057 : Cond.methodLink "LevelStoreLaw" 117 (⟨"LevelStoreModel", "spoil", "(II)I"⟩ : MethodName) ∈ ga_G := List.mem_filter.mpr ⟨gl_1057, rfl⟩
theorem gl_1058 : Cond.instanceMethod (⟨"LevelStoreModel", "spoil", "(II)I"⟩ : MethodName) ∈ lw_tbl := List.mem_of_getElem? (i := 1058) (by decide +kernel)
theorem gw_1058 : Cond.instanceMethod (⟨"LevelStoreModel", "spoil", "(II)I"⟩ : MethodName) ∈ ga_G := List.mem_filter.mpr ⟨gl_1058, rfl⟩
theorem gl_1059 : Cond.selects "LevelStoreModel" (⟨"LevelStoreModel", "spoil", "(II)I"⟩ : MethodName) (⟨"LevelStoreModel", "spoil", "(II)I"⟩ : MethodName) ∈ lw_tbl := List.mem_of_getElem? (i := 1059) (by decide +kernel)
theorem gw_1059 : Cond.selects "LevelStoreModel" (⟨"LevelStoreModel", "spoil", "(II)I"⟩ : MethodName) (⟨"LevelStoreModel", "spoil", "(II)I"⟩ : MethodName) ∈ ga_G := List.mem_filter.mpr ⟨gl_1059, rfl⟩
theorem gl_1060 : Cond.code y_R_spoil c_R_spoil 3 (some .int) ∈ lw_tbl := List.mem_of_getElem? (i := 1060) (by decide +kernel)
theorem gw_1060 : Cond.code y_R_spoil c_R_spoil 3 (some .int) ∈ ga_G := List.mem_filter.mpr ⟨gl_1060, rfl⟩
theorem gl_1065 : Cond.methodLink "LevelStoreLaw" 121 (⟨"LevelStoreModel", "giveUp", "()I"⟩ : MethodName) ∈ lw_tbl := List.mem_of_getElem? (i := 1065) (by decide +kernel)
theorem gw_1065 : Cond.methodLink "LevelStoreLaw" 121 (⟨"LevelStoreModel", "giveUp", "()I"⟩ : MethodName) ∈ ga_G := List.mem_filter.mpr ⟨gl_1065, rfl⟩
theorem gl_1066 : Cond.instanceMethod (⟨"LevelStoreModel", "giveUp", "()I"⟩ : MethodName) ∈ lw_tbl := List.mem_of_getElem? (i := 1066) (by decide +kernel)
theorem gw_1066 : Cond.instanceMethod (⟨"LevelStoreModel", "giveUp", "()I"⟩ : MethodName) ∈ ga_G := List.mem_filter.mpr ⟨gl_1066, rfl⟩
theorem gl_1067 : Cond.selects "LevelStoreModel" (⟨"LevelStoreModel", "giveUp", "()I"⟩ : MethodName) (⟨"LevelStoreModel", "giveUp", "()I"⟩ : MethodName) ∈ lw_tbl := List.mem_of_getElem? (i := 1067) (by decide +kernel)
theorem gw_1067 : Cond.selects "LevelStoreModel" (⟨"LevelStoreModel", "giveUp", "()I"⟩ : MethodName) (⟨"LevelStoreModel", "giveUp", "()I"⟩ : MethodName) ∈ ga_G := List.mem_filter.mpr ⟨gl_1067, rfl⟩
theorem gl_1068 : Cond.code y_R_giveUp c_R_giveUp 3 (some .int) ∈ lw_tbl := List.mem_of_getElem? (i := 1068) (by decide +kernel)
theorem gw_1068 : Cond.code y_R_giveUp c_R_giveUp 3 (some .int) ∈ ga_G := List.mem_filter.mpr ⟨gl_1068, rfl⟩
theorem gl_1073 : Cond.methodLink "LevelStoreLaw" 125 (⟨"LevelStoreModel", "effort", "()D"⟩ : MethodName) ∈ lw_tbl := List.mem_of_getElem? (i := 1073) (by decide +kernel)
theorem gw_1073 : Cond.methodLink "LevelStoreLaw" 125 (⟨"LevelStoreModel", "effort", "()D"⟩ : MethodName) ∈ ga_G := List.mem_filter.mpr ⟨gl_1073, rfl⟩
theorem gl_1074 : Cond.instanceMethod (⟨"LevelStoreModel", "effort", "()D"⟩ : MethodName) ∈ lw_tbl := List.mem_of_getElem? (i := 1074) (by decide +kernel)
theorem gw_1074 : Cond.instanceMethod (⟨"LevelStoreModel", "effort", "()D"⟩ : MethodName) ∈ ga_G := List.mem_filter.mpr ⟨gl_1074, rfl⟩
theorem gl_1075 : Cond.selects "LevelStoreModel" (⟨"LevelStoreModel", "effort", "()D"⟩ : MethodName) (⟨"LevelStoreModel", "effort", "()D"⟩ : MethodName) ∈ lw_tbl := List.mem_of_getElem? (i := 1075) (by decide +kernel)
theorem gw_1075 : Cond.selects "LevelStoreModel" (⟨"LevelStoreModel", "effort", "()D"⟩ : MethodName) (⟨"LevelStoreModel", "effort", "()D"⟩ : MethodName) ∈ ga_G := List.mem_filter.mpr ⟨gl_1075, rfl⟩
theorem gl_1076 : Cond.code y_R_effort c_R_effort 1 (some .double) ∈ lw_tbl := List.mem_of_getElem? (i := 1076) (by decide +kernel)
theorem gw_1076 : Cond.code y_R_effort c_R_effort 1 (some .double) ∈ ga_G := List.mem_filter.mpr ⟨gl_1076, rfl⟩
theorem gl_1077 : Cond.methodLink "LevelStoreLaw" 128 (⟨"LevelStoreModel", "table", "(II)I"⟩ : MethodName) ∈ lw_tbl := List.mem_of_getElem? (i := 1077) (by decide +kernel)
theorem gw_1077 : Cond.methodLink "LevelStoreLaw" 128 (⟨"LevelStoreModel", "table", "(II)I"⟩ : MethodName) ∈ ga_G := List.mem_filter.mpr ⟨gl_1077, rfl⟩
theorem gl_1078 : Cond.instanceMethod (⟨"LevelStoreModel", "table", "(II)I"⟩ : MethodName) ∈ lw_tbl := List.mem_of_getElem? (i := 1078) (by decide +kernel)
theorem gw_1078 : Cond.instanceMethod (⟨"LevelStoreModel", "table", "(II)I"⟩ : MethodName) ∈ ga_G := List.mem_filter.mpr ⟨gl_1078, rfl⟩
theorem gl_1079 : Cond.selects "LevelStoreModel" (⟨"LevelStoreModel", "table", "(II)I"⟩ : MethodName) (⟨"LevelStoreModel", "table", "(II)I"⟩ : MethodName) ∈ lw_tbl := List.mem_of_getElem? (i := 1079) (by decide +kernel)
theorem gw_1079 : Cond.selects "LevelStoreModel" (⟨"LevelStoreModel", "table", "(II)I"⟩ : MethodName) (⟨"LevelStoreModel", "table", "(II)I"⟩ : MethodName) ∈ ga_G := List.mem_filter.mpr ⟨gl_1079, rfl⟩
theorem gl_1080 : Cond.code y_R_table c_R_table 3 (some .int) ∈ lw_tbl := List.mem_of_getElem? (i := 1080) (by decide +kernel)
theorem gw_1080 : Cond.code y_R_table c_R_table 3 (some .int) ∈ ga_G := List.mem_filter.mpr ⟨gl_1080, rfl⟩
theorem gl_1084 : Cond.methodLink "LevelStoreLaw" 131 (⟨"LevelStoreModel", "count", "(I)I"⟩ : MethodName) ∈ lw_tbl := List.mem_of_getElem? (i := 1084) (by decide +kernel)
theorem gw_1084 : Cond.methodLink "LevelStoreLaw" 131 (⟨"LevelStoreModel", "count", "(I)I"⟩ : MethodName) ∈ ga_G := List.mem_filter.mpr ⟨gl_1084, rfl⟩
theorem gl_1085 : Cond.instanceMethod (⟨"LevelStoreModel", "count", "(I)I"⟩ : MethodName) ∈ lw_tbl := List.mem_of_getElem? (i := 1085) (by decide +kernel)
theorem gw_1085 : Cond.instanceMethod (⟨"LevelStoreModel", "count", "(I)I"⟩ : MethodName) ∈ ga_G := List.mem_filter.mpr ⟨gl_1085, rfl⟩
theorem gl_1086 : Cond.selects "LevelStoreModel" (⟨"LevelStoreModel", "count", "(I)I"⟩ : MethodName) (⟨"LevelStoreModel", "count", "(I)I"⟩ : MethodName) ∈ lw_tbl := List.mem_of_getElem? (i := 1086) (by decide +kernel)
theorem gw_1086 : Cond.selects "LevelStoreModel" (⟨"LevelStoreModel", "count", "(I)I"⟩ : MethodName) (⟨"LevelStoreModel", "count", "(I)I"⟩ : MethodName) ∈ ga_G := List.mem_filter.mpr ⟨gl_1086, rfl⟩
theorem gl_1087 : Cond.code y_R_count c_R_count 2 (some .int) ∈ lw_tbl := List.mem_of_getElem? (i := 1087) (by decide +kernel)
theorem gw_1087 : Cond.code y_R_count c_R_count 2 (some .int) ∈ ga_G := List.mem_filter.mpr ⟨gl_1087, rfl⟩
theorem gl_1088 : Cond.arrayClass .double ∈ lw_tbl := List.mem_of_getElem? (i := 1088) (by decide +kernel)
theorem gw_1088 : Cond.arrayClass .double ∈ ga_G := List.mem_filter.mpr ⟨gl_1088, rfl⟩
