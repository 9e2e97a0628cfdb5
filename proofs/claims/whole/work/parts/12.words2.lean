theorem gw_366 : Cond.instanceMethod (⟨"LevelStore$Shelf", "placeBehind", "(II)I"⟩ : MethodName) ∈ ga_G := List.mem_filter.mpr ⟨gl_366, rfl⟩
theorem gl_367 : Cond.selects "LevelStore$Shelf" (⟨"LevelStore$Shelf", "placeBehind", "(II)I"⟩ : MethodName) (⟨"LevelStore$Shelf", "placeBehind", "(II)I"⟩ : MethodName) ∈ lw_tbl := List.mem_of_getElem? (i := 367) (by decide +kernel)
theorem gw_367 : Cond.selects "LevelStore$Shelf" (⟨"LevelStore$Shelf", "placeBehind", "(II)I"⟩ : MethodName) (⟨"LevelStore$Shelf", "placeBehind", "(II)I"⟩ : MethodName) ∈ ga_G := List.mem_filter.mpr ⟨gl_367, rfl⟩
theorem gl_368 : Cond.code y_S_placeBehind c_S_placeBehind 4 (some .int) ∈ lw_tbl := List.mem_of_getElem? (i := 368) (by decide +kernel)
theorem gw_368 : Cond.code y_S_placeBehind c_S_placeBehind 4 (some .int) ∈ ga_G := List.mem_filter.mpr ⟨gl_368, rfl⟩
theorem gl_369 : Cond.methodLink "LevelStore$Levels" 146 (⟨"LevelStore$Levels", "addStaying", "(II)V"⟩ : MethodName) ∈ lw_tbl := List.mem_of_getElem? (i := 369) (by decide +kernel)
theorem gw_369 : Cond.methodLink "LevelStore$Levels" 146 (⟨"LevelStore$Levels", "addStaying", "(II)V"⟩ : MethodName) ∈ ga_G := List.mem_filter.mpr ⟨gl_369, rfl⟩
theorem gl_371 : Cond.instanceMethod (⟨"LevelStore$Levels", "addStaying", "(II)V"⟩ : MethodName) ∈ lw_tbl := List.mem_of_getElem? (i := 371) (by decide +kernel)
theorem gw_371 : Cond.instanceMethod (⟨"LevelStore$Levels", "addStaying", "(II)V"⟩ : MethodName) ∈ ga_G := List.mem_filter.mpr ⟨gl_371, rfl⟩
theorem gl_372 : Cond.code y_V_addStaying c_V_addStaying 4 none ∈ lw_tbl := List.mem_of_getElem? (i := 372) (by decide +kernel)
theorem gw_372 : Cond.code y_V_addStaying c_V_addStaying 4 none ∈ ga_G := List.mem_filter.mpr ⟨gl_372, rfl⟩
theorem gl_373 : Cond.methodLink "LevelStore$Levels" 80 (⟨"LevelStore$Shelf", "addTable", "(LLevelStore$Shelf;I)V"⟩ : MethodName) ∈ lw_tbl := List.mem_of_getElem? (i := 373) (by decide +kernel)
theorem gw_373 : Cond.methodLink "LevelStore$Levels" 80 (⟨"LevelStore$Shelf", "addTable", "(LLevelStore$Shelf;I)V"⟩ : MethodName) ∈ ga_G := List.mem_filter.mpr ⟨gl_373, rfl⟩
theorem gl_374 : Cond.instanceMethod (⟨"LevelStore$Shelf", "addTable", "(LLevelStore$Shelf;I)V"⟩ : MethodName) ∈ lw_tbl := List.mem_of_getElem? (i := 374) (by decide +kernel)
theorem gw_374 : Cond.instanceMethod (⟨"LevelStore$Shelf", "addTable", "(LLevelStore$Shelf;I)V"⟩ : MethodName) ∈ ga_G := List.mem_filter.mpr ⟨gl_374, rfl⟩
theorem gl_375 : Cond.selects "LevelStore$Shelf" (⟨"LevelStore$Shelf", "addTable", "(LLevelStore$Shelf;I)V"⟩ : MethodName) (⟨"LevelStore$Shelf", "addTable", "(LLevelStore$Shelf;I)V"⟩ : MethodName) ∈ lw_tbl := List.mem_of_getElem? (i := 375) (by decide +kernel)
theorem gw_375 : Cond.selects "LevelStore$Shelf" (⟨"LevelStore$Shelf", "addTable", "(LLevelStore$Shelf;I)V"⟩ : MethodName) (⟨"LevelStore$Shelf", "addTable", "(LLevelStore$Shelf;I)V"⟩ : MethodName) ∈ ga_G := List.mem_filter.mpr ⟨gl_375, rfl⟩
theorem gl_376 : Cond.code y_S_addTable c_S_addTable 4 none ∈ lw_tbl := List.mem_of_getElem? (i := 376) (by decide +kernel)
theorem gw_376 : Cond.code y_S_addTable c_S_addTable 4 none ∈ ga_G := List.mem_filter.mpr ⟨gl_376, rfl⟩
theorem gl_377 : Cond.methodLink "LevelStore$Shelf" 37 (⟨"LevelStore$Entries", "addFrom", "(LLevelStore$Entries;I)V"⟩ : MethodName) ∈ lw_tbl := List.mem_of_getElem? (i := 377) (by decide +kernel)
theorem gw_377 : Cond.methodLink "LevelStore$Shelf" 37 (⟨"LevelStore$Entries", "addFrom", "(LLevelStore$Entries;I)V"⟩ : MethodName) ∈ ga_G := List.mem_filter.mpr ⟨gl_377, rfl⟩
theorem gl_378 : Cond.methodLink "LevelStore$Shelf" 41 (⟨"LevelStore$Shelf", "endTable", "(II)V"⟩ : MethodName) ∈ lw_tbl := List.mem_of_getElem? (i := 378) (by decide +kernel)
theorem gw_378 : Cond.methodLink "LevelStore$Shelf" 41 (⟨"LevelStore$Shelf", "endTable", "(II)V"⟩ : MethodName) ∈ ga_G := List.mem_filter.mpr ⟨gl_378, rfl⟩
theorem gl_379 : Cond.methodLink "LevelStore$Levels" 149 (⟨"LevelStore$Levels", "addMerged", "(II)V"⟩ : MethodName) ∈ lw_tbl := List.mem_of_getElem? (i := 379) (by decide +kernel)
theorem gw_379 : Cond.methodLink "LevelStore$Levels" 149 (⟨"LevelStore$Levels", "addMerged", "(II)V"⟩ : MethodName) ∈ ga_G := List.mem_filter.mpr ⟨gl_379, rfl⟩
theorem gl_381 : Cond.instanceMethod (⟨"LevelStore$Levels", "addMerged", "(II)V"⟩ : MethodName) ∈ lw_tbl := List.mem_of_getElem? (i := 381) (by decide +kernel)
theorem gw_381 : Cond.instanceMethod (⟨"LevelStore$Levels", "addMerged", "(II)V"⟩ : MethodName) ∈ ga_G := List.mem_filter.mpr ⟨gl_381, rfl⟩
theorem gl_382 : Cond.code y_V_addMerged c_V_addMerged 7 none ∈ lw_tbl := List.mem_of_getElem? (i := 382) (by decide +kernel)
theorem gw_382 : Cond.code y_V_addMerged c_V_addMerged 7 none ∈ ga_G := List.mem_filter.mpr ⟨gl_382, rfl⟩
theorem gl_383 : Cond.methodLink "LevelStore$Levels" 155 (⟨"LevelStore$Levels", "isOutdated", "(II)Z"⟩ : MethodName) ∈ lw_tbl := List.mem_of_getElem? (i := 383) (by decide +kernel)
theorem gw_383 : Cond.methodLink "LevelStore$Levels" 155 (⟨"LevelStore$Levels", "isOutdated", "(II)Z"⟩ : MethodName) ∈ ga_G := List.mem_filter.mpr ⟨gl_383, rfl⟩
theorem gl_385 : Cond.instanceMethod (⟨"LevelStore$Levels", "isOutdated", "(II)Z"⟩ : MethodName) ∈ lw_tbl := List.mem_of_getElem? (i := 385) (by decide +kernel)
theorem gw_385 : Cond.instanceMethod (⟨"LevelStore$Levels", "isOutdated", "(II)Z"⟩ : MethodName) ∈ ga_G := List.mem_filter.mpr ⟨gl_385, rfl⟩
theorem gl_386 : Cond.code y_V_isOutdated c_V_isOutdated 3 (some .boolean) ∈ lw_tbl := List.mem_of_getElem? (i := 386) (by decide +kernel)
theorem gw_386 : Cond.code y_V_isOutdated c_V_isOutdated 3 (some .boolean) ∈ ga_G := List.mem_filter.mpr ⟨gl_386, rfl⟩
theorem gl_387 : Cond.methodLink "LevelStore$Levels" 159 (⟨"LevelStore$Levels", "isNeedless", "(III)Z"⟩ : MethodName) ∈ lw_tbl := List.mem_of_getElem? (i := 387) (by decide +kernel)
theorem gw_387 : Cond.methodLink "LevelStore$Levels" 159 (⟨"LevelStore$Levels", "isNeedless", "(III)Z"⟩ : MethodName) ∈ ga_G := List.mem_filter.mpr ⟨gl_387, rfl⟩
theorem gl_389 : Cond.instanceMethod (⟨"LevelStore$Levels", "isNeedless", "(III)Z"⟩ : MethodName) ∈ lw_tbl := List.mem_of_getElem? (i := 389) (by decide +kernel)
theorem gw_389 : Cond.instanceMethod (⟨"LevelStore$Levels", "isNeedless", "(III)Z"⟩ : MethodName) ∈ ga_G := List.mem_filter.mpr ⟨gl_389, rfl⟩
theorem gl_390 : Cond.code y_V_isNeedless c_V_isNeedless 5 (some .boolean) ∈ lw_tbl := List.mem_of_getElem? (i := 390) (by decide +kernel)
theorem gw_390 : Cond.code y_V_isNeedless c_V_isNeedless 5 (some .boolean) ∈ ga_G := List.mem_filter.mpr ⟨gl_390, rfl⟩
theorem gl_391 : Cond.methodLink "LevelStore$Levels" 169 (⟨"LevelStore$Shelf", "spans", "(II)Z"⟩ : MethodName) ∈ lw_tbl := List.mem_of_getElem? (i := 391) (by decide +kernel)
theorem gw_391 : Cond.methodLink "LevelStore$Levels" 169 (⟨"LevelStore$Shelf", "spans", "(II)Z"⟩ : MethodName) ∈ ga_G := List.mem_filter.mpr ⟨gl_391, rfl⟩
theorem gl_392 : Cond.instanceMethod (⟨"LevelStore$Shelf", "spans", "(II)Z"⟩ : MethodName) ∈ lw_tbl := List.mem_of_getElem? (i := 392) (by decide +kernel)
theorem gw_392 : Cond.instanceMethod (⟨"LevelStore$Shelf", "spans", "(II)Z"⟩ : MethodName) ∈ ga_G := List.mem_filter.mpr ⟨gl_392, rfl⟩
theorem gl_393 : Cond.selects "LevelStore$Shelf" (⟨"LevelStore$Shelf", "spans", "(II)Z"⟩ : MethodName) (⟨"LevelStore$Shelf", "spans", "(II)Z"⟩ : MethodName) ∈ lw_tbl := List.mem_of_getElem? (i := 393) (by decide +kernel)
theorem gw_393 : Cond.selects "LevelStore$Shelf" (⟨"LevelStore$Shelf", "spans", "(II)Z"⟩ : MethodName) (⟨"LevelStore$Shelf", "spans", "(II)Z"⟩ : MethodName) ∈ ga_G := List.mem_filter.mpr ⟨gl_393, rfl⟩
theorem gl_394 : Cond.code y_S_spans c_S_spans 3 (some .boolean) ∈ lw_tbl := List.mem_of_getElem? (i := 394) (by decide +kernel)
theorem gw_394 : Cond.code y_S_spans c_S_spans 3 (some .boolean) ∈ ga_G := List.mem_filter.mpr ⟨gl_394, rfl⟩
theorem gl_395 : Cond.methodLink "LevelStore$Levels" 74 (⟨"LevelStore$Levels", "endNewTable", "(I)V"⟩ : MethodName) ∈ lw_tbl := List.mem_of_getElem? (i := 395) (by decide +kernel)
theorem gw_395 : Cond.methodLink "LevelStore$Levels" 74 (⟨"LevelStore$Levels", "endNewTable", "(I)V"⟩ : MethodName) ∈ ga_G := List.mem_filter.mpr ⟨gl_395, rfl⟩
theorem gl_397 : Cond.instanceMethod (⟨"LevelStore$Levels", "endNewTable", "(I)V"⟩ : MethodName) ∈ lw_tbl := List.mem_of_getElem? (i := 397) (by decide +kernel)
theorem gw_397 : Cond.instanceMethod (⟨"LevelStore$Levels", "endNewTable", "(I)V"⟩ : MethodName) ∈ ga_G := List.mem_filter.mpr ⟨gl_397, rfl⟩
theorem gl_398 : Cond.code y_V_endNewTable c_V_endNewTable 2 none ∈ lw_tbl := List.mem_of_getElem? (i := 398) (by decide +kernel)
theorem gw_398 : Cond.code y_V_endNewTable c_V_endNewTable 2 none ∈ ga_G := List.mem_filter.mpr ⟨gl_398, rfl⟩
theorem gl_402 : Cond.classLink "LevelStoreLaw" 13 "java/lang/IllegalArgumentException" ∈ lw_tbl := List.mem_of_getElem? (i := 402) (by decide +kernel)
theorem gw_402 : Cond.classLink "LevelStoreLaw" 13 "java/lang/IllegalArgumentException" ∈ ga_G := List.mem_filter.mpr ⟨gl_402, rfl⟩
theorem gl_403 : Cond.classLink "LevelStoreLaw" 15 "java/lang/IllegalStateException" ∈ lw_tbl := List.mem_of_getElem? (i := 403) (by decide +kernel)
theorem gw_403 : Cond.classLink "LevelStoreLaw" 15 "java/lang/IllegalStateException" ∈ ga_G := List.mem_filter.mpr ⟨gl_403, rfl⟩
theorem gl_404 : Cond.classLink "LevelStoreLaw" 17 "java/lang/UnsupportedOperationException" ∈ lw_tbl := List.mem_of_getElem? (i := 404) (by decide +kernel)
theorem gw_404 : Cond.classLink "LevelStoreLaw" 17 "java/lang/UnsupportedOperationException" ∈ ga_G := List.mem_filter.mpr ⟨gl_404, rfl⟩
theorem gl_405 : Cond.methodLink "LevelStoreLaw" 7 (⟨"LevelStore", "put", "(II)I"⟩ : MethodName) ∈ lw_tbl := List.mem_of_getElem? (i := 405) (by decide +kernel)
theorem gw_405 : Cond.methodLink "LevelStoreLaw" 7 (⟨"LevelStore", "put", "(II)I"⟩ : MethodName) ∈ ga_G := List.mem_filter.mpr ⟨gl_405, rfl⟩
theorem gl_406 : Cond.instanceMethod (⟨"LevelStore", "put", "(II)I"⟩ : MethodName) ∈ lw_tbl := List.mem_of_getElem? (i := 406) (by decide +kernel)
theorem gw_406 : Cond.instanceMethod (⟨"LevelStore", "put", "(II)I"⟩ : MethodName) ∈ ga_G := List.mem_filter.mpr ⟨gl_406, rfl⟩
theorem gl_407 : Cond.selects "LevelStore" (⟨"LevelStore", "put", "(II)I"⟩ : MethodName) (⟨"LevelStore", "put", "(II)I"⟩ : MethodName) ∈ lw_tbl := List.mem_of_getElem? (i := 407) (by decide +kernel)
theorem gw_407 : Cond.selects "LevelStore" (⟨"LevelStore", "put", "(II)I"⟩ : MethodName) (⟨"LevelStore", "put", "(II)I"⟩ : MethodName) ∈ ga_G := List.mem_filter.mpr ⟨gl_407, rfl⟩
theorem gl_408 : Cond.code y_L_put c_L_put 3 (some .int) ∈ lw_tbl := List.mem_of_getElem? (i := 408) (by decide +kernel)
theorem gw_408 : Cond.code y_L_put c_L_put 3 (some .int) ∈ ga_G := List.mem_filter.mpr ⟨gl_408, rfl⟩
theorem gl_409 : Cond.methodLink "LevelStore" 42 (⟨"LevelStore", "addToPending", "(IIZ)V"⟩ : MethodName) ∈ lw_tbl := List.mem_of_getElem? (i := 409) (by decide +kernel)
theorem gw_409 : Cond.methodLink "LevelStore" 42 (⟨"LevelStore", "addToPending", "(IIZ)V"⟩ : MethodName) ∈ ga_G := List.mem_filter.mpr ⟨gl_409, rfl⟩
theorem gl_411 : Cond.instanceMethod (⟨"LevelStore", "addToPending", "(IIZ)V"⟩ : MethodName) ∈ lw_tbl := List.mem_of_getElem? (i := 411) (by decide +kernel)
theorem gw_411 : Cond.instanceMethod (⟨"LevelStore", "addToPending", "(IIZ)V"⟩ : MethodName) ∈ ga_G := List.mem_filter.mpr ⟨gl_411, rfl⟩
theorem gl_412 : Cond.code y_L_addToPending c_L_addToPending 4 none ∈ lw_tbl := List.mem_of_getElem? (i := 412) (by decide +kernel)
theorem gw_412 : Cond.code y_L_addToPending c_L_addToPending 4 none ∈ ga_G := List.mem_filter.mpr ⟨gl_412, rfl⟩
theorem gl_413 : Cond.methodLink "LevelStore" 73 (⟨"LevelStore", "requireWithin", "(III)V"⟩ : MethodName) ∈ lw_tbl := List.mem_of_getElem? (i := 413) (by decide +kernel)
theorem gw_413 : Cond.methodLink "LevelStore" 73 (⟨"LevelStore", "requireWithin", "(III)V"⟩ : MethodName) ∈ ga_G := List.mem_filter.mpr ⟨gl_413, rfl⟩
theorem gl_414 : Cond.static (⟨"LevelStore", "requireWithin", "(III)V"⟩ : MethodName) ∈ lw_tbl := List.mem_of_getElem? (i := 414) (by decide +kernel)
theorem gw_414 : Cond.static (⟨"LevelStore", "requireWithin", "(III)V"⟩ : MethodName) ∈ ga_G := List.mem_filter.mpr ⟨gl_414, rfl⟩
theorem gl_415 : Cond.code y_L_requireWithin c_L_requireWithin 3 none ∈ lw_tbl := List.mem_of_getElem? (i := 415) (by decide +kernel)
theorem gw_415 : Cond.code y_L_requireWithin c_L_requireWithin 3 none ∈ ga_G := List.mem_filter.mpr ⟨gl_415, rfl⟩
theorem gl_416 : Cond.classLink "LevelStore" 196 "java/lang/IllegalArgumentException" ∈ lw_tbl := List.mem_of_getElem? (i := 416) (by decide +kernel)
theorem gw_416 : Cond.classLink "LevelStore" 196 "java/lang/IllegalArgumentException" ∈ ga_G := List.mem_filter.mpr ⟨gl_416, rfl⟩
theorem gl_418 : Cond.castable "java/lang/IllegalArgumentException" "java/lang/IllegalArgumentException" ∈ lw_tbl := List.mem_of_getElem? (i := 418) (by decide +kernel)
theorem gl_460 : Cond.methodLink "LevelStore" 198 (⟨"java/lang/IllegalArgumentException", "<init>", "()V"⟩ : MethodName) ∈ lw_tbl := List.mem_of_getElem? (i := 460) (by decide +kernel)
theorem gw_460 : Cond.methodLink "LevelStore" 198 (⟨"java/lang/IllegalArgumentException", "<init>", "()V"⟩ : MethodName) ∈ ga_G := List.mem_filter.mpr ⟨gl_460, rfl⟩
theorem gl_482 : Cond.classLink "LevelStore" 64 "java/lang/UnsupportedOperationException" ∈ lw_tbl := List.mem_of_getElem? (i := 482) (by decide +kernel)
theorem gw_482 : Cond.classLink "LevelStore" 64 "java/lang/UnsupportedOperationException" ∈ ga_G := List.mem_filter.mpr ⟨gl_482, rfl⟩
theorem gl_484 : Cond.castable "java/lang/UnsupportedOperationException" "java/lang/UnsupportedOperationException" ∈ lw_tbl := List.mem_of_getElem? (i := 484) (by decide +kernel)
theorem gl_491 : Cond.methodLink "LevelStore" 66 (⟨"java/lang/UnsupportedOperationException", "<init>", "()V"⟩ : MethodName) ∈ lw_tbl := List.mem_of_getElem? (i := 491) (by decide +kernel)
theorem gw_491 : Cond.methodLink "LevelStore" 66 (⟨"java/lang/UnsupportedOperationException", "<init>", "()V"⟩ : MethodName) ∈ ga_G := List.mem_filter.mpr ⟨gl_491, rfl⟩
theorem gl_497 : Cond.methodLink "LevelStore" 202 (⟨"LevelStore$Entries", "add", "(IIIZ)V"⟩ : MethodName) ∈ lw_tbl := List.mem_of_getElem? (i := 497) (by decide +kernel)
theorem gw_497 : Cond.methodLink "LevelStore" 202 (⟨"LevelStore$Entries", "add", "(IIIZ)V"⟩ : MethodName) ∈ ga_G := List.mem_filter.mpr ⟨gl_497, rfl⟩
theorem gl_498 : Cond.instanceMethod (⟨"LevelStore$Entries", "add", "(IIIZ)V"⟩ : MethodName) ∈ lw_tbl := List.mem_of_getElem? (i := 498) (by decide +kernel)
theorem gw_498 : Cond.instanceMethod (⟨"LevelStore$Entries", "add", "(IIIZ)V"⟩ : MethodName) ∈ ga_G := List.mem_filter.mpr ⟨gl_498, rfl⟩
theorem gl_499 : Cond.selects "LevelStore$Entries" (⟨"LevelStore$Entries", "add", "(IIIZ)V"⟩ : MethodName) (⟨"LevelStore$Entries", "add", "(IIIZ)V"⟩ : MethodName) ∈ lw_tbl := List.mem_of_getElem? (i := 499) (by decide +kernel)
theorem gw_499 : Cond.selects "LevelStore$Entries" (⟨"LevelStore$Entries", "add", "(IIIZ)V"⟩ : MethodName) (⟨"LevelStore$Entries", "add", "(IIIZ)V"⟩ : MethodName) ∈ ga_G := List.mem_filter.mpr ⟨gl_499, rfl⟩
theorem gl_500 : Cond.code y_E_add c_E_add 5 none ∈ lw_tbl := List.mem_of_getElem? (i := 500) (by decide +kernel)
theorem gw_500 : Cond.code y_E_add c_E_add 5 none ∈ ga_G := List.mem_filter.mpr ⟨gl_500, rfl⟩
theorem gl_501 : Cond.methodLink "LevelStore" 54 (⟨"LevelStore", "write", "()I"⟩ : MethodName) ∈ lw_tbl := List.mem_of_getElem? (i := 501) (by decide +kernel)
theorem gw_501 : Cond.methodLink "LevelStore" 54 (⟨"LevelStore", "write", "()I"⟩ : MethodName) ∈ ga_G := List.mem_filter.mpr ⟨gl_501, rfl⟩
theorem gl_503 : Cond.instanceMethod (⟨"LevelStore", "write", "()I"⟩ : MethodName) ∈ lw_tbl := List.mem_of_getElem? (i := 503) (by decide +kernel)
theorem gw_503 : Cond.instanceMethod (⟨"LevelStore", "write", "()I"⟩ : MethodName) ∈ ga_G := List.mem_filter.mpr ⟨gl_503, rfl⟩
theorem gl_504 : Cond.code y_L_write c_L_write 2 (some .int) ∈ lw_tbl := List.mem_of_getElem? (i := 504) (by decide +kernel)
theorem gw_504 : Cond.code y_L_write c_L_write 2 (some .int) ∈ ga_G := List.mem_filter.mpr ⟨gl_504, rfl⟩
theorem gl_505 : Cond.methodLink "LevelStore" 99 (⟨"LevelStore$Levels", "isBlocked", "()Z"⟩ : MethodName) ∈ lw_tbl := List.mem_of_getElem? (i := 505) (by decide +kernel)
theorem gw_505 : Cond.methodLink "LevelStore" 99 (⟨"LevelStore$Levels", "isBlocked", "()Z"⟩ : MethodName) ∈ ga_G := List.mem_filter.mpr ⟨gl_505, rfl⟩
theorem gl_506 : Cond.instanceMethod (⟨"LevelStore$Levels", "isBlocked", "()Z"⟩ : MethodName) ∈ lw_tbl := List.mem_of_getElem? (i := 506) (by decide +kernel)
theorem gw_506 : Cond.instanceMethod (⟨"LevelStore$Levels", "isBlocked", "()Z"⟩ : MethodName) ∈ ga_G := List.mem_filter.mpr ⟨gl_506, rfl⟩
theorem gl_507 : Cond.selects "LevelStore$Levels" (⟨"LevelStore$Levels", "isBlocked", "()Z"⟩ : MethodName) (⟨"LevelStore$Levels", "isBlocked", "()Z"⟩ : MethodName) ∈ lw_tbl := List.mem_of_getElem? (i := 507) (by decide +kernel)
theorem gw_507 : Cond.selects "LevelStore$Levels" (⟨"LevelStore$Levels", "isBlocked", "()Z"⟩ : MethodName) (⟨"LevelStore$Levels", "isBlocked", "()Z"⟩ : MethodName) ∈ ga_G := List.mem_filter.mpr ⟨gl_507, rfl⟩
theorem gl_508 : Cond.code y_V_isBlocked c_V_isBlocked 1 (some .boolean) ∈ lw_tbl := List.mem_of_getElem? (i := 508) (by decide +kernel)
theorem gw_508 : Cond.code y_V_isBlocked c_V_isBlocked 1 (some .boolean) ∈ ga_G := List.mem_filter.mpr ⟨gl_508, rfl⟩
theorem gl_509 : Cond.classLink "LevelStore" 58 "java/lang/IllegalStateException" ∈ lw_tbl := List.mem_of_getElem? (i := 509) (by decide +kernel)
theorem gw_509 : Cond.classLink "LevelStore" 58 "java/lang/IllegalStateException" ∈ ga_G := List.mem_filter.mpr ⟨gl_509, rfl⟩
theorem gl_511 : Cond.castable "java/lang/IllegalStateException" "java/lang/IllegalStateException" ∈ lw_tbl := List.mem_of_getElem? (i := 511) (by decide +kernel)
theorem gl_518 : Cond.methodLink "LevelStore" 60 (⟨"java/lang/IllegalStateException", "<init>", "()V"⟩ : MethodName) ∈ lw_tbl := List.mem_of_getElem? (i := 518) (by decide +kernel)
theorem gw_518 : Cond.methodLink "LevelStore" 60 (⟨"java/lang/IllegalStateException", "<init>", "()V"⟩ : MethodName) ∈ ga_G := List.mem_filter.mpr ⟨gl_518, rfl⟩
theorem gl_524 : Cond.methodLink "LevelStore" 206 (⟨"LevelStore$Memory", "addRecord", "(LLevelStore$Entries;I)V"⟩ : MethodName) ∈ lw_tbl := List.mem_of_getElem? (i := 524) (by decide +kernel)
theorem gw_524 : Cond.methodLink "LevelStore" 206 (⟨"LevelStore$Memory", "addRecord", "(LLevelStore$Entries;I)V"⟩ : MethodName) ∈ ga_G := List.mem_filter.mpr ⟨gl_524, rfl⟩
theorem gl_525 : Cond.instanceMethod (⟨"LevelStore$Memory", "addRecord", "(LLevelStore$Entries;I)V"⟩ : MethodName) ∈ lw_tbl := List.mem_of_getElem? (i := 525) (by decide +kernel)
theorem gw_525 : Cond.instanceMethod (⟨"LevelStore$Memory", "addRecord", "(LLevelStore$Entries;I)V"⟩ : MethodName) ∈ ga_G := List.mem_filter.mpr ⟨gl_525, rfl⟩
theorem gl_526 : Cond.selects "LevelStore$Memory" (⟨"LevelStore$Memory", "addRecord", "(LLevelStore$Entries;I)V"⟩ : MethodName) (⟨"LevelStore$Memory", "addRecord", "(LLevelStore$Entries;I)V"⟩ : MethodName) ∈ lw_tbl := List.mem_of_getElem? (i := 526) (by decide +kernel)
theorem gw_526 : Cond.selects "LevelStore$Memory" (⟨"LevelStore$Memory", "addRecord", "(LLevelStore$Entries;I)V"⟩ : MethodName) (⟨"LevelStore$Memory", "addRecord", "(LLevelStore$Entries;I)V"⟩ : MethodName) ∈ ga_G := List.mem_filter.mpr ⟨gl_526, rfl⟩
theorem gl_527 : Cond.code y_M_addRecord c_M_addRecord 4 none ∈ lw_tbl := List.mem_of_getElem? (i := 527) (by decide +kernel)
theorem gw_527 : Cond.code y_M_addRecord c_M_addRecord 4 none ∈ ga_G := List.mem_filter.mpr ⟨gl_527, rfl⟩
theorem gl_528 : Cond.methodLink "LevelStore$Memory" 38 (⟨"LevelStore$Entries", "add", "(IIIZ)V"⟩ : MethodName) ∈ lw_tbl := List.mem_of_getElem? (i := 528) (by decide +kernel)
theorem gw_528 : Cond.methodLink "LevelStore$Memory" 38 (⟨"LevelStore$Entries", "add", "(IIIZ)V"⟩ : MethodName) ∈ ga_G := List.mem_filter.mpr ⟨gl_528, rfl⟩
theorem gl_529 : Cond.methodLink "LevelStore" 103 (⟨"LevelStore", "moveMemoryToLevel0", "()V"⟩ : MethodName) ∈ lw_tbl := List.mem_of_getElem? (i := 529) (by decide +kernel)
theorem gw_529 : Cond.methodLink "LevelStore" 103 (⟨"LevelStore", "moveMemoryToLevel0", "()V"⟩ : MethodName) ∈ ga_G := List.mem_filter.mpr ⟨gl_529, rfl⟩
theorem gl_531 : Cond.instanceMethod (⟨"LevelStore", "moveMemoryToLevel0", "()V"⟩ : MethodName) ∈ lw_tbl := List.mem_of_getElem? (i := 531) (by decide +kernel)
theorem gw_531 : Cond.instanceMethod (⟨"LevelStore", "moveMemoryToLevel0", "()V"⟩ : MethodName) ∈ ga_G := List.mem_filter.mpr ⟨gl_531, rfl⟩
theorem gl_532 : Cond.code y_L_moveMemoryToLevel0 c_L_moveMemoryToLevel0 1 none ∈ lw_tbl := List.mem_of_getElem? (i := 532) (by decide +kernel)
theorem gw_532 : Cond.code y_L_moveMemoryToLevel0 c_L_moveMemoryToLevel0 1 none ∈ ga_G := List.mem_filter.mpr ⟨gl_532, rfl⟩
theorem gl_533 : Cond.methodLink "LevelStore" 210 (⟨"LevelStore$Levels", "addToLevel0", "(LLevelStore$Entries;)V"⟩ : MethodName) ∈ lw_tbl := List.mem_of_getElem? (i := 533) (by decide +kernel)
theorem gw_533 : Cond.methodLink "LevelStore" 210 (⟨"LevelStore$Levels", "addToLevel0", "(LLevelStore$Entries;)V"⟩ : MethodName) ∈ ga_G := List.mem_filter.mpr ⟨gl_533, rfl⟩
theorem gl_534 : Cond.instanceMethod (⟨"LevelStore$Levels", "addToLevel0", "(LLevelStore$Entries;)V"⟩ : MethodName) ∈ lw_tbl := List.mem_of_getElem? (i := 534) (by decide +kernel)
theorem gw_534 : Cond.instanceMethod (⟨"LevelStore$Levels", "addToLevel0", "(LLevelStore$Entries;)V"⟩ : MethodName) ∈ ga_G := List.mem_filter.mpr ⟨gl_534, rfl⟩
theorem gl_535 : Cond.selects "LevelStore$Levels" (⟨"LevelStore$Levels", "addToLevel0", "(LLevelStore$Entries;)V"⟩ : MethodName) (⟨"LevelStore$Levels", "addToLevel0", "(LLevelStore$Entries;)V"⟩ : MethodName) ∈ lw_tbl := List.mem_of_getElem? (i := 535) (by decide +kernel)
theorem gw_535 : Cond.selects "LevelStore$Levels" (⟨"LevelStore$Levels", "addToLevel0", "(LLevelStore$Entries;)V"⟩ : MethodName) (⟨"LevelStore$Levels", "addToLevel0", "(LLevelStore$Entries;)V"⟩ : MethodName) ∈ ga_G := List.mem_filter.mpr ⟨gl_535, rfl⟩
theorem gl_536 : Cond.code y_V_addToLevel0 c_V_addToLevel0 3 none ∈ lw_tbl := List.mem_of_getElem? (i := 536) (by decide +kernel)
theorem gw_536 : Cond.code y_V_addToLevel0 c_V_addToLevel0 3 none ∈ ga_G := List.mem_filter.mpr ⟨gl_536, rfl⟩
theorem gl_537 : Cond.methodLink "LevelStore" 214 (⟨"LevelStore$Memory", "clear", "()V"⟩ : MethodName) ∈ lw_tbl := List.mem_of_getElem? (i := 537) (by decide +kernel)
theorem gw_537 : Cond.methodLink "LevelStore" 214 (⟨"LevelStore$Memory", "clear", "()V"⟩ : MethodName) ∈ ga_G := List.mem_filter.mpr ⟨gl_537, rfl⟩
theorem gl_538 : Cond.instanceMethod (⟨"LevelStore$Memory", "clear", "()V"⟩ : MethodName) ∈ lw_tbl := List.mem_of_getElem? (i := 538) (by decide +kernel)
theorem gw_538 : Cond.instanceMethod (⟨"LevelStore$Memory", "clear", "()V"⟩ : MethodName) ∈ ga_G := List.mem_filter.mpr ⟨gl_538, rfl⟩
theorem gl_539 : Cond.selects "LevelStore$Memory" (⟨"LevelStore$Memory", "clear", "()V"⟩ : MethodName) (⟨"LevelStore$Memory", "clear", "()V"⟩ : MethodName) ∈ lw_tbl := List.mem_of_getElem? (i := 539) (by decide +kernel)
theorem gw_539 : Cond.selects "LevelStore$Memory" (⟨"LevelStore$Memory", "clear", "()V"⟩ : MethodName) (⟨"LevelStore$Memory", "clear", "()V"⟩ : MethodName) ∈ ga_G := List.mem_filter.mpr ⟨gl_539, rfl⟩
theorem gl_540 : Cond.code y_M_clear c_M_clear 1 none ∈ lw_tbl := List.mem_of_getElem? (i := 540) (by decide +kernel)
theorem gw_540 : Cond.code y_M_clear c_M_clear 1 none ∈ ga_G := List.mem_filter.mpr ⟨gl_540, rfl⟩
theorem gl_544 : Cond.methodLink "LevelStoreLaw" 19 (⟨"LevelStore", "remove", "(I)I"⟩ : MethodName) ∈ lw_tbl := List.mem_of_getElem? (i := 544) (by decide +kernel)
theorem gw_544 : Cond.methodLink "LevelStoreLaw" 19 (⟨"LevelStore", "remove", "(I)I"⟩ : MethodName) ∈ ga_G := List.mem_filter.mpr ⟨gl_544, rfl⟩
theorem gl_545 : Cond.instanceMethod (⟨"LevelStore", "remove", "(I)I"⟩ : MethodName) ∈ lw_tbl := List.mem_of_getElem? (i := 545) (by decide +kernel)
theorem gw_545 : Cond.instanceMethod (⟨"LevelStore", "remove", "(I)I"⟩ : MethodName) ∈ ga_G := List.mem_filter.mpr ⟨gl_545, rfl⟩
theorem gl_546 : Cond.selects "LevelStore" (⟨"LevelStore", "remove", "(I)I"⟩ : MethodName) (⟨"LevelStore", "remove", "(I)I"⟩ : MethodName) ∈ lw_tbl := List.mem_of_getElem? (i := 546) (by decide +kernel)
theorem gw_546 : Cond.selects "LevelStore" (⟨"LevelStore", "remove", "(I)I"⟩ : MethodName) (⟨"LevelStore", "remove", "(I)I"⟩ : MethodName) ∈ ga_G := List.mem_filter.mpr ⟨gl_546, rfl⟩
theorem gl_547 : Cond.code y_L_remove c_L_remove 2 (some .int) ∈ lw_tbl := List.mem_of_getElem? (i := 547) (by decide +kernel)
theorem gw_547 : Cond.code y_L_remove c_L_remove 2 (some .int) ∈ ga_G := List.mem_filter.mpr ⟨gl_547, rfl⟩
theorem gl_551 : Cond.methodLink "LevelStoreLaw" 23 (⟨"LevelStore", "open", "()I"⟩ : MethodName) ∈ lw_tbl := List.mem_of_getElem? (i := 551) (by decide +kernel)
theorem gw_551 : Cond.methodLink "LevelStoreLaw" 23 (⟨"LevelStore", "open", "()I"⟩ : MethodName) ∈ ga_G := List.mem_filter.mpr ⟨gl_551, rfl⟩
theorem gl_552 : Cond.instanceMethod (⟨"LevelStore", "open", "()I"⟩ : MethodName) ∈ lw_tbl := List.mem_of_getElem? (i := 552) (by decide +kernel)
theorem gw_552 : Cond.instanceMethod (⟨"LevelStore", "open", "()I"⟩ : MethodName) ∈ ga_G := List.mem_filter.mpr ⟨gl_552, rfl⟩
theorem gl_553 : Cond.selects "LevelStore" (⟨"LevelStore", "open", "()I"⟩ : MethodName) (⟨"LevelStore", "open", "()I"⟩ : MethodName) ∈ lw_tbl := List.mem_of_getElem? (i := 553) (by decide +kernel)
theorem gw_553 : Cond.selects "LevelStore" (⟨"LevelStore", "open", "()I"⟩ : MethodName) (⟨"LevelStore", "open", "()I"⟩ : MethodName) ∈ ga_G := List.mem_filter.mpr ⟨gl_553, rfl⟩
theorem gl_554 : Cond.code y_L_open c_L_open 1 (some .int) ∈ lw_tbl := List.mem_of_getElem? (i := 554) (by decide +kernel)
theorem gw_554 : Cond.code y_L_open c_L_open 1 (some .int) ∈ ga_G := List.mem_filter.mpr ⟨gl_554, rfl⟩
theorem gl_558 : Cond.methodLink "LevelStoreLaw" 27 (⟨"LevelStore", "close", "(Z)I"⟩ : MethodName) ∈ lw_tbl := List.mem_of_getElem? (i := 558) (by decide +kernel)
theorem gw_558 : Cond.methodLink "LevelStoreLaw" 27 (⟨"LevelStore", "close", "(Z)I"⟩ : MethodName) ∈ ga_G := List.mem_filter.mpr ⟨gl_558, rfl⟩
theorem gl_559 : Cond.instanceMethod (⟨"LevelStore", "close", "(Z)I"⟩ : MethodName) ∈ lw_tbl := List.mem_of_getElem? (i := 559) (by decide +kernel)
theorem gw_559 : Cond.instanceMethod (⟨"LevelStore", "close", "(Z)I"⟩ : MethodName) ∈ ga_G := List.mem_filter.mpr ⟨gl_559, rfl⟩
theorem gl_560 : Cond.selects "LevelStore" (⟨"LevelStore", "close", "(Z)I"⟩ : MethodName) (⟨"LevelStore", "close", "(Z)I"⟩ : MethodName) ∈ lw_tbl := List.mem_of_getElem? (i := 560) (by decide +kernel)
theorem gw_560 : Cond.selects "LevelStore" (⟨"LevelStore", "close", "(Z)I"⟩ : MethodName) (⟨"LevelStore", "close", "(Z)I"⟩ : MethodName) ∈ ga_G := List.mem_filter.mpr ⟨gl_560, rfl⟩
theorem gl_561 : Cond.code y_L_close c_L_close 2 (some .int) ∈ lw_tbl := List.mem_of_getElem? (i := 561) (by decide +kernel)
theorem gw_561 : Cond.code y_L_close c_L_close 2 (some .int) ∈ ga_G := List.mem_filter.mpr ⟨gl_561, rfl⟩
theorem gl_565 : Cond.methodLink "LevelStoreLaw" 31 (⟨"LevelStore", "crash", "(I)I"⟩ : MethodName) ∈ lw_tbl := List.mem_of_getElem? (i := 565) (by decide +kernel)
theorem gw_565 : Cond.methodLink "LevelStoreLaw" 31 (⟨"LevelStore", "crash", "(I)I"⟩ : MethodName) ∈ ga_G := List.mem_filter.mpr ⟨gl_565, rfl⟩
theorem gl_566 : Cond.instanceMethod (⟨"LevelStore", "crash", "(I)I"⟩ : MethodName) ∈ lw_tbl := List.mem_of_getElem? (i := 566) (by decide +kernel)
theorem gw_566 : Cond.instanceMethod (⟨"LevelStore", "crash", "(I)I"⟩ : MethodName) ∈ ga_G := List.mem_filter.mpr ⟨gl_566, rfl⟩
theorem gl_567 : Cond.selects "LevelStore" (⟨"LevelStore", "crash", "(I)I"⟩ : MethodName) (⟨"LevelStore", "crash", "(I)I"⟩ : MethodName) ∈ lw_tbl := List.mem_of_getElem? (i := 567) (by decide +kernel)
theorem gw_567 : Cond.selects "LevelStore" (⟨"LevelStore", "crash", "(I)I"⟩ : MethodName) (⟨"LevelStore", "crash", "(I)I"⟩ : MethodName) ∈ ga_G := List.mem_filter.mpr ⟨gl_567, rfl⟩
theorem gl_568 : Cond.code y_L_crash c_L_crash 2 (some .int) ∈ lw_tbl := List.mem_of_getElem? (i := 568) (by decide +kernel)
theorem gw_568 : Cond.code y_L_crash c_L_crash 2 (some .int) ∈ ga_G := List.mem_filter.mpr ⟨gl_568, rfl⟩
theorem gl_569 : Cond.methodLink "LevelStore" 77 (⟨"LevelStore$Memory", "loseAllBut", "(I)V"⟩ : MethodName) ∈ lw_tbl := List.mem_of_getElem? (i := 569) (by decide +kernel)
theorem gw_569 : Cond.methodLink "LevelStore" 77 (⟨"LevelStore$Memory", "loseAllBut", "(I)V"⟩ : MethodName) ∈ ga_G := List.mem_filter.mpr ⟨gl_569, rfl⟩
theorem gl_570 : Cond.instanceMethod (⟨"LevelStore$Memory", "loseAllBut", "(I)V"⟩ : MethodName) ∈ lw_tbl := List.mem_of_getElem? (i := 570) (by decide +kernel)
theorem gw_570 : Cond.instanceMethod (⟨"LevelStore$Memory", "loseAllBut", "(I)V"⟩ : MethodName) ∈ ga_G := List.mem_filter.mpr ⟨gl_570, rfl⟩
theorem gl_571 : Cond.selects "LevelStore$Memory" (⟨"LevelStore$Memory", "loseAllBut", "(I)V"⟩ : MethodName) (⟨"LevelStore$Memory", "loseAllBut", "(I)V"⟩ : MethodName) ∈ lw_tbl := List.mem_of_getElem? (i := 571) (by decide +kernel)
theorem gw_571 : Cond.selects "LevelStore$Memory" (⟨"LevelStore$Memory", "loseAllBut", "(I)V"⟩ : MethodName) (⟨"LevelStore$Memory", "loseAllBut", "(I)V"⟩ : MethodName) ∈ ga_G := List.mem_filter.mpr ⟨gl_571, rfl⟩
theorem gl_572 : Cond.code y_M_loseAllBut c_M_loseAllBut 2 none ∈ lw_tbl := List.mem_of_getElem? (i := 572) (by decide +kernel)
theorem gw_572 : Cond.code y_M_loseAllBut c_M_loseAllBut 2 none ∈ ga_G := List.mem_filter.mpr ⟨gl_572, rfl⟩
theorem gl_573 : Cond.methodLink "LevelStore$Memory" 48 (⟨"java/lang/Math", "min", "(II)I"⟩ : MethodName) ∈ lw_tbl := List.mem_of_getElem? (i := 573) (by decide +kernel)
theorem gw_573 : Cond.methodLink "LevelStore$Memory" 48 (⟨"java/lang/Math", "min", "(II)I"⟩ : MethodName) ∈ ga_G := List.mem_filter.mpr ⟨gl_573, rfl⟩
theorem gl_574 : Cond.methodLink "LevelStore" 83 (⟨"LevelStore$Entries", "greatestNumber", "()I"⟩ : MethodName) ∈ lw_tbl := List.mem_of_getElem? (i := 574) (by decide +kernel)
theorem gw_574 : Cond.methodLink "LevelStore" 83 (⟨"LevelStore$Entries", "greatestNumber", "()I"⟩ : MethodName) ∈ ga_G := List.mem_filter.mpr ⟨gl_574, rfl⟩
theorem gl_575 : Cond.instanceMethod (⟨"LevelStore$Entries", "greatestNumber", "()I"⟩ : MethodName) ∈ lw_tbl := List.mem_of_getElem? (i := 575) (by decide +kernel)
theorem gw_575 : Cond.instanceMethod (⟨"LevelStore$Entries", "greatestNumber", "()I"⟩ : MethodName) ∈ ga_G := List.mem_filter.mpr ⟨gl_575, rfl⟩
theorem gl_576 : Cond.selects "LevelStore$Entries" (⟨"LevelStore$Entries", "greatestNumber", "()I"⟩ : MethodName) (⟨"LevelStore$Entries", "greatestNumber", "()I"⟩ : MethodName) ∈ lw_tbl := List.mem_of_getElem? (i := 576) (by decide +kernel)
theorem gw_576 : Cond.selects "LevelStore$Entries" (⟨"LevelStore$Entries", "greatestNumber", "()I"⟩ : MethodName) (⟨"LevelStore$Entries", "greatestNumber", "()I"⟩ : MethodName) ∈ ga_G := List.mem_filter.mpr ⟨gl_576, rfl⟩
theorem gl_577 : Cond.code y_E_greatestNumber c_E_greatestNumber 3 (some .int) ∈ lw_tbl := List.mem_of_getElem? (i := 577) (by decide +kernel)
theorem gw_577 : Cond.code y_E_greatestNumber c_E_greatestNumber 3 (some .int) ∈ ga_G := List.mem_filter.mpr ⟨gl_577, rfl⟩
theorem gl_578 : Cond.methodLink "LevelStore$Entries" 32 (⟨"java/lang/Math", "max", "(II)I"⟩ : MethodName) ∈ lw_tbl := List.mem_of_getElem? (i := 578) (by decide +kernel)
theorem gw_578 : Cond.methodLink "LevelStore$Entries" 32 (⟨"java/lang/Math", "max", "(II)I"⟩ : MethodName) ∈ ga_G := List.mem_filter.mpr ⟨gl_578, rfl⟩
theorem gl_579 : Cond.methodLink "LevelStore" 93 (⟨"java/lang/Math", "max", "(II)I"⟩ : MethodName) ∈ lw_tbl := List.mem_of_getElem? (i := 579) (by decide +kernel)
theorem gw_579 : Cond.methodLink "LevelStore" 93 (⟨"java/lang/Math", "max", "(II)I"⟩ : MethodName) ∈ ga_G := List.mem_filter.mpr ⟨gl_579, rfl⟩
theorem gl_583 : Cond.methodLink "LevelStoreLaw" 34 (⟨"LevelStore", "flush", "()I"⟩ : MethodName) ∈ lw_tbl := List.mem_of_getElem? (i := 583) (by decide +kernel)
theorem gw_583 : Cond.methodLink "LevelStoreLaw" 34 (⟨"LevelStore", "flush", "()I"⟩ : MethodName) ∈ ga_G := List.mem_filter.mpr ⟨gl_583, rfl⟩
theorem gl_584 : Cond.instanceMethod (⟨"LevelStore", "flush", "()I"⟩ : MethodName) ∈ lw_tbl := List.mem_of_getElem? (i := 584) (by decide +kernel)
theorem gw_584 : Cond.instanceMethod (⟨"LevelStore", "flush", "()I"⟩ : MethodName) ∈ ga_G := List.mem_filter.mpr ⟨gl_584, rfl⟩
theorem gl_585 : Cond.selects "LevelStore" (⟨"LevelStore", "flush", "()I"⟩ : MethodName) (⟨"LevelStore", "flush", "()I"⟩ : MethodName) ∈ lw_tbl := List.mem_of_getElem? (i := 585) (by decide +kernel)
theorem gw_585 : Cond.selects "LevelStore" (⟨"LevelStore", "flush", "()I"⟩ : MethodName) (⟨"LevelStore", "flush", "()I"⟩ : MethodName) ∈ ga_G := List.mem_filter.mpr ⟨gl_585, rfl⟩
theorem gl_586 : Cond.code y_L_flush c_L_flush 1 (some .int) ∈ lw_tbl := List.mem_of_getElem? (i := 586) (by decide +kernel)
theorem gw_586 : Cond.code y_L_flush c_L_flush 1 (some .int) ∈ ga_G := List.mem_filter.mpr ⟨gl_586, rfl⟩
theorem gl_590 : Cond.classLink "LevelStoreLaw" 40 "java/util/NoSuchElementException" ∈ lw_tbl := List.mem_of_getElem? (i := 590) (by decide +kernel)
theorem gw_590 : Cond.classLink "LevelStoreLaw" 40 "java/util/NoSuchElementException" ∈ ga_G := List.mem_filter.mpr ⟨gl_590, rfl⟩
theorem gl_591 : Cond.methodLink "LevelStoreLaw" 37 (⟨"LevelStore", "get", "(II)I"⟩ : MethodName) ∈ lw_tbl := List.mem_of_getElem? (i := 591) (by decide +kernel)
theorem gw_591 : Cond.methodLink "LevelStoreLaw" 37 (⟨"LevelStore", "get", "(II)I"⟩ : MethodName) ∈ ga_G := List.mem_filter.mpr ⟨gl_591, rfl⟩
theorem gl_592 : Cond.instanceMethod (⟨"LevelStore", "get", "(II)I"⟩ : MethodName) ∈ lw_tbl := List.mem_of_getElem? (i := 592) (by decide +kernel)
theorem gw_592 : Cond.instanceMethod (⟨"LevelStore", "get", "(II)I"⟩ : MethodName) ∈ ga_G := List.mem_filter.mpr ⟨gl_592, rfl⟩
theorem gl_593 : Cond.selects "LevelStore" (⟨"LevelStore", "get", "(II)I"⟩ : MethodName) (⟨"LevelStore", "get", "(II)I"⟩ : MethodName) ∈ lw_tbl := List.mem_of_getElem? (i := 593) (by decide +kernel)
theorem gw_593 : Cond.selects "LevelStore" (⟨"LevelStore", "get", "(II)I"⟩ : MethodName) (⟨"LevelStore", "get", "(II)I"⟩ : MethodName) ∈ ga_G := List.mem_filter.mpr ⟨gl_593, rfl⟩
theorem gl_594 : Cond.code y_L_get c_L_get 5 (some .int) ∈ lw_tbl := List.mem_of_getElem? (i := 594) (by decide +kernel)
theorem gw_594 : Cond.code y_L_get c_L_get 5 (some .int) ∈ ga_G := List.mem_filter.mpr ⟨gl_594, rfl⟩
theorem gl_595 : Cond.methodLink "LevelStore" 115 (⟨"LevelStore", "numberSeenBy", "(I)I"⟩ : MethodName) ∈ lw_tbl := List.mem_of_getElem? (i := 595) (by decide +kernel)
theorem gw_595 : Cond.methodLink "LevelStore" 115 (⟨"LevelStore", "numberSeenBy", "(I)I"⟩ : MethodName) ∈ ga_G := List.mem_filter.mpr ⟨gl_595, rfl⟩
theorem gl_597 : Cond.instanceMethod (⟨"LevelStore", "numberSeenBy", "(I)I"⟩ : MethodName) ∈ lw_tbl := List.mem_of_getElem? (i := 597) (by decide +kernel)
theorem gw_597 : Cond.instanceMethod (⟨"LevelStore", "numberSeenBy", "(I)I"⟩ : MethodName) ∈ ga_G := List.mem_filter.mpr ⟨gl_597, rfl⟩
theorem gl_598 : Cond.code y_L_numberSeenBy c_L_numberSeenBy 2 (some .int) ∈ lw_tbl := List.mem_of_getElem? (i := 598) (by decide +kernel)
theorem gw_598 : Cond.code y_L_numberSeenBy c_L_numberSeenBy 2 (some .int) ∈ ga_G := List.mem_filter.mpr ⟨gl_598, rfl⟩
theorem gl_599 : Cond.methodLink "LevelStore" 122 (⟨"LevelStore$Memory", "rowOf", "(II)I"⟩ : MethodName) ∈ lw_tbl := List.mem_of_getElem? (i := 599) (by decide +kernel)
theorem gw_599 : Cond.methodLink "LevelStore" 122 (⟨"LevelStore$Memory", "rowOf", "(II)I"⟩ : MethodName) ∈ ga_G := List.mem_filter.mpr ⟨gl_599, rfl⟩
theorem gl_600 : Cond.instanceMethod (⟨"LevelStore$Memory", "rowOf", "(II)I"⟩ : MethodName) ∈ lw_tbl := List.mem_of_getElem? (i := 600) (by decide +kernel)
theorem gw_600 : Cond.instanceMethod (⟨"LevelStore$Memory", "rowOf", "(II)I"⟩ : MethodName) ∈ ga_G := List.mem_filter.mpr ⟨gl_600, rfl⟩
theorem gl_601 : Cond.selects "LevelStore$Memory" (⟨"LevelStore$Memory", "rowOf", "(II)I"⟩ : MethodName) (⟨"LevelStore$Memory", "rowOf", "(II)I"⟩ : MethodName) ∈ lw_tbl := List.mem_of_getElem? (i := 601) (by decide +kernel)
theorem gw_601 : Cond.selects "LevelStore$Memory" (⟨"LevelStore$Memory", "rowOf", "(II)I"⟩ : MethodName) (⟨"LevelStore$Memory", "rowOf", "(II)I"⟩ : MethodName) ∈ ga_G := List.mem_filter.mpr ⟨gl_601, rfl⟩
theorem gl_602 : Cond.code y_M_rowOf c_M_rowOf 4 (some .int) ∈ lw_tbl := List.mem_of_getElem? (i := 602) (by decide +kernel)
theorem gw_602 : Cond.code y_M_rowOf c_M_rowOf 4 (some .int) ∈ ga_G := List.mem_filter.mpr ⟨gl_602, rfl⟩
theorem gl_603 : Cond.methodLink "LevelStore" 125 (⟨"LevelStore", "valueIn", "(LLevelStore$Entries;I)I"⟩ : MethodName) ∈ lw_tbl := List.mem_of_getElem? (i := 603) (by decide +kernel)
theorem gw_603 : Cond.methodLink "LevelStore" 125 (⟨"LevelStore", "valueIn", "(LLevelStore$Entries;I)I"⟩ : MethodName) ∈ ga_G := List.mem_filter.mpr ⟨gl_603, rfl⟩
theorem gl_604 : Cond.static (⟨"LevelStore", "valueIn", "(LLevelStore$Entries;I)I"⟩ : MethodName) ∈ lw_tbl := List.mem_of_getElem? (i := 604) (by decide +kernel)
theorem gw_604 : Cond.static (⟨"LevelStore", "valueIn", "(LLevelStore$Entries;I)I"⟩ : MethodName) ∈ ga_G := List.mem_filter.mpr ⟨gl_604, rfl⟩
theorem gl_605 : Cond.code y_L_valueIn c_L_valueIn 2 (some .int) ∈ lw_tbl := List.mem_of_getElem? (i := 605) (by decide +kernel)
theorem gw_605 : Cond.code y_L_valueIn c_L_valueIn 2 (some .int) ∈ ga_G := List.mem_filter.mpr ⟨gl_605, rfl⟩
theorem gl_606 : Cond.classLink "LevelStore" 132 "java/util/NoSuchElementException" ∈ lw_tbl := List.mem_of_getElem? (i := 606) (by decide +kernel)
theorem gw_606 : Cond.classLink "LevelStore" 132 "java/util/NoSuchElementException" ∈ ga_G := List.mem_filter.mpr ⟨gl_606, rfl⟩
theorem gl_608 : Cond.castable "java/util/NoSuchElementException" "java/util/NoSuchElementException" ∈ lw_tbl := List.mem_of_getElem? (i := 608) (by decide +kernel)
theorem gl_615 : Cond.methodLink "LevelStore" 134 (⟨"java/util/NoSuchElementException", "<init>", "()V"⟩ : MethodName) ∈ lw_tbl := List.mem_of_getElem? (i := 615) (by decide +kernel)
theorem gw_615 : Cond.methodLink "LevelStore" 134 (⟨"java/util/NoSuchElementException", "<init>", "()V"⟩ : MethodName) ∈ ga_G := List.mem_filter.mpr ⟨gl_615, rfl⟩
theorem gl_621 : Cond.methodLink "LevelStore" 129 (⟨"LevelStore", "lookInTables", "(II)I"⟩ : MethodName) ∈ lw_tbl := List.mem_of_getElem? (i := 621) (by decide +kernel)
theorem gw_621 : Cond.methodLink "LevelStore" 129 (⟨"LevelStore", "lookInTables", "(II)I"⟩ : MethodName) ∈ ga_G := List.mem_filter.mpr ⟨gl_621, rfl⟩
theorem gl_623 : Cond.instanceMethod (⟨"LevelStore", "lookInTables", "(II)I"⟩ : MethodName) ∈ lw_tbl := List.mem_of_getElem? (i := 623) (by decide +kernel)
theorem gw_623 : Cond.instanceMethod (⟨"LevelStore", "lookInTables", "(II)I"⟩ : MethodName) ∈ ga_G := List.mem_filter.mpr ⟨gl_623, rfl⟩
theorem gl_624 : Cond.code y_L_lookInTables c_L_lookInTables 5 (some .int) ∈ lw_tbl := List.mem_of_getElem? (i := 624) (by decide +kernel)
theorem gw_624 : Cond.code y_L_lookInTables c_L_lookInTables 5 (some .int) ∈ ga_G := List.mem_filter.mpr ⟨gl_624, rfl⟩
theorem gl_625 : Cond.methodLink "LevelStore" 224 (⟨"LevelStore$Shelf", "spans", "(II)Z"⟩ : MethodName) ∈ lw_tbl := List.mem_of_getElem? (i := 625) (by decide +kernel)
theorem gw_625 : Cond.methodLink "LevelStore" 224 (⟨"LevelStore$Shelf", "spans", "(II)Z"⟩ : MethodName) ∈ ga_G := List.mem_filter.mpr ⟨gl_625, rfl⟩
theorem gl_626 : Cond.methodLink "LevelStore" 227 (⟨"LevelStore", "lookInTable", "(III)I"⟩ : MethodName) ∈ lw_tbl := List.mem_of_getElem? (i := 626) (by decide +kernel)
theorem gw_626 : Cond.methodLink "LevelStore" 227 (⟨"LevelStore", "lookInTable", "(III)I"⟩ : MethodName) ∈ ga_G := List.mem_filter.mpr ⟨gl_626, rfl⟩
theorem gl_628 : Cond.instanceMethod (⟨"LevelStore", "lookInTable", "(III)I"⟩ : MethodName) ∈ lw_tbl := List.mem_of_getElem? (i := 628) (by decide +kernel)
theorem gw_628 : Cond.instanceMethod (⟨"LevelStore", "lookInTable", "(III)I"⟩ : MethodName) ∈ ga_G := List.mem_filter.mpr ⟨gl_628, rfl⟩
theorem gl_629 : Cond.code y_L_lookInTable c_L_lookInTable 9 (some .int) ∈ lw_tbl := List.mem_of_getElem? (i := 629) (by decide +kernel)
theorem gw_629 : Cond.code y_L_lookInTable c_L_lookInTable 9 (some .int) ∈ ga_G := List.mem_filter.mpr ⟨gl_629, rfl⟩
theorem gl_630 : Cond.methodLink "LevelStore" 231 (⟨"LevelStore$Shelf", "passes", "(II)Z"⟩ : MethodName) ∈ lw_tbl := List.mem_of_getElem? (i := 630) (by decide +kernel)
theorem gw_630 : Cond.methodLink "LevelStore" 231 (⟨"LevelStore$Shelf", "passes", "(II)Z"⟩ : MethodName) ∈ ga_G := List.mem_filter.mpr ⟨gl_630, rfl⟩
theorem gl_631 : Cond.instanceMethod (⟨"LevelStore$Shelf", "passes", "(II)Z"⟩ : MethodName) ∈ lw_tbl := List.mem_of_getElem? (i := 631) (by decide +kernel)
theorem gw_631 : Cond.instanceMethod (⟨"LevelStore$Shelf", "passes", "(II)Z"⟩ : MethodName) ∈ ga_G := List.mem_filter.mpr ⟨gl_631, rfl⟩
theorem gl_632 : Cond.selects "LevelStore$Shelf" (⟨"LevelStore$Shelf", "passes", "(II)Z"⟩ : MethodName) (⟨"LevelStore$Shelf", "passes", "(II)Z"⟩ : MethodName) ∈ lw_tbl := List.mem_of_getElem? (i := 632) (by decide +kernel)
theorem gw_632 : Cond.selects "LevelStore$Shelf" (⟨"LevelStore$Shelf", "passes", "(II)Z"⟩ : MethodName) (⟨"LevelStore$Shelf", "passes", "(II)Z"⟩ : MethodName) ∈ ga_G := List.mem_filter.mpr ⟨gl_632, rfl⟩
theorem gl_633 : Cond.code y_S_passes c_S_passes 10 (some .boolean) ∈ lw_tbl := List.mem_of_getElem? (i := 633) (by decide +kernel)
theorem gw_633 : Cond.code y_S_passes c_S_passes 10 (some .boolean) ∈ ga_G := List.mem_filter.mpr ⟨gl_633, rfl⟩
theorem gl_634 : Cond.methodLink "LevelStore$Shelf" 69 (⟨"LevelStore$Shelf", "firstMark", "(I)I"⟩ : MethodName) ∈ lw_tbl := List.mem_of_getElem? (i := 634) (by decide +kernel)
theorem gw_634 : Cond.methodLink "LevelStore$Shelf" 69 (⟨"LevelStore$Shelf", "firstMark", "(I)I"⟩ : MethodName) ∈ ga_G := List.mem_filter.mpr ⟨gl_634, rfl⟩
theorem gl_635 : Cond.static (⟨"LevelStore$Shelf", "firstMark", "(I)I"⟩ : MethodName) ∈ lw_tbl := List.mem_of_getElem? (i := 635) (by decide +kernel)
theorem gw_635 : Cond.static (⟨"LevelStore$Shelf", "firstMark", "(I)I"⟩ : MethodName) ∈ ga_G := List.mem_filter.mpr ⟨gl_635, rfl⟩
theorem gl_636 : Cond.code y_S_firstMark c_S_firstMark 1 (some .int) ∈ lw_tbl := List.mem_of_getElem? (i := 636) (by decide +kernel)
theorem gw_636 : Cond.code y_S_firstMark c_S_firstMark 1 (some .int) ∈ ga_G := List.mem_filter.mpr ⟨gl_636, rfl⟩
theorem gl_637 : Cond.methodLink "LevelStore$Shelf" 72 (⟨"LevelStore$Shelf", "secondMark", "(I)I"⟩ : MethodName) ∈ lw_tbl := List.mem_of_getElem? (i := 637) (by decide +kernel)
theorem gw_637 : Cond.methodLink "LevelStore$Shelf" 72 (⟨"LevelStore$Shelf", "secondMark", "(I)I"⟩ : MethodName) ∈ ga_G := List.mem_filter.mpr ⟨gl_637, rfl⟩
theorem gl_638 : Cond.static (⟨"LevelStore$Shelf", "secondMark", "(I)I"⟩ : MethodName) ∈ lw_tbl := List.mem_of_getElem? (i := 638) (by decide +kernel)
theorem gw_638 : Cond.static (⟨"LevelStore$Shelf", "secondMark", "(I)I"⟩ : MethodName) ∈ ga_G := List.mem_filter.mpr ⟨gl_638, rfl⟩
theorem gl_639 : Cond.code y_S_secondMark c_S_secondMark 1 (some .int) ∈ lw_tbl := List.mem_of_getElem? (i := 639) (by decide +kernel)
theorem gw_639 : Cond.code y_S_secondMark c_S_secondMark 1 (some .int) ∈ ga_G := List.mem_filter.mpr ⟨gl_639, rfl⟩
theorem gl_640 : Cond.methodLink "LevelStore" 237 (⟨"LevelStore$Shelf", "firstBlockFor", "(II)I"⟩ : MethodName) ∈ lw_tbl := List.mem_of_getElem? (i := 640) (by decide +kernel)
theorem gw_640 : Cond.methodLink "LevelStore" 237 (⟨"LevelStore$Shelf", "firstBlockFor", "(II)I"⟩ : MethodName) ∈ ga_G := List.mem_filter.mpr ⟨gl_640, rfl⟩
theorem gl_641 : Cond.instanceMethod (⟨"LevelStore$Shelf", "firstBlockFor", "(II)I"⟩ : MethodName) ∈ lw_tbl := List.mem_of_getElem? (i := 641) (by decide +kernel)
theorem gw_641 : Cond.instanceMethod (⟨"LevelStore$Shelf", "firstBlockFor", "(II)I"⟩ : MethodName) ∈ ga_G := List.mem_filter.mpr ⟨gl_641, rfl⟩
theorem gl_642 : Cond.selects "LevelStore$Shelf" (⟨"LevelStore$Shelf", "firstBlockFor", "(II)I"⟩ : MethodName) (⟨"LevelStore$Shelf", "firstBlockFor", "(II)I"⟩ : MethodName) ∈ lw_tbl := List.mem_of_getElem? (i := 642) (by decide +kernel)
theorem gw_642 : Cond.selects "LevelStore$Shelf" (⟨"LevelStore$Shelf", "firstBlockFor", "(II)I"⟩ : MethodName) (⟨"LevelStore$Shelf", "firstBlockFor", "(II)I"⟩ : MethodName) ∈ ga_G := List.mem_filter.mpr ⟨gl_642, rfl⟩
theorem gl_643 : Cond.code y_S_firstBlockFor c_S_firstBlockFor 4 (some .int) ∈ lw_tbl := List.mem_of_getElem? (i := 643) (by decide +kernel)
theorem gw_643 : Cond.code y_S_firstBlockFor c_S_firstBlockFor 4 (some .int) ∈ ga_G := List.mem_filter.mpr ⟨gl_643, rfl⟩
theorem gl_644 : Cond.methodLink "LevelStore" 243 (⟨"LevelStore$Entries", "rowOf", "(IIII)I"⟩ : MethodName) ∈ lw_tbl := List.mem_of_getElem? (i := 644) (by decide +kernel)
theorem gw_644 : Cond.methodLink "LevelStore" 243 (⟨"LevelStore$Entries", "rowOf", "(IIII)I"⟩ : MethodName) ∈ ga_G := List.mem_filter.mpr ⟨gl_644, rfl⟩
theorem gl_645 : Cond.instanceMethod (⟨"LevelStore$Entries", "rowOf", "(IIII)I"⟩ : MethodName) ∈ lw_tbl := List.mem_of_getElem? (i := 645) (by decide +kernel)
theorem gw_645 : Cond.instanceMethod (⟨"LevelStore$Entries", "rowOf", "(IIII)I"⟩ : MethodName) ∈ ga_G := List.mem_filter.mpr ⟨gl_645, rfl⟩
theorem gl_646 : Cond.selects "LevelStore$Entries" (⟨"LevelStore$Entries", "rowOf", "(IIII)I"⟩ : MethodName) (⟨"LevelStore$Entries", "rowOf", "(IIII)I"⟩ : MethodName) ∈ lw_tbl := List.mem_of_getElem? (i := 646) (by decide +kernel)
theorem gw_646 : Cond.selects "LevelStore$Entries" (⟨"LevelStore$Entries", "rowOf", "(IIII)I"⟩ : MethodName) (⟨"LevelStore$Entries", "rowOf", "(IIII)I"⟩ : MethodName) ∈ ga_G := List.mem_filter.mpr ⟨gl_646, rfl⟩
theorem gl_647 : Cond.code y_E_rowOf c_E_rowOf 6 (some .int) ∈ lw_tbl := List.mem_of_getElem? (i := 647) (by decide +kernel)
theorem gw_647 : Cond.code y_E_rowOf c_E_rowOf 6 (some .int) ∈ ga_G := List.mem_filter.mpr ⟨gl_647, rfl⟩
theorem gl_651 : Cond.methodLink "LevelStoreLaw" 42 (⟨"LevelStore", "next", "(II)I"⟩ : MethodName) ∈ lw_tbl := List.mem_of_getElem? (i := 651) (by decide +kernel)
theorem gw_651 : Cond.methodLink "LevelStoreLaw" 42 (⟨"LevelStore", "next", "(II)I"⟩ : MethodName) ∈ ga_G := List.mem_filter.mpr ⟨gl_651, rfl⟩
theorem gl_652 : Cond.instanceMethod (⟨"LevelStore", "next", "(II)I"⟩ : MethodName) ∈ lw_tbl := List.mem_of_getElem? (i := 652) (by decide +kernel)
