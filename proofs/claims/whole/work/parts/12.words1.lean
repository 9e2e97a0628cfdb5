theorem gl_173 : Cond.fieldLink "LevelStore$Shelf" 34 "LevelStore$Shelf" "tables" "I" ∈ lw_tbl := List.mem_of_getElem? (i := 173) (by decide +kernel)
theorem gw_173 : Cond.fieldLink "LevelStore$Shelf" 34 "LevelStore$Shelf" "tables" "I" ∈ ga_G := List.mem_filter.mpr ⟨gl_173, rfl⟩
theorem gl_174 : Cond.fieldLink "LevelStore$Levels" 77 "LevelStore$Shelf" "tables" "I" ∈ lw_tbl := List.mem_of_getElem? (i := 174) (by decide +kernel)
theorem gw_174 : Cond.fieldLink "LevelStore$Levels" 77 "LevelStore$Shelf" "tables" "I" ∈ ga_G := List.mem_filter.mpr ⟨gl_174, rfl⟩
theorem gl_175 : Cond.fieldLink "LevelStore" 112 "LevelStore$Shelf" "tables" "I" ∈ lw_tbl := List.mem_of_getElem? (i := 175) (by decide +kernel)
theorem gw_175 : Cond.fieldLink "LevelStore" 112 "LevelStore$Shelf" "tables" "I" ∈ ga_G := List.mem_filter.mpr ⟨gl_175, rfl⟩
theorem gl_176 : Cond.laysFinal "LevelStore$Shelf" "LevelStore$Shelf" "rows" "LLevelStore$Entries;" ∈ lw_tbl := List.mem_of_getElem? (i := 176) (by decide +kernel)
theorem gw_176 : Cond.laysFinal "LevelStore$Shelf" "LevelStore$Shelf" "rows" "LLevelStore$Entries;" ∈ ga_G := List.mem_filter.mpr ⟨gl_176, rfl⟩
theorem gl_178 : Cond.laysFinal "LevelStore$Shelf" "LevelStore$Shelf" "numbers" "[I" ∈ lw_tbl := List.mem_of_getElem? (i := 178) (by decide +kernel)
theorem gw_178 : Cond.laysFinal "LevelStore$Shelf" "LevelStore$Shelf" "numbers" "[I" ∈ ga_G := List.mem_filter.mpr ⟨gl_178, rfl⟩
theorem gl_180 : Cond.laysFinal "LevelStore$Shelf" "LevelStore$Shelf" "levelOf" "[I" ∈ lw_tbl := List.mem_of_getElem? (i := 180) (by decide +kernel)
theorem gw_180 : Cond.laysFinal "LevelStore$Shelf" "LevelStore$Shelf" "levelOf" "[I" ∈ ga_G := List.mem_filter.mpr ⟨gl_180, rfl⟩
theorem gl_182 : Cond.laysFinal "LevelStore$Shelf" "LevelStore$Shelf" "bounds" "[I" ∈ lw_tbl := List.mem_of_getElem? (i := 182) (by decide +kernel)
theorem gw_182 : Cond.laysFinal "LevelStore$Shelf" "LevelStore$Shelf" "bounds" "[I" ∈ ga_G := List.mem_filter.mpr ⟨gl_182, rfl⟩
theorem gl_184 : Cond.lays "LevelStore$Shelf" "LevelStore$Shelf" "tables" "I" ∈ lw_tbl := List.mem_of_getElem? (i := 184) (by decide +kernel)
theorem gw_184 : Cond.lays "LevelStore$Shelf" "LevelStore$Shelf" "tables" "I" ∈ ga_G := List.mem_filter.mpr ⟨gl_184, rfl⟩
theorem gl_187 : Cond.classLink "LevelStore$Levels" 21 "LevelStore$Sorter" ∈ lw_tbl := List.mem_of_getElem? (i := 187) (by decide +kernel)
theorem gw_187 : Cond.classLink "LevelStore$Levels" 21 "LevelStore$Sorter" ∈ ga_G := List.mem_filter.mpr ⟨gl_187, rfl⟩
theorem gl_188 : Cond.instantiable "LevelStore$Sorter" 3 ∈ lw_tbl := List.mem_of_getElem? (i := 188) (by decide +kernel)
theorem gw_188 : Cond.instantiable "LevelStore$Sorter" 3 ∈ ga_G := List.mem_filter.mpr ⟨gl_188, rfl⟩
theorem gl_189 : Cond.methodLinkNest "LevelStore$Levels" 23 (⟨"LevelStore$Sorter", "<init>", "()V"⟩ : MethodName) "LevelStore" ∈ lw_tbl := List.mem_of_getElem? (i := 189) (by decide +kernel)
theorem gl_190 : Cond.instanceMethod (⟨"LevelStore$Sorter", "<init>", "()V"⟩ : MethodName) ∈ lw_tbl := List.mem_of_getElem? (i := 190) (by decide +kernel)
theorem gw_190 : Cond.instanceMethod (⟨"LevelStore$Sorter", "<init>", "()V"⟩ : MethodName) ∈ ga_G := List.mem_filter.mpr ⟨gl_190, rfl⟩
theorem gl_191 : Cond.code y_O_init c_O_init 1 none ∈ lw_tbl := List.mem_of_getElem? (i := 191) (by decide +kernel)
theorem gw_191 : Cond.code y_O_init c_O_init 1 none ∈ ga_G := List.mem_filter.mpr ⟨gl_191, rfl⟩
theorem gl_192 : Cond.methodLink "LevelStore$Sorter" 3 (⟨"java/lang/Object", "<init>", "()V"⟩ : MethodName) ∈ lw_tbl := List.mem_of_getElem? (i := 192) (by decide +kernel)
theorem gw_192 : Cond.methodLink "LevelStore$Sorter" 3 (⟨"java/lang/Object", "<init>", "()V"⟩ : MethodName) ∈ ga_G := List.mem_filter.mpr ⟨gl_192, rfl⟩
theorem gl_193 : Cond.classLink "LevelStore$Sorter" 9 "LevelStore$Entries" ∈ lw_tbl := List.mem_of_getElem? (i := 193) (by decide +kernel)
theorem gw_193 : Cond.classLink "LevelStore$Sorter" 9 "LevelStore$Entries" ∈ ga_G := List.mem_filter.mpr ⟨gl_193, rfl⟩
theorem gl_194 : Cond.methodLink "LevelStore$Sorter" 11 (⟨"LevelStore$Entries", "<init>", "(I)V"⟩ : MethodName) ∈ lw_tbl := List.mem_of_getElem? (i := 194) (by decide +kernel)
theorem gw_194 : Cond.methodLink "LevelStore$Sorter" 11 (⟨"LevelStore$Entries", "<init>", "(I)V"⟩ : MethodName) ∈ ga_G := List.mem_filter.mpr ⟨gl_194, rfl⟩
theorem gl_195 : Cond.fieldLink "LevelStore$Sorter" 14 "LevelStore$Sorter" "loose" "LLevelStore$Entries;" ∈ lw_tbl := List.mem_of_getElem? (i := 195) (by decide +kernel)
theorem gw_195 : Cond.fieldLink "LevelStore$Sorter" 14 "LevelStore$Sorter" "loose" "LLevelStore$Entries;" ∈ ga_G := List.mem_filter.mpr ⟨gl_195, rfl⟩
theorem gl_196 : Cond.fieldLink "LevelStore$Levels" 53 "LevelStore$Sorter" "loose" "LLevelStore$Entries;" ∈ lw_tbl := List.mem_of_getElem? (i := 196) (by decide +kernel)
theorem gw_196 : Cond.fieldLink "LevelStore$Levels" 53 "LevelStore$Sorter" "loose" "LLevelStore$Entries;" ∈ ga_G := List.mem_filter.mpr ⟨gl_196, rfl⟩
theorem gl_197 : Cond.fieldLink "LevelStore$Sorter" 20 "LevelStore$Sorter" "places" "[I" ∈ lw_tbl := List.mem_of_getElem? (i := 197) (by decide +kernel)
theorem gw_197 : Cond.fieldLink "LevelStore$Sorter" 20 "LevelStore$Sorter" "places" "[I" ∈ ga_G := List.mem_filter.mpr ⟨gl_197, rfl⟩
theorem gl_198 : Cond.fieldLink "LevelStore$Sorter" 24 "LevelStore$Sorter" "order" "[I" ∈ lw_tbl := List.mem_of_getElem? (i := 198) (by decide +kernel)
theorem gw_198 : Cond.fieldLink "LevelStore$Sorter" 24 "LevelStore$Sorter" "order" "[I" ∈ ga_G := List.mem_filter.mpr ⟨gl_198, rfl⟩
theorem gl_199 : Cond.laysFinal "LevelStore$Sorter" "LevelStore$Sorter" "loose" "LLevelStore$Entries;" ∈ lw_tbl := List.mem_of_getElem? (i := 199) (by decide +kernel)
theorem gw_199 : Cond.laysFinal "LevelStore$Sorter" "LevelStore$Sorter" "loose" "LLevelStore$Entries;" ∈ ga_G := List.mem_filter.mpr ⟨gl_199, rfl⟩
theorem gl_201 : Cond.laysFinal "LevelStore$Sorter" "LevelStore$Sorter" "places" "[I" ∈ lw_tbl := List.mem_of_getElem? (i := 201) (by decide +kernel)
theorem gw_201 : Cond.laysFinal "LevelStore$Sorter" "LevelStore$Sorter" "places" "[I" ∈ ga_G := List.mem_filter.mpr ⟨gl_201, rfl⟩
theorem gl_203 : Cond.laysFinal "LevelStore$Sorter" "LevelStore$Sorter" "order" "[I" ∈ lw_tbl := List.mem_of_getElem? (i := 203) (by decide +kernel)
theorem gw_203 : Cond.laysFinal "LevelStore$Sorter" "LevelStore$Sorter" "order" "[I" ∈ ga_G := List.mem_filter.mpr ⟨gl_203, rfl⟩
theorem gl_206 : Cond.classLink "LevelStore$Levels" 28 "LevelStore$Entries" ∈ lw_tbl := List.mem_of_getElem? (i := 206) (by decide +kernel)
theorem gw_206 : Cond.classLink "LevelStore$Levels" 28 "LevelStore$Entries" ∈ ga_G := List.mem_filter.mpr ⟨gl_206, rfl⟩
theorem gl_207 : Cond.methodLink "LevelStore$Levels" 30 (⟨"LevelStore$Entries", "<init>", "(I)V"⟩ : MethodName) ∈ lw_tbl := List.mem_of_getElem? (i := 207) (by decide +kernel)
theorem gw_207 : Cond.methodLink "LevelStore$Levels" 30 (⟨"LevelStore$Entries", "<init>", "(I)V"⟩ : MethodName) ∈ ga_G := List.mem_filter.mpr ⟨gl_207, rfl⟩
theorem gl_208 : Cond.fieldLink "LevelStore$Levels" 12 "LevelStore$Levels" "shelf" "LLevelStore$Shelf;" ∈ lw_tbl := List.mem_of_getElem? (i := 208) (by decide +kernel)
theorem gw_208 : Cond.fieldLink "LevelStore$Levels" 12 "LevelStore$Levels" "shelf" "LLevelStore$Shelf;" ∈ ga_G := List.mem_filter.mpr ⟨gl_208, rfl⟩
theorem gl_209 : Cond.fieldLink "LevelStore" 86 "LevelStore$Levels" "shelf" "LLevelStore$Shelf;" ∈ lw_tbl := List.mem_of_getElem? (i := 209) (by decide +kernel)
theorem gw_209 : Cond.fieldLink "LevelStore" 86 "LevelStore$Levels" "shelf" "LLevelStore$Shelf;" ∈ ga_G := List.mem_filter.mpr ⟨gl_209, rfl⟩
theorem gl_210 : Cond.fieldLink "LevelStore$Levels" 18 "LevelStore$Levels" "spare" "LLevelStore$Shelf;" ∈ lw_tbl := List.mem_of_getElem? (i := 210) (by decide +kernel)
theorem gw_210 : Cond.fieldLink "LevelStore$Levels" 18 "LevelStore$Levels" "spare" "LLevelStore$Shelf;" ∈ ga_G := List.mem_filter.mpr ⟨gl_210, rfl⟩
theorem gl_211 : Cond.fieldLink "LevelStore$Levels" 24 "LevelStore$Levels" "sorter" "LLevelStore$Sorter;" ∈ lw_tbl := List.mem_of_getElem? (i := 211) (by decide +kernel)
theorem gw_211 : Cond.fieldLink "LevelStore$Levels" 24 "LevelStore$Levels" "sorter" "LLevelStore$Sorter;" ∈ ga_G := List.mem_filter.mpr ⟨gl_211, rfl⟩
theorem gl_212 : Cond.fieldLink "LevelStore$Levels" 33 "LevelStore$Levels" "merged" "LLevelStore$Entries;" ∈ lw_tbl := List.mem_of_getElem? (i := 212) (by decide +kernel)
theorem gw_212 : Cond.fieldLink "LevelStore$Levels" 33 "LevelStore$Levels" "merged" "LLevelStore$Entries;" ∈ ga_G := List.mem_filter.mpr ⟨gl_212, rfl⟩
theorem gl_213 : Cond.fieldLink "LevelStore$Levels" 37 "LevelStore$Levels" "joining" "[Z" ∈ lw_tbl := List.mem_of_getElem? (i := 213) (by decide +kernel)
theorem gw_213 : Cond.fieldLink "LevelStore$Levels" 37 "LevelStore$Levels" "joining" "[Z" ∈ ga_G := List.mem_filter.mpr ⟨gl_213, rfl⟩
theorem gl_214 : Cond.fieldLink "LevelStore$Levels" 41 "LevelStore$Levels" "pointers" "[I" ∈ lw_tbl := List.mem_of_getElem? (i := 214) (by decide +kernel)
theorem gw_214 : Cond.fieldLink "LevelStore$Levels" 41 "LevelStore$Levels" "pointers" "[I" ∈ ga_G := List.mem_filter.mpr ⟨gl_214, rfl⟩
theorem gl_215 : Cond.fieldLink "LevelStore" 190 "LevelStore$Levels" "pointers" "[I" ∈ lw_tbl := List.mem_of_getElem? (i := 215) (by decide +kernel)
theorem gw_215 : Cond.fieldLink "LevelStore" 190 "LevelStore$Levels" "pointers" "[I" ∈ ga_G := List.mem_filter.mpr ⟨gl_215, rfl⟩
theorem gl_216 : Cond.fieldLink "LevelStore$Levels" 45 "LevelStore$Levels" "stuck" "Z" ∈ lw_tbl := List.mem_of_getElem? (i := 216) (by decide +kernel)
theorem gw_216 : Cond.fieldLink "LevelStore$Levels" 45 "LevelStore$Levels" "stuck" "Z" ∈ ga_G := List.mem_filter.mpr ⟨gl_216, rfl⟩
theorem gl_217 : Cond.fieldLink "LevelStore" 178 "LevelStore$Levels" "stuck" "Z" ∈ lw_tbl := List.mem_of_getElem? (i := 217) (by decide +kernel)
theorem gw_217 : Cond.fieldLink "LevelStore" 178 "LevelStore$Levels" "stuck" "Z" ∈ ga_G := List.mem_filter.mpr ⟨gl_217, rfl⟩
theorem gl_218 : Cond.fieldLink "LevelStore$Levels" 172 "LevelStore$Levels" "made" "I" ∈ lw_tbl := List.mem_of_getElem? (i := 218) (by decide +kernel)
theorem gw_218 : Cond.fieldLink "LevelStore$Levels" 172 "LevelStore$Levels" "made" "I" ∈ ga_G := List.mem_filter.mpr ⟨gl_218, rfl⟩
theorem gl_219 : Cond.fieldLink "LevelStore" 184 "LevelStore$Levels" "made" "I" ∈ lw_tbl := List.mem_of_getElem? (i := 219) (by decide +kernel)
theorem gw_219 : Cond.fieldLink "LevelStore" 184 "LevelStore$Levels" "made" "I" ∈ ga_G := List.mem_filter.mpr ⟨gl_219, rfl⟩
theorem gl_220 : Cond.fieldLink "LevelStore$Levels" 162 "LevelStore$Levels" "dropped" "I" ∈ lw_tbl := List.mem_of_getElem? (i := 220) (by decide +kernel)
theorem gw_220 : Cond.fieldLink "LevelStore$Levels" 162 "LevelStore$Levels" "dropped" "I" ∈ ga_G := List.mem_filter.mpr ⟨gl_220, rfl⟩
theorem gl_221 : Cond.fieldLink "LevelStore" 187 "LevelStore$Levels" "dropped" "I" ∈ lw_tbl := List.mem_of_getElem? (i := 221) (by decide +kernel)
theorem gw_221 : Cond.fieldLink "LevelStore" 187 "LevelStore$Levels" "dropped" "I" ∈ ga_G := List.mem_filter.mpr ⟨gl_221, rfl⟩
theorem gl_222 : Cond.lays "LevelStore$Levels" "LevelStore$Levels" "shelf" "LLevelStore$Shelf;" ∈ lw_tbl := List.mem_of_getElem? (i := 222) (by decide +kernel)
theorem gw_222 : Cond.lays "LevelStore$Levels" "LevelStore$Levels" "shelf" "LLevelStore$Shelf;" ∈ ga_G := List.mem_filter.mpr ⟨gl_222, rfl⟩
theorem gl_224 : Cond.lays "LevelStore$Levels" "LevelStore$Levels" "spare" "LLevelStore$Shelf;" ∈ lw_tbl := List.mem_of_getElem? (i := 224) (by decide +kernel)
theorem gw_224 : Cond.lays "LevelStore$Levels" "LevelStore$Levels" "spare" "LLevelStore$Shelf;" ∈ ga_G := List.mem_filter.mpr ⟨gl_224, rfl⟩
theorem gl_226 : Cond.laysFinal "LevelStore$Levels" "LevelStore$Levels" "sorter" "LLevelStore$Sorter;" ∈ lw_tbl := List.mem_of_getElem? (i := 226) (by decide +kernel)
theorem gw_226 : Cond.laysFinal "LevelStore$Levels" "LevelStore$Levels" "sorter" "LLevelStore$Sorter;" ∈ ga_G := List.mem_filter.mpr ⟨gl_226, rfl⟩
theorem gl_228 : Cond.laysFinal "LevelStore$Levels" "LevelStore$Levels" "merged" "LLevelStore$Entries;" ∈ lw_tbl := List.mem_of_getElem? (i := 228) (by decide +kernel)
theorem gw_228 : Cond.laysFinal "LevelStore$Levels" "LevelStore$Levels" "merged" "LLevelStore$Entries;" ∈ ga_G := List.mem_filter.mpr ⟨gl_228, rfl⟩
theorem gl_230 : Cond.laysFinal "LevelStore$Levels" "LevelStore$Levels" "joining" "[Z" ∈ lw_tbl := List.mem_of_getElem? (i := 230) (by decide +kernel)
theorem gw_230 : Cond.laysFinal "LevelStore$Levels" "LevelStore$Levels" "joining" "[Z" ∈ ga_G := List.mem_filter.mpr ⟨gl_230, rfl⟩
theorem gl_232 : Cond.laysFinal "LevelStore$Levels" "LevelStore$Levels" "pointers" "[I" ∈ lw_tbl := List.mem_of_getElem? (i := 232) (by decide +kernel)
theorem gw_232 : Cond.laysFinal "LevelStore$Levels" "LevelStore$Levels" "pointers" "[I" ∈ ga_G := List.mem_filter.mpr ⟨gl_232, rfl⟩
theorem gl_234 : Cond.lays "LevelStore$Levels" "LevelStore$Levels" "stuck" "Z" ∈ lw_tbl := List.mem_of_getElem? (i := 234) (by decide +kernel)
theorem gw_234 : Cond.lays "LevelStore$Levels" "LevelStore$Levels" "stuck" "Z" ∈ ga_G := List.mem_filter.mpr ⟨gl_234, rfl⟩
theorem gl_236 : Cond.lays "LevelStore$Levels" "LevelStore$Levels" "made" "I" ∈ lw_tbl := List.mem_of_getElem? (i := 236) (by decide +kernel)
theorem gw_236 : Cond.lays "LevelStore$Levels" "LevelStore$Levels" "made" "I" ∈ ga_G := List.mem_filter.mpr ⟨gl_236, rfl⟩
theorem gl_238 : Cond.lays "LevelStore$Levels" "LevelStore$Levels" "dropped" "I" ∈ lw_tbl := List.mem_of_getElem? (i := 238) (by decide +kernel)
theorem gw_238 : Cond.lays "LevelStore$Levels" "LevelStore$Levels" "dropped" "I" ∈ ga_G := List.mem_filter.mpr ⟨gl_238, rfl⟩
theorem gl_241 : Cond.classLink "LevelStore" 23 "LevelStore$Entries" ∈ lw_tbl := List.mem_of_getElem? (i := 241) (by decide +kernel)
theorem gw_241 : Cond.classLink "LevelStore" 23 "LevelStore$Entries" ∈ ga_G := List.mem_filter.mpr ⟨gl_241, rfl⟩
theorem gl_242 : Cond.methodLink "LevelStore" 25 (⟨"LevelStore$Entries", "<init>", "(I)V"⟩ : MethodName) ∈ lw_tbl := List.mem_of_getElem? (i := 242) (by decide +kernel)
theorem gw_242 : Cond.methodLink "LevelStore" 25 (⟨"LevelStore$Entries", "<init>", "(I)V"⟩ : MethodName) ∈ ga_G := List.mem_filter.mpr ⟨gl_242, rfl⟩
theorem gl_243 : Cond.methodLink "LevelStore" 36 (⟨"java/util/Arrays", "fill", "([II)V"⟩ : MethodName) ∈ lw_tbl := List.mem_of_getElem? (i := 243) (by decide +kernel)
theorem gw_243 : Cond.methodLink "LevelStore" 36 (⟨"java/util/Arrays", "fill", "([II)V"⟩ : MethodName) ∈ ga_G := List.mem_filter.mpr ⟨gl_243, rfl⟩
theorem gl_244 : Cond.static (⟨"java/util/Arrays", "fill", "([II)V"⟩ : MethodName) ∈ lw_tbl := List.mem_of_getElem? (i := 244) (by decide +kernel)
theorem gw_244 : Cond.static (⟨"java/util/Arrays", "fill", "([II)V"⟩ : MethodName) ∈ ga_G := List.mem_filter.mpr ⟨gl_244, rfl⟩
theorem gl_245 : Cond.code y_J_fill c_J_fill 4 none ∈ lw_tbl := List.mem_of_getElem? (i := 245) (by decide +kernel)
theorem gw_245 : Cond.code y_J_fill c_J_fill 4 none ∈ ga_G := List.mem_filter.mpr ⟨gl_245, rfl⟩
theorem gl_246 : Cond.fieldLink "LevelStore" 10 "LevelStore" "memory" "LLevelStore$Memory;" ∈ lw_tbl := List.mem_of_getElem? (i := 246) (by decide +kernel)
theorem gw_246 : Cond.fieldLink "LevelStore" 10 "LevelStore" "memory" "LLevelStore$Memory;" ∈ ga_G := List.mem_filter.mpr ⟨gl_246, rfl⟩
theorem gl_247 : Cond.fieldLink "LevelStore" 19 "LevelStore" "levels" "LLevelStore$Levels;" ∈ lw_tbl := List.mem_of_getElem? (i := 247) (by decide +kernel)
theorem gw_247 : Cond.fieldLink "LevelStore" 19 "LevelStore" "levels" "LLevelStore$Levels;" ∈ ga_G := List.mem_filter.mpr ⟨gl_247, rfl⟩
theorem gl_248 : Cond.fieldLink "LevelStore" 28 "LevelStore" "pending" "LLevelStore$Entries;" ∈ lw_tbl := List.mem_of_getElem? (i := 248) (by decide +kernel)
theorem gw_248 : Cond.fieldLink "LevelStore" 28 "LevelStore" "pending" "LLevelStore$Entries;" ∈ ga_G := List.mem_filter.mpr ⟨gl_248, rfl⟩
theorem gl_249 : Cond.fieldLink "LevelStore" 32 "LevelStore" "snapshots" "[I" ∈ lw_tbl := List.mem_of_getElem? (i := 249) (by decide +kernel)
theorem gw_249 : Cond.fieldLink "LevelStore" 32 "LevelStore" "snapshots" "[I" ∈ ga_G := List.mem_filter.mpr ⟨gl_249, rfl⟩
theorem gl_250 : Cond.fieldLink "LevelStore" 46 "LevelStore" "batchOpen" "Z" ∈ lw_tbl := List.mem_of_getElem? (i := 250) (by decide +kernel)
theorem gw_250 : Cond.fieldLink "LevelStore" 46 "LevelStore" "batchOpen" "Z" ∈ ga_G := List.mem_filter.mpr ⟨gl_250, rfl⟩
theorem gl_251 : Cond.fieldLink "LevelStore" 61 "LevelStore" "latest" "I" ∈ lw_tbl := List.mem_of_getElem? (i := 251) (by decide +kernel)
theorem gw_251 : Cond.fieldLink "LevelStore" 61 "LevelStore" "latest" "I" ∈ ga_G := List.mem_filter.mpr ⟨gl_251, rfl⟩
theorem gl_252 : Cond.fieldLink "LevelStore" 154 "LevelStore" "reads" "I" ∈ lw_tbl := List.mem_of_getElem? (i := 252) (by decide +kernel)
theorem gw_252 : Cond.fieldLink "LevelStore" 154 "LevelStore" "reads" "I" ∈ ga_G := List.mem_filter.mpr ⟨gl_252, rfl⟩
theorem gl_253 : Cond.fieldLink "LevelStore" 181 "LevelStore" "misses" "I" ∈ lw_tbl := List.mem_of_getElem? (i := 253) (by decide +kernel)
theorem gw_253 : Cond.fieldLink "LevelStore" 181 "LevelStore" "misses" "I" ∈ ga_G := List.mem_filter.mpr ⟨gl_253, rfl⟩
theorem gl_254 : Cond.fieldLink "LevelStore" 119 "LevelStore" "gets" "I" ∈ lw_tbl := List.mem_of_getElem? (i := 254) (by decide +kernel)
theorem gw_254 : Cond.fieldLink "LevelStore" 119 "LevelStore" "gets" "I" ∈ ga_G := List.mem_filter.mpr ⟨gl_254, rfl⟩
theorem gl_255 : Cond.laysFinal "LevelStore" "LevelStore" "memory" "LLevelStore$Memory;" ∈ lw_tbl := List.mem_of_getElem? (i := 255) (by decide +kernel)
theorem gw_255 : Cond.laysFinal "LevelStore" "LevelStore" "memory" "LLevelStore$Memory;" ∈ ga_G := List.mem_filter.mpr ⟨gl_255, rfl⟩
theorem gl_257 : Cond.laysFinal "LevelStore" "LevelStore" "levels" "LLevelStore$Levels;" ∈ lw_tbl := List.mem_of_getElem? (i := 257) (by decide +kernel)
theorem gw_257 : Cond.laysFinal "LevelStore" "LevelStore" "levels" "LLevelStore$Levels;" ∈ ga_G := List.mem_filter.mpr ⟨gl_257, rfl⟩
theorem gl_259 : Cond.laysFinal "LevelStore" "LevelStore" "pending" "LLevelStore$Entries;" ∈ lw_tbl := List.mem_of_getElem? (i := 259) (by decide +kernel)
theorem gw_259 : Cond.laysFinal "LevelStore" "LevelStore" "pending" "LLevelStore$Entries;" ∈ ga_G := List.mem_filter.mpr ⟨gl_259, rfl⟩
theorem gl_261 : Cond.laysFinal "LevelStore" "LevelStore" "snapshots" "[I" ∈ lw_tbl := List.mem_of_getElem? (i := 261) (by decide +kernel)
theorem gw_261 : Cond.laysFinal "LevelStore" "LevelStore" "snapshots" "[I" ∈ ga_G := List.mem_filter.mpr ⟨gl_261, rfl⟩
theorem gl_263 : Cond.lays "LevelStore" "LevelStore" "batchOpen" "Z" ∈ lw_tbl := List.mem_of_getElem? (i := 263) (by decide +kernel)
theorem gw_263 : Cond.lays "LevelStore" "LevelStore" "batchOpen" "Z" ∈ ga_G := List.mem_filter.mpr ⟨gl_263, rfl⟩
theorem gl_265 : Cond.lays "LevelStore" "LevelStore" "latest" "I" ∈ lw_tbl := List.mem_of_getElem? (i := 265) (by decide +kernel)
theorem gw_265 : Cond.lays "LevelStore" "LevelStore" "latest" "I" ∈ ga_G := List.mem_filter.mpr ⟨gl_265, rfl⟩
theorem gl_267 : Cond.lays "LevelStore" "LevelStore" "reads" "I" ∈ lw_tbl := List.mem_of_getElem? (i := 267) (by decide +kernel)
theorem gw_267 : Cond.lays "LevelStore" "LevelStore" "reads" "I" ∈ ga_G := List.mem_filter.mpr ⟨gl_267, rfl⟩
theorem gl_269 : Cond.lays "LevelStore" "LevelStore" "misses" "I" ∈ lw_tbl := List.mem_of_getElem? (i := 269) (by decide +kernel)
theorem gw_269 : Cond.lays "LevelStore" "LevelStore" "misses" "I" ∈ ga_G := List.mem_filter.mpr ⟨gl_269, rfl⟩
theorem gl_271 : Cond.lays "LevelStore" "LevelStore" "gets" "I" ∈ lw_tbl := List.mem_of_getElem? (i := 271) (by decide +kernel)
theorem gw_271 : Cond.lays "LevelStore" "LevelStore" "gets" "I" ∈ ga_G := List.mem_filter.mpr ⟨gl_271, rfl⟩
theorem gl_282 : Cond.methodLink "LevelStore" 148 (⟨"LevelStore$Levels", "loseSpoiled", "()I"⟩ : MethodName) ∈ lw_tbl := List.mem_of_getElem? (i := 282) (by decide +kernel)
theorem gw_282 : Cond.methodLink "LevelStore" 148 (⟨"LevelStore$Levels", "loseSpoiled", "()I"⟩ : MethodName) ∈ ga_G := List.mem_filter.mpr ⟨gl_282, rfl⟩
theorem gl_283 : Cond.instanceMethod (⟨"LevelStore$Levels", "loseSpoiled", "()I"⟩ : MethodName) ∈ lw_tbl := List.mem_of_getElem? (i := 283) (by decide +kernel)
theorem gw_283 : Cond.instanceMethod (⟨"LevelStore$Levels", "loseSpoiled", "()I"⟩ : MethodName) ∈ ga_G := List.mem_filter.mpr ⟨gl_283, rfl⟩
theorem gl_284 : Cond.selects "LevelStore$Levels" (⟨"LevelStore$Levels", "loseSpoiled", "()I"⟩ : MethodName) (⟨"LevelStore$Levels", "loseSpoiled", "()I"⟩ : MethodName) ∈ lw_tbl := List.mem_of_getElem? (i := 284) (by decide +kernel)
theorem gw_284 : Cond.selects "LevelStore$Levels" (⟨"LevelStore$Levels", "loseSpoiled", "()I"⟩ : MethodName) (⟨"LevelStore$Levels", "loseSpoiled", "()I"⟩ : MethodName) ∈ ga_G := List.mem_filter.mpr ⟨gl_284, rfl⟩
theorem gl_285 : Cond.code y_V_loseSpoiled c_V_loseSpoiled 3 (some .int) ∈ lw_tbl := List.mem_of_getElem? (i := 285) (by decide +kernel)
theorem gw_285 : Cond.code y_V_loseSpoiled c_V_loseSpoiled 3 (some .int) ∈ ga_G := List.mem_filter.mpr ⟨gl_285, rfl⟩
theorem gl_286 : Cond.methodLink "LevelStore$Levels" 64 (⟨"LevelStore$Shelf", "clear", "()V"⟩ : MethodName) ∈ lw_tbl := List.mem_of_getElem? (i := 286) (by decide +kernel)
theorem gw_286 : Cond.methodLink "LevelStore$Levels" 64 (⟨"LevelStore$Shelf", "clear", "()V"⟩ : MethodName) ∈ ga_G := List.mem_filter.mpr ⟨gl_286, rfl⟩
theorem gl_287 : Cond.instanceMethod (⟨"LevelStore$Shelf", "clear", "()V"⟩ : MethodName) ∈ lw_tbl := List.mem_of_getElem? (i := 287) (by decide +kernel)
theorem gw_287 : Cond.instanceMethod (⟨"LevelStore$Shelf", "clear", "()V"⟩ : MethodName) ∈ ga_G := List.mem_filter.mpr ⟨gl_287, rfl⟩
theorem gl_288 : Cond.selects "LevelStore$Shelf" (⟨"LevelStore$Shelf", "clear", "()V"⟩ : MethodName) (⟨"LevelStore$Shelf", "clear", "()V"⟩ : MethodName) ∈ lw_tbl := List.mem_of_getElem? (i := 288) (by decide +kernel)
theorem gw_288 : Cond.selects "LevelStore$Shelf" (⟨"LevelStore$Shelf", "clear", "()V"⟩ : MethodName) (⟨"LevelStore$Shelf", "clear", "()V"⟩ : MethodName) ∈ ga_G := List.mem_filter.mpr ⟨gl_288, rfl⟩
theorem gl_289 : Cond.code y_S_clear c_S_clear 1 none ∈ lw_tbl := List.mem_of_getElem? (i := 289) (by decide +kernel)
theorem gw_289 : Cond.code y_S_clear c_S_clear 1 none ∈ ga_G := List.mem_filter.mpr ⟨gl_289, rfl⟩
theorem gl_290 : Cond.methodLink "LevelStore$Levels" 60 (⟨"LevelStore$Entries", "addFrom", "(LLevelStore$Entries;I)V"⟩ : MethodName) ∈ lw_tbl := List.mem_of_getElem? (i := 290) (by decide +kernel)
theorem gw_290 : Cond.methodLink "LevelStore$Levels" 60 (⟨"LevelStore$Entries", "addFrom", "(LLevelStore$Entries;I)V"⟩ : MethodName) ∈ ga_G := List.mem_filter.mpr ⟨gl_290, rfl⟩
theorem gl_291 : Cond.instanceMethod (⟨"LevelStore$Entries", "addFrom", "(LLevelStore$Entries;I)V"⟩ : MethodName) ∈ lw_tbl := List.mem_of_getElem? (i := 291) (by decide +kernel)
theorem gw_291 : Cond.instanceMethod (⟨"LevelStore$Entries", "addFrom", "(LLevelStore$Entries;I)V"⟩ : MethodName) ∈ ga_G := List.mem_filter.mpr ⟨gl_291, rfl⟩
theorem gl_292 : Cond.selects "LevelStore$Entries" (⟨"LevelStore$Entries", "addFrom", "(LLevelStore$Entries;I)V"⟩ : MethodName) (⟨"LevelStore$Entries", "addFrom", "(LLevelStore$Entries;I)V"⟩ : MethodName) ∈ lw_tbl := List.mem_of_getElem? (i := 292) (by decide +kernel)
theorem gw_292 : Cond.selects "LevelStore$Entries" (⟨"LevelStore$Entries", "addFrom", "(LLevelStore$Entries;I)V"⟩ : MethodName) (⟨"LevelStore$Entries", "addFrom", "(LLevelStore$Entries;I)V"⟩ : MethodName) ∈ ga_G := List.mem_filter.mpr ⟨gl_292, rfl⟩
theorem gl_293 : Cond.code y_E_addFrom c_E_addFrom 3 none ∈ lw_tbl := List.mem_of_getElem? (i := 293) (by decide +kernel)
theorem gw_293 : Cond.code y_E_addFrom c_E_addFrom 3 none ∈ ga_G := List.mem_filter.mpr ⟨gl_293, rfl⟩
theorem gl_294 : Cond.methodLink "LevelStore$Levels" 93 (⟨"LevelStore$Shelf", "hasLooseRows", "()Z"⟩ : MethodName) ∈ lw_tbl := List.mem_of_getElem? (i := 294) (by decide +kernel)
theorem gw_294 : Cond.methodLink "LevelStore$Levels" 93 (⟨"LevelStore$Shelf", "hasLooseRows", "()Z"⟩ : MethodName) ∈ ga_G := List.mem_filter.mpr ⟨gl_294, rfl⟩
theorem gl_295 : Cond.instanceMethod (⟨"LevelStore$Shelf", "hasLooseRows", "()Z"⟩ : MethodName) ∈ lw_tbl := List.mem_of_getElem? (i := 295) (by decide +kernel)
theorem gw_295 : Cond.instanceMethod (⟨"LevelStore$Shelf", "hasLooseRows", "()Z"⟩ : MethodName) ∈ ga_G := List.mem_filter.mpr ⟨gl_295, rfl⟩
theorem gl_296 : Cond.selects "LevelStore$Shelf" (⟨"LevelStore$Shelf", "hasLooseRows", "()Z"⟩ : MethodName) (⟨"LevelStore$Shelf", "hasLooseRows", "()Z"⟩ : MethodName) ∈ lw_tbl := List.mem_of_getElem? (i := 296) (by decide +kernel)
theorem gw_296 : Cond.selects "LevelStore$Shelf" (⟨"LevelStore$Shelf", "hasLooseRows", "()Z"⟩ : MethodName) (⟨"LevelStore$Shelf", "hasLooseRows", "()Z"⟩ : MethodName) ∈ ga_G := List.mem_filter.mpr ⟨gl_296, rfl⟩
theorem gl_297 : Cond.code y_S_hasLooseRows c_S_hasLooseRows 1 (some .boolean) ∈ lw_tbl := List.mem_of_getElem? (i := 297) (by decide +kernel)
theorem gw_297 : Cond.code y_S_hasLooseRows c_S_hasLooseRows 1 (some .boolean) ∈ ga_G := List.mem_filter.mpr ⟨gl_297, rfl⟩
theorem gl_298 : Cond.methodLink "LevelStore$Levels" 103 (⟨"LevelStore$Shelf", "endTable", "(II)V"⟩ : MethodName) ∈ lw_tbl := List.mem_of_getElem? (i := 298) (by decide +kernel)
theorem gw_298 : Cond.methodLink "LevelStore$Levels" 103 (⟨"LevelStore$Shelf", "endTable", "(II)V"⟩ : MethodName) ∈ ga_G := List.mem_filter.mpr ⟨gl_298, rfl⟩
theorem gl_299 : Cond.instanceMethod (⟨"LevelStore$Shelf", "endTable", "(II)V"⟩ : MethodName) ∈ lw_tbl := List.mem_of_getElem? (i := 299) (by decide +kernel)
theorem gw_299 : Cond.instanceMethod (⟨"LevelStore$Shelf", "endTable", "(II)V"⟩ : MethodName) ∈ ga_G := List.mem_filter.mpr ⟨gl_299, rfl⟩
theorem gl_300 : Cond.selects "LevelStore$Shelf" (⟨"LevelStore$Shelf", "endTable", "(II)V"⟩ : MethodName) (⟨"LevelStore$Shelf", "endTable", "(II)V"⟩ : MethodName) ∈ lw_tbl := List.mem_of_getElem? (i := 300) (by decide +kernel)
theorem gw_300 : Cond.selects "LevelStore$Shelf" (⟨"LevelStore$Shelf", "endTable", "(II)V"⟩ : MethodName) (⟨"LevelStore$Shelf", "endTable", "(II)V"⟩ : MethodName) ∈ ga_G := List.mem_filter.mpr ⟨gl_300, rfl⟩
theorem gl_301 : Cond.code y_S_endTable c_S_endTable 3 none ∈ lw_tbl := List.mem_of_getElem? (i := 301) (by decide +kernel)
theorem gw_301 : Cond.code y_S_endTable c_S_endTable 3 none ∈ ga_G := List.mem_filter.mpr ⟨gl_301, rfl⟩
theorem gl_302 : Cond.methodLink "LevelStore$Levels" 84 (⟨"LevelStore$Levels", "changeShelf", "()V"⟩ : MethodName) ∈ lw_tbl := List.mem_of_getElem? (i := 302) (by decide +kernel)
theorem gw_302 : Cond.methodLink "LevelStore$Levels" 84 (⟨"LevelStore$Levels", "changeShelf", "()V"⟩ : MethodName) ∈ ga_G := List.mem_filter.mpr ⟨gl_302, rfl⟩
theorem gl_304 : Cond.instanceMethod (⟨"LevelStore$Levels", "changeShelf", "()V"⟩ : MethodName) ∈ lw_tbl := List.mem_of_getElem? (i := 304) (by decide +kernel)
theorem gw_304 : Cond.instanceMethod (⟨"LevelStore$Levels", "changeShelf", "()V"⟩ : MethodName) ∈ ga_G := List.mem_filter.mpr ⟨gl_304, rfl⟩
theorem gl_305 : Cond.code y_V_changeShelf c_V_changeShelf 2 none ∈ lw_tbl := List.mem_of_getElem? (i := 305) (by decide +kernel)
theorem gw_305 : Cond.code y_V_changeShelf c_V_changeShelf 2 none ∈ ga_G := List.mem_filter.mpr ⟨gl_305, rfl⟩
theorem gl_306 : Cond.methodLink "LevelStore" 106 (⟨"LevelStore", "oldest", "()I"⟩ : MethodName) ∈ lw_tbl := List.mem_of_getElem? (i := 306) (by decide +kernel)
theorem gw_306 : Cond.methodLink "LevelStore" 106 (⟨"LevelStore", "oldest", "()I"⟩ : MethodName) ∈ ga_G := List.mem_filter.mpr ⟨gl_306, rfl⟩
theorem gl_308 : Cond.instanceMethod (⟨"LevelStore", "oldest", "()I"⟩ : MethodName) ∈ lw_tbl := List.mem_of_getElem? (i := 308) (by decide +kernel)
theorem gw_308 : Cond.instanceMethod (⟨"LevelStore", "oldest", "()I"⟩ : MethodName) ∈ ga_G := List.mem_filter.mpr ⟨gl_308, rfl⟩
theorem gl_309 : Cond.code y_L_oldest c_L_oldest 3 (some .int) ∈ lw_tbl := List.mem_of_getElem? (i := 309) (by decide +kernel)
theorem gw_309 : Cond.code y_L_oldest c_L_oldest 3 (some .int) ∈ ga_G := List.mem_filter.mpr ⟨gl_309, rfl⟩
theorem gl_310 : Cond.methodLink "LevelStore" 199 (⟨"java/lang/Math", "min", "(II)I"⟩ : MethodName) ∈ lw_tbl := List.mem_of_getElem? (i := 310) (by decide +kernel)
theorem gw_310 : Cond.methodLink "LevelStore" 199 (⟨"java/lang/Math", "min", "(II)I"⟩ : MethodName) ∈ ga_G := List.mem_filter.mpr ⟨gl_310, rfl⟩
theorem gl_311 : Cond.static (⟨"java/lang/Math", "min", "(II)I"⟩ : MethodName) ∈ lw_tbl := List.mem_of_getElem? (i := 311) (by decide +kernel)
theorem gw_311 : Cond.static (⟨"java/lang/Math", "min", "(II)I"⟩ : MethodName) ∈ ga_G := List.mem_filter.mpr ⟨gl_311, rfl⟩
theorem gl_312 : Cond.code Lib.Math.min.name Lib.Math.min.code 2 (some .int) ∈ lw_tbl := List.mem_of_getElem? (i := 312) (by decide +kernel)
theorem gw_312 : Cond.code Lib.Math.min.name Lib.Math.min.code 2 (some .int) ∈ ga_G := List.mem_filter.mpr ⟨gl_312, rfl⟩
theorem gl_313 : Cond.methodLink "LevelStore" 109 (⟨"LevelStore$Levels", "tidy", "(I)V"⟩ : MethodName) ∈ lw_tbl := List.mem_of_getElem? (i := 313) (by decide +kernel)
theorem gw_313 : Cond.methodLink "LevelStore" 109 (⟨"LevelStore$Levels", "tidy", "(I)V"⟩ : MethodName) ∈ ga_G := List.mem_filter.mpr ⟨gl_313, rfl⟩
theorem gl_314 : Cond.instanceMethod (⟨"LevelStore$Levels", "tidy", "(I)V"⟩ : MethodName) ∈ lw_tbl := List.mem_of_getElem? (i := 314) (by decide +kernel)
theorem gw_314 : Cond.instanceMethod (⟨"LevelStore$Levels", "tidy", "(I)V"⟩ : MethodName) ∈ ga_G := List.mem_filter.mpr ⟨gl_314, rfl⟩
theorem gl_315 : Cond.selects "LevelStore$Levels" (⟨"LevelStore$Levels", "tidy", "(I)V"⟩ : MethodName) (⟨"LevelStore$Levels", "tidy", "(I)V"⟩ : MethodName) ∈ lw_tbl := List.mem_of_getElem? (i := 315) (by decide +kernel)
theorem gw_315 : Cond.selects "LevelStore$Levels" (⟨"LevelStore$Levels", "tidy", "(I)V"⟩ : MethodName) (⟨"LevelStore$Levels", "tidy", "(I)V"⟩ : MethodName) ∈ ga_G := List.mem_filter.mpr ⟨gl_315, rfl⟩
theorem gl_316 : Cond.code y_V_tidy c_V_tidy 6 none ∈ lw_tbl := List.mem_of_getElem? (i := 316) (by decide +kernel)
theorem gw_316 : Cond.code y_V_tidy c_V_tidy 6 none ∈ ga_G := List.mem_filter.mpr ⟨gl_316, rfl⟩
theorem gl_317 : Cond.methodLink "LevelStore$Levels" 107 (⟨"LevelStore$Levels", "fullLevel", "()I"⟩ : MethodName) ∈ lw_tbl := List.mem_of_getElem? (i := 317) (by decide +kernel)
theorem gw_317 : Cond.methodLink "LevelStore$Levels" 107 (⟨"LevelStore$Levels", "fullLevel", "()I"⟩ : MethodName) ∈ ga_G := List.mem_filter.mpr ⟨gl_317, rfl⟩
theorem gl_319 : Cond.instanceMethod (⟨"LevelStore$Levels", "fullLevel", "()I"⟩ : MethodName) ∈ lw_tbl := List.mem_of_getElem? (i := 319) (by decide +kernel)
theorem gw_319 : Cond.instanceMethod (⟨"LevelStore$Levels", "fullLevel", "()I"⟩ : MethodName) ∈ ga_G := List.mem_filter.mpr ⟨gl_319, rfl⟩
theorem gl_320 : Cond.code y_V_fullLevel c_V_fullLevel 2 (some .int) ∈ lw_tbl := List.mem_of_getElem? (i := 320) (by decide +kernel)
theorem gw_320 : Cond.code y_V_fullLevel c_V_fullLevel 2 (some .int) ∈ ga_G := List.mem_filter.mpr ⟨gl_320, rfl⟩
theorem gl_321 : Cond.methodLink "LevelStore$Levels" 49 (⟨"LevelStore$Shelf", "tablesOn", "(I)I"⟩ : MethodName) ∈ lw_tbl := List.mem_of_getElem? (i := 321) (by decide +kernel)
theorem gw_321 : Cond.methodLink "LevelStore$Levels" 49 (⟨"LevelStore$Shelf", "tablesOn", "(I)I"⟩ : MethodName) ∈ ga_G := List.mem_filter.mpr ⟨gl_321, rfl⟩
theorem gl_322 : Cond.instanceMethod (⟨"LevelStore$Shelf", "tablesOn", "(I)I"⟩ : MethodName) ∈ lw_tbl := List.mem_of_getElem? (i := 322) (by decide +kernel)
theorem gw_322 : Cond.instanceMethod (⟨"LevelStore$Shelf", "tablesOn", "(I)I"⟩ : MethodName) ∈ ga_G := List.mem_filter.mpr ⟨gl_322, rfl⟩
theorem gl_323 : Cond.selects "LevelStore$Shelf" (⟨"LevelStore$Shelf", "tablesOn", "(I)I"⟩ : MethodName) (⟨"LevelStore$Shelf", "tablesOn", "(I)I"⟩ : MethodName) ∈ lw_tbl := List.mem_of_getElem? (i := 323) (by decide +kernel)
theorem gw_323 : Cond.selects "LevelStore$Shelf" (⟨"LevelStore$Shelf", "tablesOn", "(I)I"⟩ : MethodName) (⟨"LevelStore$Shelf", "tablesOn", "(I)I"⟩ : MethodName) ∈ ga_G := List.mem_filter.mpr ⟨gl_323, rfl⟩
theorem gl_324 : Cond.code y_S_tablesOn c_S_tablesOn 4 (some .int) ∈ lw_tbl := List.mem_of_getElem? (i := 324) (by decide +kernel)
theorem gw_324 : Cond.code y_S_tablesOn c_S_tablesOn 4 (some .int) ∈ ga_G := List.mem_filter.mpr ⟨gl_324, rfl⟩
theorem gl_325 : Cond.methodLink "LevelStore$Levels" 111 (⟨"LevelStore$Shelf", "firstAbove", "(II)I"⟩ : MethodName) ∈ lw_tbl := List.mem_of_getElem? (i := 325) (by decide +kernel)
theorem gw_325 : Cond.methodLink "LevelStore$Levels" 111 (⟨"LevelStore$Shelf", "firstAbove", "(II)I"⟩ : MethodName) ∈ ga_G := List.mem_filter.mpr ⟨gl_325, rfl⟩
theorem gl_326 : Cond.instanceMethod (⟨"LevelStore$Shelf", "firstAbove", "(II)I"⟩ : MethodName) ∈ lw_tbl := List.mem_of_getElem? (i := 326) (by decide +kernel)
theorem gw_326 : Cond.instanceMethod (⟨"LevelStore$Shelf", "firstAbove", "(II)I"⟩ : MethodName) ∈ ga_G := List.mem_filter.mpr ⟨gl_326, rfl⟩
theorem gl_327 : Cond.selects "LevelStore$Shelf" (⟨"LevelStore$Shelf", "firstAbove", "(II)I"⟩ : MethodName) (⟨"LevelStore$Shelf", "firstAbove", "(II)I"⟩ : MethodName) ∈ lw_tbl := List.mem_of_getElem? (i := 327) (by decide +kernel)
theorem gw_327 : Cond.selects "LevelStore$Shelf" (⟨"LevelStore$Shelf", "firstAbove", "(II)I"⟩ : MethodName) (⟨"LevelStore$Shelf", "firstAbove", "(II)I"⟩ : MethodName) ∈ ga_G := List.mem_filter.mpr ⟨gl_327, rfl⟩
theorem gl_328 : Cond.code y_S_firstAbove c_S_firstAbove 5 (some .int) ∈ lw_tbl := List.mem_of_getElem? (i := 328) (by decide +kernel)
theorem gw_328 : Cond.code y_S_firstAbove c_S_firstAbove 5 (some .int) ∈ ga_G := List.mem_filter.mpr ⟨gl_328, rfl⟩
theorem gl_329 : Cond.methodLink "LevelStore$Shelf" 48 (⟨"LevelStore$Shelf", "leastKey", "(I)I"⟩ : MethodName) ∈ lw_tbl := List.mem_of_getElem? (i := 329) (by decide +kernel)
theorem gw_329 : Cond.methodLink "LevelStore$Shelf" 48 (⟨"LevelStore$Shelf", "leastKey", "(I)I"⟩ : MethodName) ∈ ga_G := List.mem_filter.mpr ⟨gl_329, rfl⟩
theorem gl_330 : Cond.instanceMethod (⟨"LevelStore$Shelf", "leastKey", "(I)I"⟩ : MethodName) ∈ lw_tbl := List.mem_of_getElem? (i := 330) (by decide +kernel)
theorem gw_330 : Cond.instanceMethod (⟨"LevelStore$Shelf", "leastKey", "(I)I"⟩ : MethodName) ∈ ga_G := List.mem_filter.mpr ⟨gl_330, rfl⟩
theorem gl_331 : Cond.selects "LevelStore$Shelf" (⟨"LevelStore$Shelf", "leastKey", "(I)I"⟩ : MethodName) (⟨"LevelStore$Shelf", "leastKey", "(I)I"⟩ : MethodName) ∈ lw_tbl := List.mem_of_getElem? (i := 331) (by decide +kernel)
theorem gw_331 : Cond.selects "LevelStore$Shelf" (⟨"LevelStore$Shelf", "leastKey", "(I)I"⟩ : MethodName) (⟨"LevelStore$Shelf", "leastKey", "(I)I"⟩ : MethodName) ∈ ga_G := List.mem_filter.mpr ⟨gl_331, rfl⟩
theorem gl_332 : Cond.code y_S_leastKey c_S_leastKey 2 (some .int) ∈ lw_tbl := List.mem_of_getElem? (i := 332) (by decide +kernel)
theorem gw_332 : Cond.code y_S_leastKey c_S_leastKey 2 (some .int) ∈ ga_G := List.mem_filter.mpr ⟨gl_332, rfl⟩
theorem gl_333 : Cond.methodLink "LevelStore$Levels" 115 (⟨"LevelStore$Levels", "merge", "(IIII)V"⟩ : MethodName) ∈ lw_tbl := List.mem_of_getElem? (i := 333) (by decide +kernel)
theorem gw_333 : Cond.methodLink "LevelStore$Levels" 115 (⟨"LevelStore$Levels", "merge", "(IIII)V"⟩ : MethodName) ∈ ga_G := List.mem_filter.mpr ⟨gl_333, rfl⟩
theorem gl_335 : Cond.instanceMethod (⟨"LevelStore$Levels", "merge", "(IIII)V"⟩ : MethodName) ∈ lw_tbl := List.mem_of_getElem? (i := 335) (by decide +kernel)
theorem gw_335 : Cond.instanceMethod (⟨"LevelStore$Levels", "merge", "(IIII)V"⟩ : MethodName) ∈ ga_G := List.mem_filter.mpr ⟨gl_335, rfl⟩
theorem gl_336 : Cond.code y_V_merge c_V_merge 9 none ∈ lw_tbl := List.mem_of_getElem? (i := 336) (by decide +kernel)
theorem gw_336 : Cond.code y_V_merge c_V_merge 9 none ∈ ga_G := List.mem_filter.mpr ⟨gl_336, rfl⟩
theorem gl_337 : Cond.methodLink "LevelStore$Levels" 119 (⟨"LevelStore$Shelf", "leastKey", "(I)I"⟩ : MethodName) ∈ lw_tbl := List.mem_of_getElem? (i := 337) (by decide +kernel)
theorem gw_337 : Cond.methodLink "LevelStore$Levels" 119 (⟨"LevelStore$Shelf", "leastKey", "(I)I"⟩ : MethodName) ∈ ga_G := List.mem_filter.mpr ⟨gl_337, rfl⟩
theorem gl_338 : Cond.methodLink "LevelStore$Levels" 122 (⟨"java/lang/Math", "min", "(II)I"⟩ : MethodName) ∈ lw_tbl := List.mem_of_getElem? (i := 338) (by decide +kernel)
theorem gw_338 : Cond.methodLink "LevelStore$Levels" 122 (⟨"java/lang/Math", "min", "(II)I"⟩ : MethodName) ∈ ga_G := List.mem_filter.mpr ⟨gl_338, rfl⟩
theorem gl_339 : Cond.methodLink "LevelStore$Levels" 127 (⟨"LevelStore$Shelf", "greatestKey", "(I)I"⟩ : MethodName) ∈ lw_tbl := List.mem_of_getElem? (i := 339) (by decide +kernel)
theorem gw_339 : Cond.methodLink "LevelStore$Levels" 127 (⟨"LevelStore$Shelf", "greatestKey", "(I)I"⟩ : MethodName) ∈ ga_G := List.mem_filter.mpr ⟨gl_339, rfl⟩
theorem gl_340 : Cond.instanceMethod (⟨"LevelStore$Shelf", "greatestKey", "(I)I"⟩ : MethodName) ∈ lw_tbl := List.mem_of_getElem? (i := 340) (by decide +kernel)
theorem gw_340 : Cond.instanceMethod (⟨"LevelStore$Shelf", "greatestKey", "(I)I"⟩ : MethodName) ∈ ga_G := List.mem_filter.mpr ⟨gl_340, rfl⟩
theorem gl_341 : Cond.selects "LevelStore$Shelf" (⟨"LevelStore$Shelf", "greatestKey", "(I)I"⟩ : MethodName) (⟨"LevelStore$Shelf", "greatestKey", "(I)I"⟩ : MethodName) ∈ lw_tbl := List.mem_of_getElem? (i := 341) (by decide +kernel)
theorem gw_341 : Cond.selects "LevelStore$Shelf" (⟨"LevelStore$Shelf", "greatestKey", "(I)I"⟩ : MethodName) (⟨"LevelStore$Shelf", "greatestKey", "(I)I"⟩ : MethodName) ∈ ga_G := List.mem_filter.mpr ⟨gl_341, rfl⟩
theorem gl_342 : Cond.code y_S_greatestKey c_S_greatestKey 2 (some .int) ∈ lw_tbl := List.mem_of_getElem? (i := 342) (by decide +kernel)
theorem gw_342 : Cond.code y_S_greatestKey c_S_greatestKey 2 (some .int) ∈ ga_G := List.mem_filter.mpr ⟨gl_342, rfl⟩
theorem gl_343 : Cond.methodLink "LevelStore$Levels" 130 (⟨"java/lang/Math", "max", "(II)I"⟩ : MethodName) ∈ lw_tbl := List.mem_of_getElem? (i := 343) (by decide +kernel)
theorem gw_343 : Cond.methodLink "LevelStore$Levels" 130 (⟨"java/lang/Math", "max", "(II)I"⟩ : MethodName) ∈ ga_G := List.mem_filter.mpr ⟨gl_343, rfl⟩
theorem gl_344 : Cond.static (⟨"java/lang/Math", "max", "(II)I"⟩ : MethodName) ∈ lw_tbl := List.mem_of_getElem? (i := 344) (by decide +kernel)
theorem gw_344 : Cond.static (⟨"java/lang/Math", "max", "(II)I"⟩ : MethodName) ∈ ga_G := List.mem_filter.mpr ⟨gl_344, rfl⟩
theorem gl_345 : Cond.code Lib.Math.max.name Lib.Math.max.code 2 (some .int) ∈ lw_tbl := List.mem_of_getElem? (i := 345) (by decide +kernel)
theorem gw_345 : Cond.code Lib.Math.max.name Lib.Math.max.code 2 (some .int) ∈ ga_G := List.mem_filter.mpr ⟨gl_345, rfl⟩
theorem gl_346 : Cond.methodLink "LevelStore$Levels" 133 (⟨"LevelStore$Shelf", "meets", "(III)Z"⟩ : MethodName) ∈ lw_tbl := List.mem_of_getElem? (i := 346) (by decide +kernel)
theorem gw_346 : Cond.methodLink "LevelStore$Levels" 133 (⟨"LevelStore$Shelf", "meets", "(III)Z"⟩ : MethodName) ∈ ga_G := List.mem_filter.mpr ⟨gl_346, rfl⟩
theorem gl_347 : Cond.instanceMethod (⟨"LevelStore$Shelf", "meets", "(III)Z"⟩ : MethodName) ∈ lw_tbl := List.mem_of_getElem? (i := 347) (by decide +kernel)
theorem gw_347 : Cond.instanceMethod (⟨"LevelStore$Shelf", "meets", "(III)Z"⟩ : MethodName) ∈ ga_G := List.mem_filter.mpr ⟨gl_347, rfl⟩
theorem gl_348 : Cond.selects "LevelStore$Shelf" (⟨"LevelStore$Shelf", "meets", "(III)Z"⟩ : MethodName) (⟨"LevelStore$Shelf", "meets", "(III)Z"⟩ : MethodName) ∈ lw_tbl := List.mem_of_getElem? (i := 348) (by decide +kernel)
theorem gw_348 : Cond.selects "LevelStore$Shelf" (⟨"LevelStore$Shelf", "meets", "(III)Z"⟩ : MethodName) (⟨"LevelStore$Shelf", "meets", "(III)Z"⟩ : MethodName) ∈ ga_G := List.mem_filter.mpr ⟨gl_348, rfl⟩
theorem gl_349 : Cond.code y_S_meets c_S_meets 4 (some .boolean) ∈ lw_tbl := List.mem_of_getElem? (i := 349) (by decide +kernel)
theorem gw_349 : Cond.code y_S_meets c_S_meets 4 (some .boolean) ∈ ga_G := List.mem_filter.mpr ⟨gl_349, rfl⟩
theorem gl_350 : Cond.methodLink "LevelStore$Shelf" 52 (⟨"LevelStore$Shelf", "greatestKey", "(I)I"⟩ : MethodName) ∈ lw_tbl := List.mem_of_getElem? (i := 350) (by decide +kernel)
theorem gw_350 : Cond.methodLink "LevelStore$Shelf" 52 (⟨"LevelStore$Shelf", "greatestKey", "(I)I"⟩ : MethodName) ∈ ga_G := List.mem_filter.mpr ⟨gl_350, rfl⟩
theorem gl_351 : Cond.methodLink "LevelStore$Levels" 137 (⟨"LevelStore$Shelf", "spoiledBlocksOf", "(I)I"⟩ : MethodName) ∈ lw_tbl := List.mem_of_getElem? (i := 351) (by decide +kernel)
theorem gw_351 : Cond.methodLink "LevelStore$Levels" 137 (⟨"LevelStore$Shelf", "spoiledBlocksOf", "(I)I"⟩ : MethodName) ∈ ga_G := List.mem_filter.mpr ⟨gl_351, rfl⟩
theorem gl_352 : Cond.instanceMethod (⟨"LevelStore$Shelf", "spoiledBlocksOf", "(I)I"⟩ : MethodName) ∈ lw_tbl := List.mem_of_getElem? (i := 352) (by decide +kernel)
theorem gw_352 : Cond.instanceMethod (⟨"LevelStore$Shelf", "spoiledBlocksOf", "(I)I"⟩ : MethodName) ∈ ga_G := List.mem_filter.mpr ⟨gl_352, rfl⟩
theorem gl_353 : Cond.selects "LevelStore$Shelf" (⟨"LevelStore$Shelf", "spoiledBlocksOf", "(I)I"⟩ : MethodName) (⟨"LevelStore$Shelf", "spoiledBlocksOf", "(I)I"⟩ : MethodName) ∈ lw_tbl := List.mem_of_getElem? (i := 353) (by decide +kernel)
theorem gw_353 : Cond.selects "LevelStore$Shelf" (⟨"LevelStore$Shelf", "spoiledBlocksOf", "(I)I"⟩ : MethodName) (⟨"LevelStore$Shelf", "spoiledBlocksOf", "(I)I"⟩ : MethodName) ∈ ga_G := List.mem_filter.mpr ⟨gl_353, rfl⟩
theorem gl_354 : Cond.code y_S_spoiledBlocksOf c_S_spoiledBlocksOf 4 (some .int) ∈ lw_tbl := List.mem_of_getElem? (i := 354) (by decide +kernel)
theorem gw_354 : Cond.code y_S_spoiledBlocksOf c_S_spoiledBlocksOf 4 (some .int) ∈ ga_G := List.mem_filter.mpr ⟨gl_354, rfl⟩
theorem gl_355 : Cond.methodLink "LevelStore$Levels" 140 (⟨"LevelStore$Levels", "sortJoining", "()V"⟩ : MethodName) ∈ lw_tbl := List.mem_of_getElem? (i := 355) (by decide +kernel)
theorem gw_355 : Cond.methodLink "LevelStore$Levels" 140 (⟨"LevelStore$Levels", "sortJoining", "()V"⟩ : MethodName) ∈ ga_G := List.mem_filter.mpr ⟨gl_355, rfl⟩
theorem gl_357 : Cond.instanceMethod (⟨"LevelStore$Levels", "sortJoining", "()V"⟩ : MethodName) ∈ lw_tbl := List.mem_of_getElem? (i := 357) (by decide +kernel)
theorem gw_357 : Cond.instanceMethod (⟨"LevelStore$Levels", "sortJoining", "()V"⟩ : MethodName) ∈ ga_G := List.mem_filter.mpr ⟨gl_357, rfl⟩
theorem gl_358 : Cond.code y_V_sortJoining c_V_sortJoining 3 none ∈ lw_tbl := List.mem_of_getElem? (i := 358) (by decide +kernel)
theorem gw_358 : Cond.code y_V_sortJoining c_V_sortJoining 3 none ∈ ga_G := List.mem_filter.mpr ⟨gl_358, rfl⟩
theorem gl_359 : Cond.methodLink "LevelStore$Levels" 70 (⟨"LevelStore$Sorter", "addSorted", "(LLevelStore$Entries;)V"⟩ : MethodName) ∈ lw_tbl := List.mem_of_getElem? (i := 359) (by decide +kernel)
theorem gw_359 : Cond.methodLink "LevelStore$Levels" 70 (⟨"LevelStore$Sorter", "addSorted", "(LLevelStore$Entries;)V"⟩ : MethodName) ∈ ga_G := List.mem_filter.mpr ⟨gl_359, rfl⟩
theorem gl_360 : Cond.instanceMethod (⟨"LevelStore$Sorter", "addSorted", "(LLevelStore$Entries;)V"⟩ : MethodName) ∈ lw_tbl := List.mem_of_getElem? (i := 360) (by decide +kernel)
theorem gw_360 : Cond.instanceMethod (⟨"LevelStore$Sorter", "addSorted", "(LLevelStore$Entries;)V"⟩ : MethodName) ∈ ga_G := List.mem_filter.mpr ⟨gl_360, rfl⟩
theorem gl_361 : Cond.selects "LevelStore$Sorter" (⟨"LevelStore$Sorter", "addSorted", "(LLevelStore$Entries;)V"⟩ : MethodName) (⟨"LevelStore$Sorter", "addSorted", "(LLevelStore$Entries;)V"⟩ : MethodName) ∈ lw_tbl := List.mem_of_getElem? (i := 361) (by decide +kernel)
theorem gw_361 : Cond.selects "LevelStore$Sorter" (⟨"LevelStore$Sorter", "addSorted", "(LLevelStore$Entries;)V"⟩ : MethodName) (⟨"LevelStore$Sorter", "addSorted", "(LLevelStore$Entries;)V"⟩ : MethodName) ∈ ga_G := List.mem_filter.mpr ⟨gl_361, rfl⟩
theorem gl_362 : Cond.code y_O_addSorted c_O_addSorted 4 none ∈ lw_tbl := List.mem_of_getElem? (i := 362) (by decide +kernel)
theorem gw_362 : Cond.code y_O_addSorted c_O_addSorted 4 none ∈ ga_G := List.mem_filter.mpr ⟨gl_362, rfl⟩
theorem gl_363 : Cond.methodLink "LevelStore$Sorter" 27 (⟨"java/util/Arrays", "fill", "([II)V"⟩ : MethodName) ∈ lw_tbl := List.mem_of_getElem? (i := 363) (by decide +kernel)
theorem gw_363 : Cond.methodLink "LevelStore$Sorter" 27 (⟨"java/util/Arrays", "fill", "([II)V"⟩ : MethodName) ∈ ga_G := List.mem_filter.mpr ⟨gl_363, rfl⟩
theorem gl_364 : Cond.methodLink "LevelStore$Sorter" 40 (⟨"LevelStore$Entries", "addFrom", "(LLevelStore$Entries;I)V"⟩ : MethodName) ∈ lw_tbl := List.mem_of_getElem? (i := 364) (by decide +kernel)
theorem gw_364 : Cond.methodLink "LevelStore$Sorter" 40 (⟨"LevelStore$Entries", "addFrom", "(LLevelStore$Entries;I)V"⟩ : MethodName) ∈ ga_G := List.mem_filter.mpr ⟨gl_364, rfl⟩
theorem gl_365 : Cond.methodLink "LevelStore$Levels" 143 (⟨"LevelStore$Shelf", "placeBehind", "(II)I"⟩ : MethodName) ∈ lw_tbl := List.mem_of_getElem? (i := 365) (by decide +kernel)
theorem gw_365 : Cond.methodLink "LevelStore$Levels" 143 (⟨"LevelStore$Shelf", "placeBehind", "(II)I"⟩ : MethodName) ∈ ga_G := List.mem_filter.mpr ⟨gl_365, rfl⟩
theorem gl_366 : Cond.instanceMethod (⟨"LevelStore$Shelf", "placeBehind", "(II)I"⟩ : MethodName) ∈ lw_tbl := List.mem_of_getElem? (i := 366) (by decide +kernel)
