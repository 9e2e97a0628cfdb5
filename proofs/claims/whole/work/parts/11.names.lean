/-! NAMES: classes, fields, methods; printed by a program of mine (wip/gen) out of the claim's Statement -/
def T_E : u_T := fun k => match k with
  | 0 => ("LevelStore$Entries", "keys", "[I", true)
  | 1 => ("LevelStore$Entries", "numbers", "[I", true)
  | 2 => ("LevelStore$Entries", "values", "[I", true)
  | 3 => ("LevelStore$Entries", "gone", "[Z", true)
  | 4 => ("LevelStore$Entries", "spoiled", "[Z", true)
  | _ => ("LevelStore$Entries", "size", "I", false)
def ty_E : Nat → FieldType := fun k => match k with
  | 0 => .array .int
  | 1 => .array .int
  | 2 => .array .int
  | 3 => .array .boolean
  | 4 => .array .boolean
  | _ => .int
theorem nm_E : ∀ a, a < 6 → ∀ b, b < 6 → a ≠ b → (T_E a).2.1 ≠ (T_E b).2.1 := by decide +kernel
theorem ty_E_ok : ∀ k, k < 6 → parseFieldDescriptor (T_E k).2.2.1 = some (ty_E k) := by decide +kernel
theorem df_E : ∀ j, j < 6 → defaultValue (ty_E j) = vp_V [.null, .null, .null, .null, .null, .int 0] j := by decide +kernel
def T_V : u_T := fun k => match k with
  | 0 => ("LevelStore$Levels", "shelf", "LLevelStore$Shelf;", false)
  | 1 => ("LevelStore$Levels", "spare", "LLevelStore$Shelf;", false)
  | 2 => ("LevelStore$Levels", "sorter", "LLevelStore$Sorter;", true)
  | 3 => ("LevelStore$Levels", "merged", "LLevelStore$Entries;", true)
  | 4 => ("LevelStore$Levels", "joining", "[Z", true)
  | 5 => ("LevelStore$Levels", "pointers", "[I", true)
  | 6 => ("LevelStore$Levels", "stuck", "Z", false)
  | 7 => ("LevelStore$Levels", "made", "I", false)
  | _ => ("LevelStore$Levels", "dropped", "I", false)
def ty_V : Nat → FieldType := fun k => match k with
  | 0 => .object "LevelStore$Shelf"
  | 1 => .object "LevelStore$Shelf"
  | 2 => .object "LevelStore$Sorter"
  | 3 => .object "LevelStore$Entries"
  | 4 => .array .boolean
  | 5 => .array .int
  | 6 => .boolean
  | 7 => .int
  | _ => .int
theorem nm_V : ∀ a, a < 9 → ∀ b, b < 9 → a ≠ b → (T_V a).2.1 ≠ (T_V b).2.1 := by decide +kernel
theorem ty_V_ok : ∀ k, k < 9 → parseFieldDescriptor (T_V k).2.2.1 = some (ty_V k) := by decide +kernel
theorem df_V : ∀ j, j < 9 → defaultValue (ty_V j) = vp_V [.null, .null, .null, .null, .null, .null, .int 0, .int 0, .int 0] j := by decide +kernel
def T_M : u_T := fun k => match k with
  | 0 => ("LevelStore$Memory", "rows", "LLevelStore$Entries;", true)
  | 1 => ("LevelStore$Memory", "recordEnds", "[I", true)
  | 2 => ("LevelStore$Memory", "records", "I", false)
  | _ => ("LevelStore$Memory", "synced", "I", false)
def ty_M : Nat → FieldType := fun k => match k with
  | 0 => .object "LevelStore$Entries"
  | 1 => .array .int
  | 2 => .int
  | _ => .int
theorem nm_M : ∀ a, a < 4 → ∀ b, b < 4 → a ≠ b → (T_M a).2.1 ≠ (T_M b).2.1 := by decide +kernel
theorem ty_M_ok : ∀ k, k < 4 → parseFieldDescriptor (T_M k).2.2.1 = some (ty_M k) := by decide +kernel
theorem df_M : ∀ j, j < 4 → defaultValue (ty_M j) = vp_V [.null, .null, .int 0, .int 0] j := by decide +kernel
def T_S : u_T := fun k => match k with
  | 0 => ("LevelStore$Shelf", "rows", "LLevelStore$Entries;", true)
  | 1 => ("LevelStore$Shelf", "numbers", "[I", true)
  | 2 => ("LevelStore$Shelf", "levelOf", "[I", true)
  | 3 => ("LevelStore$Shelf", "bounds", "[I", true)
  | _ => ("LevelStore$Shelf", "tables", "I", false)
def ty_S : Nat → FieldType := fun k => match k with
  | 0 => .object "LevelStore$Entries"
  | 1 => .array .int
  | 2 => .array .int
  | 3 => .array .int
  | _ => .int
theorem nm_S : ∀ a, a < 5 → ∀ b, b < 5 → a ≠ b → (T_S a).2.1 ≠ (T_S b).2.1 := by decide +kernel
theorem ty_S_ok : ∀ k, k < 5 → parseFieldDescriptor (T_S k).2.2.1 = some (ty_S k) := by decide +kernel
theorem df_S : ∀ j, j < 5 → defaultValue (ty_S j) = vp_V [.null, .null, .null, .null, .int 0] j := by decide +kernel
def T_O : u_T := fun k => match k with
  | 0 => ("LevelStore$Sorter", "loose", "LLevelStore$Entries;", true)
  | 1 => ("LevelStore$Sorter", "places", "[I", true)
  | _ => ("LevelStore$Sorter", "order", "[I", true)
def ty_O : Nat → FieldType := fun k => match k with
  | 0 => .object "LevelStore$Entries"
  | 1 => .array .int
  | _ => .array .int
theorem nm_O : ∀ a, a < 3 → ∀ b, b < 3 → a ≠ b → (T_O a).2.1 ≠ (T_O b).2.1 := by decide +kernel
theorem ty_O_ok : ∀ k, k < 3 → parseFieldDescriptor (T_O k).2.2.1 = some (ty_O k) := by decide +kernel
theorem df_O : ∀ j, j < 3 → defaultValue (ty_O j) = vp_V [.null, .null, .null] j := by decide +kernel
def T_L : u_T := fun k => match k with
  | 0 => ("LevelStore", "memory", "LLevelStore$Memory;", true)
  | 1 => ("LevelStore", "levels", "LLevelStore$Levels;", true)
  | 2 => ("LevelStore", "pending", "LLevelStore$Entries;", true)
  | 3 => ("LevelStore", "snapshots", "[I", true)
  | 4 => ("LevelStore", "batchOpen", "Z", false)
  | 5 => ("LevelStore", "latest", "I", false)
  | 6 => ("LevelStore", "reads", "I", false)
  | 7 => ("LevelStore", "misses", "I", false)
  | _ => ("LevelStore", "gets", "I", false)
def ty_L : Nat → FieldType := fun k => match k with
  | 0 => .object "LevelStore$Memory"
  | 1 => .object "LevelStore$Levels"
  | 2 => .object "LevelStore$Entries"
  | 3 => .array .int
  | 4 => .boolean
  | 5 => .int
  | 6 => .int
  | 7 => .int
  | _ => .int
theorem nm_L : ∀ a, a < 9 → ∀ b, b < 9 → a ≠ b → (T_L a).2.1 ≠ (T_L b).2.1 := by decide +kernel
theorem ty_L_ok : ∀ k, k < 9 → parseFieldDescriptor (T_L k).2.2.1 = some (ty_L k) := by decide +kernel
theorem df_L : ∀ j, j < 9 → defaultValue (ty_L j) = vp_V [.null, .null, .null, .null, .int 0, .int 0, .int 0, .int 0, .int 0] j := by decide +kernel
def T_R : u_T := fun k => match k with
  | 0 => ("LevelStoreModel", "thrown", "I", false)
  | 1 => ("LevelStoreModel", "key", "[I", true)
  | 2 => ("LevelStoreModel", "number", "[I", true)
  | 3 => ("LevelStoreModel", "value", "[I", true)
  | 4 => ("LevelStoreModel", "gone", "[Z", true)
  | 5 => ("LevelStoreModel", "entries", "I", false)
  | 6 => ("LevelStoreModel", "tNumber", "[I", true)
  | 7 => ("LevelStoreModel", "tLevel", "[I", true)
  | 8 => ("LevelStoreModel", "tSize", "[I", true)
  | 9 => ("LevelStoreModel", "tSpoiled", "[J", true)
  | 10 => ("LevelStoreModel", "tables", "I", false)
  | 11 => ("LevelStoreModel", "mKey", "[I", true)
  | 12 => ("LevelStoreModel", "mNumber", "[I", true)
  | 13 => ("LevelStoreModel", "mValue", "[I", true)
  | 14 => ("LevelStoreModel", "mGone", "[Z", true)
  | 15 => ("LevelStoreModel", "memory", "I", false)
  | 16 => ("LevelStoreModel", "recordSize", "[I", true)
  | 17 => ("LevelStoreModel", "records", "I", false)
  | 18 => ("LevelStoreModel", "synced", "I", false)
  | 19 => ("LevelStoreModel", "bKey", "[I", true)
  | 20 => ("LevelStoreModel", "bValue", "[I", true)
  | 21 => ("LevelStoreModel", "bGone", "[Z", true)
  | 22 => ("LevelStoreModel", "batch", "I", false)
  | 23 => ("LevelStoreModel", "snapshots", "[I", true)
  | 24 => ("LevelStoreModel", "pointer", "[I", true)
  | 25 => ("LevelStoreModel", "latest", "I", false)
  | 26 => ("LevelStoreModel", "stuck", "Z", false)
  | 27 => ("LevelStoreModel", "reads", "I", false)
  | 28 => ("LevelStoreModel", "misses", "I", false)
  | 29 => ("LevelStoreModel", "gets", "I", false)
  | 30 => ("LevelStoreModel", "made", "I", false)
  | 31 => ("LevelStoreModel", "dropped", "I", false)
  | 32 => ("LevelStoreModel", "wKey", "[I", true)
  | 33 => ("LevelStoreModel", "wNumber", "[I", true)
  | 34 => ("LevelStoreModel", "wValue", "[I", true)
  | 35 => ("LevelStoreModel", "wGone", "[Z", true)
  | 36 => ("LevelStoreModel", "work", "I", false)
  | 37 => ("LevelStoreModel", "goes", "[Z", true)
  | _ => ("LevelStoreModel", "found", "I", false)
def ty_R : Nat → FieldType := fun k => match k with
  | 0 => .int
  | 1 => .array .int
  | 2 => .array .int
  | 3 => .array .int
  | 4 => .array .boolean
  | 5 => .int
  | 6 => .array .int
  | 7 => .array .int
  | 8 => .array .int
  | 9 => .array .long
  | 10 => .int
  | 11 => .array .int
  | 12 => .array .int
  | 13 => .array .int
  | 14 => .array .boolean
  | 15 => .int
  | 16 => .array .int
  | 17 => .int
  | 18 => .int
  | 19 => .array .int
  | 20 => .array .int
  | 21 => .array .boolean
  | 22 => .int
  | 23 => .array .int
  | 24 => .array .int
  | 25 => .int
  | 26 => .boolean
  | 27 => .int
  | 28 => .int
  | 29 => .int
  | 30 => .int
  | 31 => .int
  | 32 => .array .int
  | 33 => .array .int
  | 34 => .array .int
  | 35 => .array .boolean
  | 36 => .int
  | 37 => .array .boolean
  | _ => .int
theorem nm_R : ∀ a, a < 39 → ∀ b, b < 39 → a ≠ b → (T_R a).2.1 ≠ (T_R b).2.1 := by decide +kernel
theorem ty_R_ok : ∀ k, k < 39 → parseFieldDescriptor (T_R k).2.2.1 = some (ty_R k) := by decide +kernel
theorem df_R : ∀ j, j < 39 → defaultValue (ty_R j) = vp_V [.int 0, .null, .null, .null, .null, .int 0, .null, .null, .null, .null, .int 0, .null, .null, .null, .null, .int 0, .null, .int 0, .int 0, .null, .null, .null, .int 0, .null, .null, .int 0, .int 0, .int 0, .int 0, .int 0, .int 0, .int 0, .null, .null, .null, .null, .int 0, .null, .int 0] j := by decide +kernel
def gz_cl : List vw_C := [("LevelStore$Entries", T_E, 6), ("LevelStore$Levels", T_V, 9), ("LevelStore$Memory", T_M, 4), ("LevelStore$Shelf", T_S, 5), ("LevelStore$Sorter", T_O, 3), ("LevelStore", T_L, 9), ("LevelStoreModel", T_R, 39)]
def gz_tA (cT : Nat → ClassId) : List (ClassId × FieldType) := [(cT 0, .int), (cT 1, .boolean), (cT 2, .long), (cT 3, .double)]
def gz_xn : Nat → String := fun x => match x with
  | 0 => "java/lang/IllegalArgumentException"
  | 1 => "java/lang/IllegalStateException"
  | 2 => "java/lang/UnsupportedOperationException"
  | 3 => "java/util/NoSuchElementException"
  | 4 => "java/lang/IndexOutOfBoundsException"
  | _ => "java/lang/ArithmeticException"
def gz_ch : List String := ["java/lang/RuntimeException", "java/lang/Exception"]
theorem gz_chf : ∀ n ∈ gz_ch, Bundle.fit n = true := by decide +kernel
/-- the words that stay: a method takes its own code and these -/
def ga_G : List Cond := lw_tbl.filter goodWord
def y_E_init : MethodName := ⟨"LevelStore$Entries", "<init>", "(I)V"⟩
abbrev c_E_init : ByteArray := prog_2_method_1_code
def ws_E_init : List Cond := Cond.code y_E_init c_E_init 2 none :: ga_G
def y_M_init : MethodName := ⟨"LevelStore$Memory", "<init>", "()V"⟩
abbrev c_M_init : ByteArray := prog_4_method_1_code
def ws_M_init : List Cond := Cond.code y_M_init c_M_init 1 none :: ga_G
def y_S_init : MethodName := ⟨"LevelStore$Shelf", "<init>", "()V"⟩
abbrev c_S_init : ByteArray := prog_5_method_1_code
def ws_S_init : List Cond := Cond.code y_S_init c_S_init 1 none :: ga_G
def y_O_init : MethodName := ⟨"LevelStore$Sorter", "<init>", "()V"⟩
abbrev c_O_init : ByteArray := prog_6_method_1_code
def ws_O_init : List Cond := Cond.code y_O_init c_O_init 1 none :: ga_G
def y_V_init : MethodName := ⟨"LevelStore$Levels", "<init>", "()V"⟩
abbrev c_V_init : ByteArray := prog_3_method_1_code
def ws_V_init : List Cond := Cond.code y_V_init c_V_init 1 none :: ga_G
def y_J_fill : MethodName := ⟨"java/util/Arrays", "fill", "([II)V"⟩
abbrev c_J_fill : ByteArray := prog_18_method_103_code
def ws_J_fill : List Cond := Cond.code y_J_fill c_J_fill 4 none :: ga_G
def y_L_init : MethodName := ⟨"LevelStore", "<init>", "()V"⟩
abbrev c_L_init : ByteArray := prog_1_method_1_code
def ws_L_init : List Cond := Cond.code y_L_init c_L_init 1 none :: ga_G
def y_L_sync : MethodName := ⟨"LevelStore", "sync", "()I"⟩
abbrev c_L_sync : ByteArray := prog_1_method_6_code
def ws_L_sync : List Cond := Cond.code y_L_sync c_L_sync 1 (some .int) :: ga_G
def y_S_clear : MethodName := ⟨"LevelStore$Shelf", "clear", "()V"⟩
abbrev c_S_clear : ByteArray := prog_5_method_2_code
def ws_S_clear : List Cond := Cond.code y_S_clear c_S_clear 1 none :: ga_G
def y_E_addFrom : MethodName := ⟨"LevelStore$Entries", "addFrom", "(LLevelStore$Entries;I)V"⟩
abbrev c_E_addFrom : ByteArray := prog_2_method_3_code
def ws_E_addFrom : List Cond := Cond.code y_E_addFrom c_E_addFrom 3 none :: ga_G
def y_S_hasLooseRows : MethodName := ⟨"LevelStore$Shelf", "hasLooseRows", "()Z"⟩
abbrev c_S_hasLooseRows : ByteArray := prog_5_method_3_code
def ws_S_hasLooseRows : List Cond := Cond.code y_S_hasLooseRows c_S_hasLooseRows 1 (some .boolean) :: ga_G
def y_S_endTable : MethodName := ⟨"LevelStore$Shelf", "endTable", "(II)V"⟩
abbrev c_S_endTable : ByteArray := prog_5_method_4_code
def ws_S_endTable : List Cond := Cond.code y_S_endTable c_S_endTable 3 none :: ga_G
def y_V_changeShelf : MethodName := ⟨"LevelStore$Levels", "changeShelf", "()V"⟩
abbrev c_V_changeShelf : ByteArray := prog_3_method_14_code
def ws_V_changeShelf : List Cond := Cond.code y_V_changeShelf c_V_changeShelf 2 none :: ga_G
def y_V_loseSpoiled : MethodName := ⟨"LevelStore$Levels", "loseSpoiled", "()I"⟩
abbrev c_V_loseSpoiled : ByteArray := prog_3_method_4_code
def ws_V_loseSpoiled : List Cond := Cond.code y_V_loseSpoiled c_V_loseSpoiled 3 (some .int) :: ga_G
def y_L_oldest : MethodName := ⟨"LevelStore", "oldest", "()I"⟩
abbrev c_L_oldest : ByteArray := prog_1_method_20_code
def ws_L_oldest : List Cond := Cond.code y_L_oldest c_L_oldest 3 (some .int) :: ga_G
def y_S_tablesOn : MethodName := ⟨"LevelStore$Shelf", "tablesOn", "(I)I"⟩
abbrev c_S_tablesOn : ByteArray := prog_5_method_19_code
def ws_S_tablesOn : List Cond := Cond.code y_S_tablesOn c_S_tablesOn 4 (some .int) :: ga_G
def y_V_fullLevel : MethodName := ⟨"LevelStore$Levels", "fullLevel", "()I"⟩
abbrev c_V_fullLevel : ByteArray := prog_3_method_6_code
def ws_V_fullLevel : List Cond := Cond.code y_V_fullLevel c_V_fullLevel 2 (some .int) :: ga_G
def y_S_leastKey : MethodName := ⟨"LevelStore$Shelf", "leastKey", "(I)I"⟩
abbrev c_S_leastKey : ByteArray := prog_5_method_7_code
def ws_S_leastKey : List Cond := Cond.code y_S_leastKey c_S_leastKey 2 (some .int) :: ga_G
def y_S_firstAbove : MethodName := ⟨"LevelStore$Shelf", "firstAbove", "(II)I"⟩
abbrev c_S_firstAbove : ByteArray := prog_5_method_20_code
def ws_S_firstAbove : List Cond := Cond.code y_S_firstAbove c_S_firstAbove 5 (some .int) :: ga_G
def y_S_greatestKey : MethodName := ⟨"LevelStore$Shelf", "greatestKey", "(I)I"⟩
abbrev c_S_greatestKey : ByteArray := prog_5_method_8_code
def ws_S_greatestKey : List Cond := Cond.code y_S_greatestKey c_S_greatestKey 2 (some .int) :: ga_G
def y_S_meets : MethodName := ⟨"LevelStore$Shelf", "meets", "(III)Z"⟩
abbrev c_S_meets : ByteArray := prog_5_method_10_code
def ws_S_meets : List Cond := Cond.code y_S_meets c_S_meets 4 (some .boolean) :: ga_G
def y_S_spoiledBlocksOf : MethodName := ⟨"LevelStore$Shelf", "spoiledBlocksOf", "(I)I"⟩
abbrev c_S_spoiledBlocksOf : ByteArray := prog_5_method_13_code
def ws_S_spoiledBlocksOf : List Cond := Cond.code y_S_spoiledBlocksOf c_S_spoiledBlocksOf 4 (some .int) :: ga_G
def y_O_addSorted : MethodName := ⟨"LevelStore$Sorter", "addSorted", "(LLevelStore$Entries;)V"⟩
abbrev c_O_addSorted : ByteArray := prog_6_method_2_code
def ws_O_addSorted : List Cond := Cond.code y_O_addSorted c_O_addSorted 4 none :: ga_G
def y_V_sortJoining : MethodName := ⟨"LevelStore$Levels", "sortJoining", "()V"⟩
abbrev c_V_sortJoining : ByteArray := prog_3_method_8_code
def ws_V_sortJoining : List Cond := Cond.code y_V_sortJoining c_V_sortJoining 3 none :: ga_G
def y_S_placeBehind : MethodName := ⟨"LevelStore$Shelf", "placeBehind", "(II)I"⟩
abbrev c_S_placeBehind : ByteArray := prog_5_method_21_code
def ws_S_placeBehind : List Cond := Cond.code y_S_placeBehind c_S_placeBehind 4 (some .int) :: ga_G
def y_S_addTable : MethodName := ⟨"LevelStore$Shelf", "addTable", "(LLevelStore$Shelf;I)V"⟩
abbrev c_S_addTable : ByteArray := prog_5_method_5_code
def ws_S_addTable : List Cond := Cond.code y_S_addTable c_S_addTable 4 none :: ga_G
def y_V_addStaying : MethodName := ⟨"LevelStore$Levels", "addStaying", "(II)V"⟩
abbrev c_V_addStaying : ByteArray := prog_3_method_9_code
def ws_V_addStaying : List Cond := Cond.code y_V_addStaying c_V_addStaying 4 none :: ga_G
def y_V_isOutdated : MethodName := ⟨"LevelStore$Levels", "isOutdated", "(II)Z"⟩
abbrev c_V_isOutdated : ByteArray := prog_3_method_11_code
def ws_V_isOutdated : List Cond := Cond.code y_V_isOutdated c_V_isOutdated 3 (some .boolean) :: ga_G
def y_S_spans : MethodName := ⟨"LevelStore$Shelf", "spans", "(II)Z"⟩
abbrev c_S_spans : ByteArray := prog_5_method_9_code
def ws_S_spans : List Cond := Cond.code y_S_spans c_S_spans 3 (some .boolean) :: ga_G
def y_V_isNeedless : MethodName := ⟨"LevelStore$Levels", "isNeedless", "(III)Z"⟩
abbrev c_V_isNeedless : ByteArray := prog_3_method_12_code
def ws_V_isNeedless : List Cond := Cond.code y_V_isNeedless c_V_isNeedless 5 (some .boolean) :: ga_G
def y_V_endNewTable : MethodName := ⟨"LevelStore$Levels", "endNewTable", "(I)V"⟩
abbrev c_V_endNewTable : ByteArray := prog_3_method_13_code
def ws_V_endNewTable : List Cond := Cond.code y_V_endNewTable c_V_endNewTable 2 none :: ga_G
def y_V_addMerged : MethodName := ⟨"LevelStore$Levels", "addMerged", "(II)V"⟩
abbrev c_V_addMerged : ByteArray := prog_3_method_10_code
def ws_V_addMerged : List Cond := Cond.code y_V_addMerged c_V_addMerged 7 none :: ga_G
def y_V_merge : MethodName := ⟨"LevelStore$Levels", "merge", "(IIII)V"⟩
abbrev c_V_merge : ByteArray := prog_3_method_7_code
def ws_V_merge : List Cond := Cond.code y_V_merge c_V_merge 9 none :: ga_G
def y_V_tidy : MethodName := ⟨"LevelStore$Levels", "tidy", "(I)V"⟩
abbrev c_V_tidy : ByteArray := prog_3_method_5_code
def ws_V_tidy : List Cond := Cond.code y_V_tidy c_V_tidy 6 none :: ga_G
def y_L_giveUp : MethodName := ⟨"LevelStore", "giveUp", "()I"⟩
abbrev c_L_giveUp : ByteArray := prog_1_method_14_code
def ws_L_giveUp : List Cond := Cond.code y_L_giveUp c_L_giveUp 2 (some .int) :: ga_G
def y_L_requireWithin : MethodName := ⟨"LevelStore", "requireWithin", "(III)V"⟩
abbrev c_L_requireWithin : ByteArray := prog_1_method_18_code
def ws_L_requireWithin : List Cond := Cond.code y_L_requireWithin c_L_requireWithin 3 none :: ga_G
def y_E_add : MethodName := ⟨"LevelStore$Entries", "add", "(IIIZ)V"⟩
abbrev c_E_add : ByteArray := prog_2_method_2_code
def ws_E_add : List Cond := Cond.code y_E_add c_E_add 5 none :: ga_G
def y_L_addToPending : MethodName := ⟨"LevelStore", "addToPending", "(IIZ)V"⟩
abbrev c_L_addToPending : ByteArray := prog_1_method_21_code
def ws_L_addToPending : List Cond := Cond.code y_L_addToPending c_L_addToPending 4 none :: ga_G
def y_V_isBlocked : MethodName := ⟨"LevelStore$Levels", "isBlocked", "()Z"⟩
abbrev c_V_isBlocked : ByteArray := prog_3_method_2_code
def ws_V_isBlocked : List Cond := Cond.code y_V_isBlocked c_V_isBlocked 1 (some .boolean) :: ga_G
def y_M_addRecord : MethodName := ⟨"LevelStore$Memory", "addRecord", "(LLevelStore$Entries;I)V"⟩
abbrev c_M_addRecord : ByteArray := prog_4_method_2_code
def ws_M_addRecord : List Cond := Cond.code y_M_addRecord c_M_addRecord 4 none :: ga_G
def y_V_addToLevel0 : MethodName := ⟨"LevelStore$Levels", "addToLevel0", "(LLevelStore$Entries;)V"⟩
abbrev c_V_addToLevel0 : ByteArray := prog_3_method_3_code
def ws_V_addToLevel0 : List Cond := Cond.code y_V_addToLevel0 c_V_addToLevel0 3 none :: ga_G
def y_M_clear : MethodName := ⟨"LevelStore$Memory", "clear", "()V"⟩
abbrev c_M_clear : ByteArray := prog_4_method_3_code
def ws_M_clear : List Cond := Cond.code y_M_clear c_M_clear 1 none :: ga_G
def y_L_moveMemoryToLevel0 : MethodName := ⟨"LevelStore", "moveMemoryToLevel0", "()V"⟩
abbrev c_L_moveMemoryToLevel0 : ByteArray := prog_1_method_23_code
def ws_L_moveMemoryToLevel0 : List Cond := Cond.code y_L_moveMemoryToLevel0 c_L_moveMemoryToLevel0 1 none :: ga_G
def y_L_write : MethodName := ⟨"LevelStore", "write", "()I"⟩
abbrev c_L_write : ByteArray := prog_1_method_22_code
def ws_L_write : List Cond := Cond.code y_L_write c_L_write 2 (some .int) :: ga_G
def y_L_put : MethodName := ⟨"LevelStore", "put", "(II)I"⟩
abbrev c_L_put : ByteArray := prog_1_method_2_code
def ws_L_put : List Cond := Cond.code y_L_put c_L_put 3 (some .int) :: ga_G
def y_W_put : MethodName := ⟨"LevelStoreLaw", "put", "(LLevelStore;II[J)I"⟩
abbrev c_W_put : ByteArray := method_3_code
def ws_W_put : List Cond := Cond.codeWith y_W_put c_W_put 5 (some .int) [(0, 10, 13, 13), (0, 10, 17, 15), (0, 10, 21, 17)] :: ga_G
def y_L_remove : MethodName := ⟨"LevelStore", "remove", "(I)I"⟩
abbrev c_L_remove : ByteArray := prog_1_method_3_code
def ws_L_remove : List Cond := Cond.code y_L_remove c_L_remove 2 (some .int) :: ga_G
def y_W_remove : MethodName := ⟨"LevelStoreLaw", "remove", "(LLevelStore;I[J)I"⟩
abbrev c_W_remove : ByteArray := method_4_code
def ws_W_remove : List Cond := Cond.codeWith y_W_remove c_W_remove 4 (some .int) [(0, 9, 12, 13), (0, 9, 15, 15), (0, 9, 18, 17)] :: ga_G
def y_L_open : MethodName := ⟨"LevelStore", "open", "()I"⟩
abbrev c_L_open : ByteArray := prog_1_method_4_code
def ws_L_open : List Cond := Cond.code y_L_open c_L_open 1 (some .int) :: ga_G
def y_W_open : MethodName := ⟨"LevelStoreLaw", "open", "(LLevelStore;[J)I"⟩
abbrev c_W_open : ByteArray := method_5_code
def ws_W_open : List Cond := Cond.codeWith y_W_open c_W_open 3 (some .int) [(0, 8, 11, 15)] :: ga_G
def y_L_close : MethodName := ⟨"LevelStore", "close", "(Z)I"⟩
abbrev c_L_close : ByteArray := prog_1_method_5_code
def ws_L_close : List Cond := Cond.code y_L_close c_L_close 2 (some .int) :: ga_G
def y_W_close : MethodName := ⟨"LevelStoreLaw", "close", "(LLevelStore;Z[J)I"⟩
abbrev c_W_close : ByteArray := method_6_code
def ws_W_close : List Cond := Cond.codeWith y_W_close c_W_close 4 (some .int) [(0, 9, 12, 15), (0, 9, 15, 17)] :: ga_G
def y_M_loseAllBut : MethodName := ⟨"LevelStore$Memory", "loseAllBut", "(I)V"⟩
abbrev c_M_loseAllBut : ByteArray := prog_4_method_4_code
def ws_M_loseAllBut : List Cond := Cond.code y_M_loseAllBut c_M_loseAllBut 2 none :: ga_G
def y_E_greatestNumber : MethodName := ⟨"LevelStore$Entries", "greatestNumber", "()I"⟩
abbrev c_E_greatestNumber : ByteArray := prog_2_method_4_code
def ws_E_greatestNumber : List Cond := Cond.code y_E_greatestNumber c_E_greatestNumber 3 (some .int) :: ga_G
def y_L_crash : MethodName := ⟨"LevelStore", "crash", "(I)I"⟩
abbrev c_L_crash : ByteArray := prog_1_method_7_code
def ws_L_crash : List Cond := Cond.code y_L_crash c_L_crash 2 (some .int) :: ga_G
def y_W_crash : MethodName := ⟨"LevelStoreLaw", "crash", "(LLevelStore;I[J)I"⟩
abbrev c_W_crash : ByteArray := method_7_code
def ws_W_crash : List Cond := Cond.codeWith y_W_crash c_W_crash 4 (some .int) [(0, 9, 12, 13)] :: ga_G
def y_L_flush : MethodName := ⟨"LevelStore", "flush", "()I"⟩
abbrev c_L_flush : ByteArray := prog_1_method_8_code
def ws_L_flush : List Cond := Cond.code y_L_flush c_L_flush 1 (some .int) :: ga_G
def y_W_flush : MethodName := ⟨"LevelStoreLaw", "flush", "(LLevelStore;[J)I"⟩
abbrev c_W_flush : ByteArray := method_8_code
def ws_W_flush : List Cond := Cond.codeWith y_W_flush c_W_flush 3 (some .int) [(0, 8, 11, 15), (0, 8, 14, 17)] :: ga_G
def y_L_numberSeenBy : MethodName := ⟨"LevelStore", "numberSeenBy", "(I)I"⟩
abbrev c_L_numberSeenBy : ByteArray := prog_1_method_19_code
def ws_L_numberSeenBy : List Cond := Cond.code y_L_numberSeenBy c_L_numberSeenBy 2 (some .int) :: ga_G
def y_M_rowOf : MethodName := ⟨"LevelStore$Memory", "rowOf", "(II)I"⟩
abbrev c_M_rowOf : ByteArray := prog_4_method_5_code
def ws_M_rowOf : List Cond := Cond.code y_M_rowOf c_M_rowOf 4 (some .int) :: ga_G
def y_L_valueIn : MethodName := ⟨"LevelStore", "valueIn", "(LLevelStore$Entries;I)I"⟩
abbrev c_L_valueIn : ByteArray := prog_1_method_24_code
def ws_L_valueIn : List Cond := Cond.code y_L_valueIn c_L_valueIn 2 (some .int) :: ga_G
def y_S_firstMark : MethodName := ⟨"LevelStore$Shelf", "firstMark", "(I)I"⟩
abbrev c_S_firstMark : ByteArray := prog_5_method_17_code
def ws_S_firstMark : List Cond := Cond.code y_S_firstMark c_S_firstMark 1 (some .int) :: ga_G
def y_S_secondMark : MethodName := ⟨"LevelStore$Shelf", "secondMark", "(I)I"⟩
abbrev c_S_secondMark : ByteArray := prog_5_method_18_code
def ws_S_secondMark : List Cond := Cond.code y_S_secondMark c_S_secondMark 1 (some .int) :: ga_G
def y_S_passes : MethodName := ⟨"LevelStore$Shelf", "passes", "(II)Z"⟩
abbrev c_S_passes : ByteArray := prog_5_method_16_code
def ws_S_passes : List Cond := Cond.code y_S_passes c_S_passes 10 (some .boolean) :: ga_G
def y_S_firstBlockFor : MethodName := ⟨"LevelStore$Shelf", "firstBlockFor", "(II)I"⟩
abbrev c_S_firstBlockFor : ByteArray := prog_5_method_15_code
def ws_S_firstBlockFor : List Cond := Cond.code y_S_firstBlockFor c_S_firstBlockFor 4 (some .int) :: ga_G
def y_E_rowOf : MethodName := ⟨"LevelStore$Entries", "rowOf", "(IIII)I"⟩
abbrev c_E_rowOf : ByteArray := prog_2_method_5_code
def ws_E_rowOf : List Cond := Cond.code y_E_rowOf c_E_rowOf 6 (some .int) :: ga_G
def y_L_lookInTable : MethodName := ⟨"LevelStore", "lookInTable", "(III)I"⟩
abbrev c_L_lookInTable : ByteArray := prog_1_method_26_code
def ws_L_lookInTable : List Cond := Cond.code y_L_lookInTable c_L_lookInTable 9 (some .int) :: ga_G
def y_L_lookInTables : MethodName := ⟨"LevelStore", "lookInTables", "(II)I"⟩
abbrev c_L_lookInTables : ByteArray := prog_1_method_25_code
def ws_L_lookInTables : List Cond := Cond.code y_L_lookInTables c_L_lookInTables 5 (some .int) :: ga_G
def y_L_get : MethodName := ⟨"LevelStore", "get", "(II)I"⟩
abbrev c_L_get : ByteArray := prog_1_method_9_code
def ws_L_get : List Cond := Cond.code y_L_get c_L_get 5 (some .int) :: ga_G
def y_W_get : MethodName := ⟨"LevelStoreLaw", "get", "(LLevelStore;II[J)I"⟩
abbrev c_W_get : ByteArray := method_9_code
def ws_W_get : List Cond := Cond.codeWith y_W_get c_W_get 5 (some .int) [(0, 10, 13, 13), (0, 10, 17, 15), (0, 10, 21, 17), (0, 10, 25, 40)] :: ga_G
def y_L_hasValue : MethodName := ⟨"LevelStore", "hasValue", "(II)Z"⟩
abbrev c_L_hasValue : ByteArray := prog_1_method_27_code
def ws_L_hasValue : List Cond := Cond.code y_L_hasValue c_L_hasValue 6 (some .boolean) :: ga_G
def y_L_next : MethodName := ⟨"LevelStore", "next", "(II)I"⟩
abbrev c_L_next : ByteArray := prog_1_method_10_code
def ws_L_next : List Cond := Cond.code y_L_next c_L_next 5 (some .int) :: ga_G
def y_W_next : MethodName := ⟨"LevelStoreLaw", "next", "(LLevelStore;II[J)I"⟩
abbrev c_W_next : ByteArray := method_10_code
def ws_W_next : List Cond := Cond.codeWith y_W_next c_W_next 5 (some .int) [(0, 10, 13, 13), (0, 10, 17, 17), (0, 10, 21, 40)] :: ga_G
def y_L_snapshot : MethodName := ⟨"LevelStore", "snapshot", "()I"⟩
abbrev c_L_snapshot : ByteArray := prog_1_method_11_code
def ws_L_snapshot : List Cond := Cond.code y_L_snapshot c_L_snapshot 2 (some .int) :: ga_G
def y_W_snapshot : MethodName := ⟨"LevelStoreLaw", "snapshot", "(LLevelStore;[J)I"⟩
abbrev c_W_snapshot : ByteArray := method_11_code
def ws_W_snapshot : List Cond := Cond.codeWith y_W_snapshot c_W_snapshot 3 (some .int) [(0, 8, 11, 15)] :: ga_G
def y_L_release : MethodName := ⟨"LevelStore", "release", "(I)I"⟩
abbrev c_L_release : ByteArray := prog_1_method_12_code
def ws_L_release : List Cond := Cond.code y_L_release c_L_release 3 (some .int) :: ga_G
def y_W_release : MethodName := ⟨"LevelStoreLaw", "release", "(LLevelStore;I[J)I"⟩
abbrev c_W_release : ByteArray := method_12_code
def ws_W_release : List Cond := Cond.codeWith y_W_release c_W_release 4 (some .int) [(0, 9, 12, 13), (0, 9, 15, 17)] :: ga_G
def y_S_sizeOf : MethodName := ⟨"LevelStore$Shelf", "sizeOf", "(I)I"⟩
abbrev c_S_sizeOf : ByteArray := prog_5_method_6_code
def ws_S_sizeOf : List Cond := Cond.code y_S_sizeOf c_S_sizeOf 2 (some .int) :: ga_G
def y_S_blocksOf : MethodName := ⟨"LevelStore$Shelf", "blocksOf", "(I)I"⟩
abbrev c_S_blocksOf : ByteArray := prog_5_method_12_code
def ws_S_blocksOf : List Cond := Cond.code y_S_blocksOf c_S_blocksOf 2 (some .int) :: ga_G
def y_S_spoilBlock : MethodName := ⟨"LevelStore$Shelf", "spoilBlock", "(II)I"⟩
abbrev c_S_spoilBlock : ByteArray := prog_5_method_14_code
def ws_S_spoilBlock : List Cond := Cond.code y_S_spoilBlock c_S_spoilBlock 6 (some .int) :: ga_G
def y_L_spoil : MethodName := ⟨"LevelStore", "spoil", "(II)I"⟩
abbrev c_L_spoil : ByteArray := prog_1_method_13_code
def ws_L_spoil : List Cond := Cond.code y_L_spoil c_L_spoil 3 (some .int) :: ga_G
def y_W_spoil : MethodName := ⟨"LevelStoreLaw", "spoil", "(LLevelStore;II[J)I"⟩
abbrev c_W_spoil : ByteArray := method_13_code
def ws_W_spoil : List Cond := Cond.codeWith y_W_spoil c_W_spoil 5 (some .int) [(0, 10, 13, 13), (0, 10, 17, 54)] :: ga_G
def y_L_effort : MethodName := ⟨"LevelStore", "effort", "()D"⟩
abbrev c_L_effort : ByteArray := prog_1_method_15_code
def ws_L_effort : List Cond := Cond.code y_L_effort c_L_effort 1 (some .double) :: ga_G
def y_W_effort : MethodName := ⟨"LevelStoreLaw", "effort", "(LLevelStore;[D)I"⟩
abbrev c_W_effort : ByteArray := method_14_code
def ws_W_effort : List Cond := Cond.codeWith y_W_effort c_W_effort 3 (some .int) [(0, 7, 10, 60)] :: ga_G
def y_S_entryNumber : MethodName := ⟨"LevelStore$Shelf", "entryNumber", "(II)I"⟩
abbrev c_S_entryNumber : ByteArray := prog_5_method_11_code
def ws_S_entryNumber : List Cond := Cond.code y_S_entryNumber c_S_entryNumber 3 (some .int) :: ga_G
def y_L_table : MethodName := ⟨"LevelStore", "table", "(II)I"⟩
abbrev c_L_table : ByteArray := prog_1_method_16_code
def ws_L_table : List Cond := Cond.code y_L_table c_L_table 4 (some .int) :: ga_G
def y_W_table : MethodName := ⟨"LevelStoreLaw", "table", "(LLevelStore;II[J)I"⟩
abbrev c_W_table : ByteArray := method_15_code
def ws_W_table : List Cond := Cond.codeWith y_W_table c_W_table 5 (some .int) [(0, 10, 13, 13), (0, 10, 17, 54)] :: ga_G
def y_L_count : MethodName := ⟨"LevelStore", "count", "(I)I"⟩
abbrev c_L_count : ByteArray := prog_1_method_17_code
def ws_L_count : List Cond := Cond.code y_L_count c_L_count 2 (some .int) :: ga_G
def y_W_count : MethodName := ⟨"LevelStoreLaw", "count", "(LLevelStore;I[J)I"⟩
abbrev c_W_count : ByteArray := method_16_code
def ws_W_count : List Cond := Cond.codeWith y_W_count c_W_count 4 (some .int) [(0, 9, 12, 13)] :: ga_G
def y_R_init : MethodName := ⟨"LevelStoreModel", "<init>", "()V"⟩
abbrev c_R_init : ByteArray := prog_8_method_1_code
def ws_R_init : List Cond := Cond.code y_R_init c_R_init 1 none :: ga_G
def y_R_thrown : MethodName := ⟨"LevelStoreModel", "thrown", "()I"⟩
abbrev c_R_thrown : ByteArray := prog_8_method_2_code
def ws_R_thrown : List Cond := Cond.code y_R_thrown c_R_thrown 1 (some .int) :: ga_G
def y_R_in : MethodName := ⟨"LevelStoreModel", "in", "(III)Z"⟩
abbrev c_R_in : ByteArray := prog_8_method_4_code
def ws_R_in : List Cond := Cond.code y_R_in c_R_in 3 (some .boolean) :: ga_G
def y_R_raise : MethodName := ⟨"LevelStoreModel", "raise", "(I)I"⟩
abbrev c_R_raise : ByteArray := prog_8_method_3_code
def ws_R_raise : List Cond := Cond.code y_R_raise c_R_raise 2 (some .int) :: ga_G
def y_R_onLevel : MethodName := ⟨"LevelStoreModel", "onLevel", "(I)I"⟩
abbrev c_R_onLevel : ByteArray := prog_8_method_8_code
def ws_R_onLevel : List Cond := Cond.code y_R_onLevel c_R_onLevel 4 (some .int) :: ga_G
def y_R_full : MethodName := ⟨"LevelStoreModel", "full", "(I)Z"⟩
abbrev c_R_full : ByteArray := prog_8_method_24_code
def ws_R_full : List Cond := Cond.code y_R_full c_R_full 2 (some .boolean) :: ga_G
def y_R_remember : MethodName := ⟨"LevelStoreModel", "remember", "(IIZ)V"⟩
abbrev c_R_remember : ByteArray := prog_8_method_23_code
def ws_R_remember : List Cond := Cond.code y_R_remember c_R_remember 4 none :: ga_G
def y_R_copyWork : MethodName := ⟨"LevelStoreModel", "copyWork", "(II)V"⟩
abbrev c_R_copyWork : ByteArray := prog_8_method_14_code
def ws_R_copyWork : List Cond := Cond.code y_R_copyWork c_R_copyWork 3 none :: ga_G
def y_R_enter : MethodName := ⟨"LevelStoreModel", "enter", "(IIIZ)V"⟩
abbrev c_R_enter : ByteArray := prog_8_method_13_code
def ws_R_enter : List Cond := Cond.code y_R_enter c_R_enter 6 none :: ga_G
def y_R_start : MethodName := ⟨"LevelStoreModel", "start", "(I)I"⟩
abbrev c_R_start : ByteArray := prog_8_method_5_code
def ws_R_start : List Cond := Cond.code y_R_start c_R_start 4 (some .int) :: ga_G
def y_R_moveEntry : MethodName := ⟨"LevelStoreModel", "moveEntry", "(II)V"⟩
abbrev c_R_moveEntry : ByteArray := prog_8_method_9_code
def ws_R_moveEntry : List Cond := Cond.code y_R_moveEntry c_R_moveEntry 3 none :: ga_G
def y_R_moveTable : MethodName := ⟨"LevelStoreModel", "moveTable", "(II)V"⟩
abbrev c_R_moveTable : ByteArray := prog_8_method_10_code
def ws_R_moveTable : List Cond := Cond.code y_R_moveTable c_R_moveTable 3 none :: ga_G
def y_R_insert : MethodName := ⟨"LevelStoreModel", "insert", "(IIII)V"⟩
abbrev c_R_insert : ByteArray := prog_8_method_11_code
def ws_R_insert : List Cond := Cond.code y_R_insert c_R_insert 7 none :: ga_G
def y_R_low : MethodName := ⟨"LevelStoreModel", "low", "(I)I"⟩
abbrev c_R_low : ByteArray := prog_8_method_6_code
def ws_R_low : List Cond := Cond.code y_R_low c_R_low 2 (some .int) :: ga_G
def y_R_high : MethodName := ⟨"LevelStoreModel", "high", "(I)I"⟩
abbrev c_R_high : ByteArray := prog_8_method_7_code
def ws_R_high : List Cond := Cond.code y_R_high c_R_high 2 (some .int) :: ga_G
def y_R_oldest : MethodName := ⟨"LevelStoreModel", "oldest", "()I"⟩
abbrev c_R_oldest : ByteArray := prog_8_method_15_code
def ws_R_oldest : List Cond := Cond.code y_R_oldest c_R_oldest 3 (some .int) :: ga_G
def y_R_deeper : MethodName := ⟨"LevelStoreModel", "deeper", "(II)Z"⟩
abbrev c_R_deeper : ByteArray := prog_8_method_16_code
def ws_R_deeper : List Cond := Cond.code y_R_deeper c_R_deeper 4 (some .boolean) :: ga_G
def y_R_dropAll : MethodName := ⟨"LevelStoreModel", "dropAll", "(I)V"⟩
abbrev c_R_dropAll : ByteArray := prog_8_method_17_code
def ws_R_dropAll : List Cond := Cond.code y_R_dropAll c_R_dropAll 8 none :: ga_G
def y_R_takeOut : MethodName := ⟨"LevelStoreModel", "takeOut", "(I)V"⟩
abbrev c_R_takeOut : ByteArray := prog_8_method_12_code
def ws_R_takeOut : List Cond := Cond.code y_R_takeOut c_R_takeOut 5 none :: ga_G
def y_R_place : MethodName := ⟨"LevelStoreModel", "place", "(I)V"⟩
abbrev c_R_place : ByteArray := prog_8_method_19_code
def ws_R_place : List Cond := Cond.code y_R_place c_R_place 6 none :: ga_G
def y_R_merge : MethodName := ⟨"LevelStoreModel", "merge", "(I)Z"⟩
abbrev c_R_merge : ByteArray := prog_8_method_18_code
def ws_R_merge : List Cond := Cond.code y_R_merge c_R_merge 7 (some .boolean) :: ga_G
def y_R_pick : MethodName := ⟨"LevelStoreModel", "pick", "(I)I"⟩
abbrev c_R_pick : ByteArray := prog_8_method_20_code
def ws_R_pick : List Cond := Cond.code y_R_pick c_R_pick 5 (some .int) :: ga_G
def y_R_tidy : MethodName := ⟨"LevelStoreModel", "tidy", "()V"⟩
abbrev c_R_tidy : ByteArray := prog_8_method_21_code
def ws_R_tidy : List Cond := Cond.code y_R_tidy c_R_tidy 4 none :: ga_G
def y_R_flushAll : MethodName := ⟨"LevelStoreModel", "flushAll", "()V"⟩
abbrev c_R_flushAll : ByteArray := prog_8_method_22_code
def ws_R_flushAll : List Cond := Cond.code y_R_flushAll c_R_flushAll 2 none :: ga_G
def y_R_logged : MethodName := ⟨"LevelStoreModel", "logged", "(I)V"⟩
abbrev c_R_logged : ByteArray := prog_8_method_25_code
def ws_R_logged : List Cond := Cond.code y_R_logged c_R_logged 2 none :: ga_G
def y_R_write : MethodName := ⟨"LevelStoreModel", "write", "(IIZ)I"⟩
abbrev c_R_write : ByteArray := prog_8_method_26_code
def ws_R_write : List Cond := Cond.code y_R_write c_R_write 5 (some .int) :: ga_G
def y_R_put : MethodName := ⟨"LevelStoreModel", "put", "(II)I"⟩
abbrev c_R_put : ByteArray := prog_8_method_27_code
def ws_R_put : List Cond := Cond.code y_R_put c_R_put 3 (some .int) :: ga_G
def y_R_remove : MethodName := ⟨"LevelStoreModel", "remove", "(I)I"⟩
abbrev c_R_remove : ByteArray := prog_8_method_28_code
def ws_R_remove : List Cond := Cond.code y_R_remove c_R_remove 2 (some .int) :: ga_G
def y_R_open : MethodName := ⟨"LevelStoreModel", "open", "()I"⟩
abbrev c_R_open : ByteArray := prog_8_method_29_code
def ws_R_open : List Cond := Cond.code y_R_open c_R_open 1 (some .int) :: ga_G
def y_R_close : MethodName := ⟨"LevelStoreModel", "close", "(Z)I"⟩
abbrev c_R_close : ByteArray := prog_8_method_30_code
def ws_R_close : List Cond := Cond.code y_R_close c_R_close 3 (some .int) :: ga_G
def y_R_sync : MethodName := ⟨"LevelStoreModel", "sync", "()I"⟩
abbrev c_R_sync : ByteArray := prog_8_method_31_code
def ws_R_sync : List Cond := Cond.code y_R_sync c_R_sync 1 (some .int) :: ga_G
def y_R_crash : MethodName := ⟨"LevelStoreModel", "crash", "(I)I"⟩
abbrev c_R_crash : ByteArray := prog_8_method_32_code
def ws_R_crash : List Cond := Cond.code y_R_crash c_R_crash 3 (some .int) :: ga_G
def y_R_flush : MethodName := ⟨"LevelStoreModel", "flush", "()I"⟩
abbrev c_R_flush : ByteArray := prog_8_method_33_code
def ws_R_flush : List Cond := Cond.code y_R_flush c_R_flush 1 (some .int) :: ga_G
def y_R_upTo : MethodName := ⟨"LevelStoreModel", "upTo", "(I)I"⟩
abbrev c_R_upTo : ByteArray := prog_8_method_42_code
def ws_R_upTo : List Cond := Cond.code y_R_upTo c_R_upTo 2 (some .int) :: ga_G
def y_R_lookInMemory : MethodName := ⟨"LevelStoreModel", "lookInMemory", "(II)V"⟩
abbrev c_R_lookInMemory : ByteArray := prog_8_method_37_code
def ws_R_lookInMemory : List Cond := Cond.code y_R_lookInMemory c_R_lookInMemory 4 none :: ga_G
def y_R_first : MethodName := ⟨"LevelStoreModel", "first", "(I)I"⟩
abbrev c_R_first : ByteArray := prog_8_method_34_code
def ws_R_first : List Cond := Cond.code y_R_first c_R_first 1 (some .int) :: ga_G
def y_R_second : MethodName := ⟨"LevelStoreModel", "second", "(I)I"⟩
abbrev c_R_second : ByteArray := prog_8_method_35_code
def ws_R_second : List Cond := Cond.code y_R_second c_R_second 1 (some .int) :: ga_G
def y_R_passes : MethodName := ⟨"LevelStoreModel", "passes", "(II)Z"⟩
abbrev c_R_passes : ByteArray := prog_8_method_36_code
def ws_R_passes : List Cond := Cond.code y_R_passes c_R_passes 9 (some .boolean) :: ga_G
def y_R_readBlocks : MethodName := ⟨"LevelStoreModel", "readBlocks", "(III)I"⟩
abbrev c_R_readBlocks : ByteArray := prog_8_method_38_code
def ws_R_readBlocks : List Cond := Cond.code y_R_readBlocks c_R_readBlocks 9 (some .int) :: ga_G
def y_R_look : MethodName := ⟨"LevelStoreModel", "look", "(II)V"⟩
abbrev c_R_look : ByteArray := prog_8_method_39_code
def ws_R_look : List Cond := Cond.code y_R_look c_R_look 4 none :: ga_G
def y_R_foundGone : MethodName := ⟨"LevelStoreModel", "foundGone", "()Z"⟩
abbrev c_R_foundGone : ByteArray := prog_8_method_41_code
def ws_R_foundGone : List Cond := Cond.code y_R_foundGone c_R_foundGone 1 (some .boolean) :: ga_G
def y_R_get : MethodName := ⟨"LevelStoreModel", "get", "(II)I"⟩
abbrev c_R_get : ByteArray := prog_8_method_43_code
def ws_R_get : List Cond := Cond.code y_R_get c_R_get 3 (some .int) :: ga_G
def y_R_lookThrough : MethodName := ⟨"LevelStoreModel", "lookThrough", "(II)V"⟩
abbrev c_R_lookThrough : ByteArray := prog_8_method_40_code
def ws_R_lookThrough : List Cond := Cond.code y_R_lookThrough c_R_lookThrough 4 none :: ga_G
def y_R_next : MethodName := ⟨"LevelStoreModel", "next", "(II)I"⟩
abbrev c_R_next : ByteArray := prog_8_method_44_code
def ws_R_next : List Cond := Cond.code y_R_next c_R_next 4 (some .int) :: ga_G
def y_R_snapshot : MethodName := ⟨"LevelStoreModel", "snapshot", "()I"⟩
abbrev c_R_snapshot : ByteArray := prog_8_method_45_code
def ws_R_snapshot : List Cond := Cond.code y_R_snapshot c_R_snapshot 2 (some .int) :: ga_G
def y_R_release : MethodName := ⟨"LevelStoreModel", "release", "(I)I"⟩
abbrev c_R_release : ByteArray := prog_8_method_46_code
def ws_R_release : List Cond := Cond.code y_R_release c_R_release 3 (some .int) :: ga_G
def y_R_blockSize : MethodName := ⟨"LevelStoreModel", "blockSize", "(II)I"⟩
abbrev c_R_blockSize : ByteArray := prog_8_method_47_code
def ws_R_blockSize : List Cond := Cond.code y_R_blockSize c_R_blockSize 3 (some .int) :: ga_G
def y_R_spoil : MethodName := ⟨"LevelStoreModel", "spoil", "(II)I"⟩
abbrev c_R_spoil : ByteArray := prog_8_method_48_code
def ws_R_spoil : List Cond := Cond.code y_R_spoil c_R_spoil 3 (some .int) :: ga_G
def y_R_lose : MethodName := ⟨"LevelStoreModel", "lose", "(I)I"⟩
abbrev c_R_lose : ByteArray := prog_8_method_49_code
def ws_R_lose : List Cond := Cond.code y_R_lose c_R_lose 6 (some .int) :: ga_G
def y_R_giveUp : MethodName := ⟨"LevelStoreModel", "giveUp", "()I"⟩
abbrev c_R_giveUp : ByteArray := prog_8_method_50_code
def ws_R_giveUp : List Cond := Cond.code y_R_giveUp c_R_giveUp 3 (some .int) :: ga_G
def y_R_effort : MethodName := ⟨"LevelStoreModel", "effort", "()D"⟩
abbrev c_R_effort : ByteArray := prog_8_method_51_code
def ws_R_effort : List Cond := Cond.code y_R_effort c_R_effort 1 (some .double) :: ga_G
def y_R_ones : MethodName := ⟨"LevelStoreModel", "ones", "(J)I"⟩
abbrev c_R_ones : ByteArray := prog_8_method_52_code
def ws_R_ones : List Cond := Cond.code y_R_ones c_R_ones 4 (some .int) :: ga_G
def y_R_table : MethodName := ⟨"LevelStoreModel", "table", "(II)I"⟩
abbrev c_R_table : ByteArray := prog_8_method_53_code
def ws_R_table : List Cond := Cond.code y_R_table c_R_table 3 (some .int) :: ga_G
def y_R_count : MethodName := ⟨"LevelStoreModel", "count", "(I)I"⟩
abbrev c_R_count : ByteArray := prog_8_method_54_code
def ws_R_count : List Cond := Cond.code y_R_count c_R_count 2 (some .int) :: ga_G
theorem gz_mG {w : Cond} {i : Nat} (h : lw_tbl[i]? = some w) (hg : goodWord w = true) : w ∈ ga_G := List.mem_filter.mpr ⟨List.mem_of_getElem? h, hg⟩
theorem gz_good {c0 w : Cond} (h : w ∈ ga_G) : w ∈ c0 :: ga_G ∧ ((w.onTables && w.keeps) = true ∨ ∃ ty, w = .arrayClass ty) := ⟨List.mem_cons_of_mem _ h, good_of_word (List.mem_filter.mp h).2⟩
theorem gz_goodL {w : Cond} (h : w ∈ ga_G) : w ∈ lw_tbl ∧ ((w.onTables && w.keeps) = true ∨ ∃ ty, w = .arrayClass ty) := ⟨(List.mem_filter.mp h).1, good_of_word (List.mem_filter.mp h).2⟩
theorem gz_gI {c0 ck : Cond} (h5 : ck ∈ ga_G) : GoodIn (c0 :: ga_G) (ck :: ga_G) := fun w hw => by
  rcases List.mem_cons.mp hw with rfl | hw
  · exact gz_good h5
  · exact gz_good hw
theorem gz_gV {c0 ck : Cond} {own C : String} {idx : Nat} {y : MethodName} (h1 : Cond.methodLink own idx y ∈ ga_G) (h2 : Cond.instanceMethod y ∈ ga_G) (h3 : Cond.selects C y y ∈ ga_G) (h4 : Cond.initialized C ∈ ga_G) (h5 : ck ∈ ga_G) : GoodIn (c0 :: ga_G) (wsV own idx C y (ck :: ga_G)) := fun w hw => by
  simp only [wsV, List.cons_append, List.nil_append, List.mem_cons] at hw
  rcases hw with rfl | rfl | rfl | rfl | rfl | hw
  · exact gz_good h1
  · exact gz_good h2
  · exact gz_good h3
  · exact gz_good h4
  · exact gz_good h5
  · exact gz_good hw
theorem gz_gS {c0 ck : Cond} {own : String} {idx : Nat} {y : MethodName} (h1 : Cond.methodLink own idx y ∈ ga_G) (h2 : Cond.static y ∈ ga_G) (h4 : Cond.initialized y.cls ∈ ga_G) (h5 : ck ∈ ga_G) : GoodIn (c0 :: ga_G) (va_wsS own idx y (ck :: ga_G)) := fun w hw => by
  simp only [va_wsS, List.cons_append, List.nil_append, List.mem_cons] at hw
  rcases hw with rfl | rfl | rfl | rfl | hw
  · exact gz_good h1
  · exact gz_good h2
  · exact gz_good h4
  · exact gz_good h5
  · exact gz_good hw
theorem gz_gIL {ck : Cond} (h5 : ck ∈ ga_G) : GoodIn lw_tbl (ck :: ga_G) := fun w hw => by
  rcases List.mem_cons.mp hw with rfl | hw
  · exact gz_goodL h5
  · exact gz_goodL hw
theorem gz_gVL {ck : Cond} {own C : String} {idx : Nat} {y : MethodName} (h1 : Cond.methodLink own idx y ∈ ga_G) (h2 : Cond.instanceMethod y ∈ ga_G) (h3 : Cond.selects C y y ∈ ga_G) (h4 : Cond.initialized C ∈ ga_G) (h5 : ck ∈ ga_G) : GoodIn lw_tbl (wsV own idx C y (ck :: ga_G)) := fun w hw => by
  simp only [wsV, List.cons_append, List.nil_append, List.mem_cons] at hw
  rcases hw with rfl | rfl | rfl | rfl | rfl | hw
  · exact gz_goodL h1
  · exact gz_goodL h2
  · exact gz_goodL h3
  · exact gz_goodL h4
  · exact gz_goodL h5
  · exact gz_goodL hw
theorem gz_gSL {ck : Cond} {own : String} {idx : Nat} {y : MethodName} (h1 : Cond.methodLink own idx y ∈ ga_G) (h2 : Cond.static y ∈ ga_G) (h4 : Cond.initialized y.cls ∈ ga_G) (h5 : ck ∈ ga_G) : GoodIn lw_tbl (va_wsS own idx y (ck :: ga_G)) := fun w hw => by
  simp only [va_wsS, List.cons_append, List.nil_append, List.mem_cons] at hw
  rcases hw with rfl | rfl | rfl | rfl | hw
  · exact gz_goodL h1
  · exact gz_goodL h2
  · exact gz_goodL h4
  · exact gz_goodL h5
  · exact gz_goodL hw
theorem gz_nc {z : Cond} (hz : z ∈ flatC (Jvm.Cond.and given_1 narrow_1)) : ∀ (S : State) (b : Nat), ga_0 S b → z.before #[Value.ref b] S = true := fun S b h => flat_of_before _ h.2 z hz
