/-! FIELDS AND THROWS OUT OF THE WORDS -/
theorem iw_E : ∀ x ∈ u_ws "LevelStore$Entries" T_E 6, x ∈ ga_G := by
  intro x hx
  obtain ⟨k, hk, rfl⟩ := List.mem_map.mp hx
  have hk := List.mem_range.mp hk
  exact match k, hk with
  | 0, _ => gw_116
  | 1, _ => gw_118
  | 2, _ => gw_120
  | 3, _ => gw_122
  | 4, _ => gw_124
  | 5, _ => gw_126
  | k + 6, h => absurd h (by omega)
theorem il_E : ∀ x ∈ u_ws "LevelStore$Entries" T_E 6, x ∈ lw_tbl := fun x h => (List.mem_filter.mp (iw_E x h)).1
theorem iw_V : ∀ x ∈ u_ws "LevelStore$Levels" T_V 9, x ∈ ga_G := by
  intro x hx
  obtain ⟨k, hk, rfl⟩ := List.mem_map.mp hx
  have hk := List.mem_range.mp hk
  exact match k, hk with
  | 0, _ => gw_222
  | 1, _ => gw_224
  | 2, _ => gw_226
  | 3, _ => gw_228
  | 4, _ => gw_230
  | 5, _ => gw_232
  | 6, _ => gw_234
  | 7, _ => gw_236
  | 8, _ => gw_238
  | k + 9, h => absurd h (by omega)
theorem il_V : ∀ x ∈ u_ws "LevelStore$Levels" T_V 9, x ∈ lw_tbl := fun x h => (List.mem_filter.mp (iw_V x h)).1
theorem iw_M : ∀ x ∈ u_ws "LevelStore$Memory" T_M 4, x ∈ ga_G := by
  intro x hx
  obtain ⟨k, hk, rfl⟩ := List.mem_map.mp hx
  have hk := List.mem_range.mp hk
  exact match k, hk with
  | 0, _ => gw_138
  | 1, _ => gw_140
  | 2, _ => gw_142
  | 3, _ => gw_144
  | k + 4, h => absurd h (by omega)
theorem il_M : ∀ x ∈ u_ws "LevelStore$Memory" T_M 4, x ∈ lw_tbl := fun x h => (List.mem_filter.mp (iw_M x h)).1
theorem iw_S : ∀ x ∈ u_ws "LevelStore$Shelf" T_S 5, x ∈ ga_G := by
  intro x hx
  obtain ⟨k, hk, rfl⟩ := List.mem_map.mp hx
  have hk := List.mem_range.mp hk
  exact match k, hk with
  | 0, _ => gw_176
  | 1, _ => gw_178
  | 2, _ => gw_180
  | 3, _ => gw_182
  | 4, _ => gw_184
  | k + 5, h => absurd h (by omega)
theorem il_S : ∀ x ∈ u_ws "LevelStore$Shelf" T_S 5, x ∈ lw_tbl := fun x h => (List.mem_filter.mp (iw_S x h)).1
theorem iw_O : ∀ x ∈ u_ws "LevelStore$Sorter" T_O 3, x ∈ ga_G := by
  intro x hx
  obtain ⟨k, hk, rfl⟩ := List.mem_map.mp hx
  have hk := List.mem_range.mp hk
  exact match k, hk with
  | 0, _ => gw_199
  | 1, _ => gw_201
  | 2, _ => gw_203
  | k + 3, h => absurd h (by omega)
theorem il_O : ∀ x ∈ u_ws "LevelStore$Sorter" T_O 3, x ∈ lw_tbl := fun x h => (List.mem_filter.mp (iw_O x h)).1
theorem iw_L : ∀ x ∈ u_ws "LevelStore" T_L 9, x ∈ ga_G := by
  intro x hx
  obtain ⟨k, hk, rfl⟩ := List.mem_map.mp hx
  have hk := List.mem_range.mp hk
  exact match k, hk with
  | 0, _ => gw_255
  | 1, _ => gw_257
  | 2, _ => gw_259
  | 3, _ => gw_261
  | 4, _ => gw_263
  | 5, _ => gw_265
  | 6, _ => gw_267
  | 7, _ => gw_269
  | 8, _ => gw_271
  | k + 9, h => absurd h (by omega)
theorem il_L : ∀ x ∈ u_ws "LevelStore" T_L 9, x ∈ lw_tbl := fun x h => (List.mem_filter.mp (iw_L x h)).1
theorem iw_R : ∀ x ∈ u_ws "LevelStoreModel" T_R 39, x ∈ ga_G := by
  intro x hx
  obtain ⟨k, hk, rfl⟩ := List.mem_map.mp hx
  have hk := List.mem_range.mp hk
  exact match k, hk with
  | 0, _ => gw_800
  | 1, _ => gw_802
  | 2, _ => gw_804
  | 3, _ => gw_806
  | 4, _ => gw_808
  | 5, _ => gw_810
  | 6, _ => gw_812
  | 7, _ => gw_814
  | 8, _ => gw_816
  | 9, _ => gw_818
  | 10, _ => gw_820
  | 11, _ => gw_822
  | 12, _ => gw_824
  | 13, _ => gw_826
  | 14, _ => gw_828
  | 15, _ => gw_830
  | 16, _ => gw_832
  | 17, _ => gw_834
  | 18, _ => gw_836
  | 19, _ => gw_838
  | 20, _ => gw_840
  | 21, _ => gw_842
  | 22, _ => gw_844
  | 23, _ => gw_846
  | 24, _ => gw_848
  | 25, _ => gw_850
  | 26, _ => gw_852
  | 27, _ => gw_854
  | 28, _ => gw_856
  | 29, _ => gw_858
  | 30, _ => gw_860
  | 31, _ => gw_862
  | 32, _ => gw_864
  | 33, _ => gw_866
  | 34, _ => gw_868
  | 35, _ => gw_870
  | 36, _ => gw_872
  | 37, _ => gw_874
  | 38, _ => gw_876
  | k + 39, h => absurd h (by omega)
theorem il_R : ∀ x ∈ u_ws "LevelStoreModel" T_R 39, x ∈ lw_tbl := fun x h => (List.mem_filter.mp (iw_R x h)).1
def gz_chk (z : Cond) : Bool := ga_hw z || (decide (z ∈ lw_tbl) && ga_tw z)
theorem gz_chk_ok {z : Cond} (h : gz_chk z = true) : ga_hw z = true ∨ (z ∈ lw_tbl ∧ ga_tw z = true) := by
  simp only [gz_chk, Bool.or_eq_true, Bool.and_eq_true, decide_eq_true_eq] at h
  exact h
theorem gz_thr : Bundle.throwableAtoms.all gz_chk = true := by decide +kernel
theorem gz_ownOf {own X : String} {ic : Nat} (hl : Cond.methodLink own ic (Bundle.init0 X) ∈ lw_tbl) (h1 : (Bundle.chain0Atoms X gz_ch).all gz_chk = true) (h2 : (((Bundle.ownAtoms0 "" 0 X gz_ch).drop (Bundle.throwableAtoms ++ Bundle.chain0Atoms X gz_ch).length).drop 1).all gz_chk = true) : ∀ z ∈ Bundle.ownAtoms0 own ic X gz_ch, ga_hw z = true ∨ (z ∈ lw_tbl ∧ ga_tw z = true) := by
  intro z hz
  have e2 : ((Bundle.ownAtoms0 "" 0 X gz_ch).drop (Bundle.throwableAtoms ++ Bundle.chain0Atoms X gz_ch).length).drop 1 = ((Bundle.ownAtoms0 own ic X gz_ch).drop (Bundle.throwableAtoms ++ Bundle.chain0Atoms X gz_ch).length).drop 1 := by
    unfold Bundle.ownAtoms0
    rw [List.drop_left, List.drop_left]
    rfl
  rw [e2] at h2
  unfold Bundle.ownAtoms0 at hz h2
  rw [List.drop_left] at h2
  rcases List.mem_append.mp hz with hz | hz
  · rcases List.mem_append.mp hz with hz | hz
    · exact gz_chk_ok (List.all_eq_true.mp gz_thr z hz)
    · exact gz_chk_ok (List.all_eq_true.mp h1 z hz)
  · rcases List.mem_cons.mp hz with rfl | hz
    · exact Or.inr ⟨hl, rfl⟩
    · exact gz_chk_ok (List.all_eq_true.mp h2 z hz)
theorem gz_own0 {own : String} {ic : Nat} (hl : Cond.methodLink own ic ⟨"java/lang/IllegalArgumentException", "<init>", "()V"⟩ ∈ lw_tbl) : ∀ z ∈ Bundle.ownAtoms0 own ic (gz_xn 0) gz_ch, ga_hw z = true ∨ (z ∈ lw_tbl ∧ ga_tw z = true) := gz_ownOf (X := "java/lang/IllegalArgumentException") hl (by decide +kernel) (by decide +kernel)
theorem gz_own1 {own : String} {ic : Nat} (hl : Cond.methodLink own ic ⟨"java/lang/IllegalStateException", "<init>", "()V"⟩ ∈ lw_tbl) : ∀ z ∈ Bundle.ownAtoms0 own ic (gz_xn 1) gz_ch, ga_hw z = true ∨ (z ∈ lw_tbl ∧ ga_tw z = true) := gz_ownOf (X := "java/lang/IllegalStateException") hl (by decide +kernel) (by decide +kernel)
theorem gz_own2 {own : String} {ic : Nat} (hl : Cond.methodLink own ic ⟨"java/lang/UnsupportedOperationException", "<init>", "()V"⟩ ∈ lw_tbl) : ∀ z ∈ Bundle.ownAtoms0 own ic (gz_xn 2) gz_ch, ga_hw z = true ∨ (z ∈ lw_tbl ∧ ga_tw z = true) := gz_ownOf (X := "java/lang/UnsupportedOperationException") hl (by decide +kernel) (by decide +kernel)
theorem gz_own3 {own : String} {ic : Nat} (hl : Cond.methodLink own ic ⟨"java/util/NoSuchElementException", "<init>", "()V"⟩ ∈ lw_tbl) : ∀ z ∈ Bundle.ownAtoms0 own ic (gz_xn 3) gz_ch, ga_hw z = true ∨ (z ∈ lw_tbl ∧ ga_tw z = true) := gz_ownOf (X := "java/util/NoSuchElementException") hl (by decide +kernel) (by decide +kernel)
theorem gz_own4 {own : String} {ic : Nat} (hl : Cond.methodLink own ic ⟨"java/lang/IndexOutOfBoundsException", "<init>", "()V"⟩ ∈ lw_tbl) : ∀ z ∈ Bundle.ownAtoms0 own ic (gz_xn 4) gz_ch, ga_hw z = true ∨ (z ∈ lw_tbl ∧ ga_tw z = true) := gz_ownOf (X := "java/lang/IndexOutOfBoundsException") hl (by decide +kernel) (by decide +kernel)
theorem gz_own5 {own : String} {ic : Nat} (hl : Cond.methodLink own ic ⟨"java/lang/ArithmeticException", "<init>", "()V"⟩ ∈ lw_tbl) : ∀ z ∈ Bundle.ownAtoms0 own ic (gz_xn 5) gz_ch, ga_hw z = true ∨ (z ∈ lw_tbl ∧ ga_tw z = true) := gz_ownOf (X := "java/lang/ArithmeticException") hl (by decide +kernel) (by decide +kernel)
