/-! PURE, 3: a shelf is read -/
theorem nI_div4a : ∀ a, a < 1100 → nI a / 4 = nI (a / 4) := by decide +kernel
theorem nI_div4 {a : Nat} (h : a < 1100) : nI a / 4 = nI (a / 4) := nI_div4a a h
theorem nI_mul (a b : Nat) : nI a * nI b = nI (a * b) := (Int32.ofNat_mul a b).symm
theorem nI_mul4 (a : Nat) : nI a * 4 = nI (a * 4) := nI_mul a 4
theorem nI_4 (a : Nat) : nI a + 4 = nI (a + 4) := nI_add a 4
def cl (lev : Int32) (tabs : List Tab) : Nat := tabs.countP (fun t => decide (t.2.1 = lev))
theorem zS_tablesOn_loop {F s : Nat} {w : ga_W} {lev : Int32} {loose : List Row} (post : List Tab) : ∀ (pre : List Tab) (n c : Nat), isSh w s (pre ++ post) loose → post.length < n → f_S_tablesOn_4 F s lev n (nI c) (nI pre.length) w = some (.inl (some (.int (nI (c + cl lev post)))), w) := by
  induction post with
  | nil =>
    intro pre n c h hn
    obtain ⟨n, rfl⟩ : ∃ k, n = k + 1 := ⟨n - 1, by simp at hn; omega⟩
    simp only [List.append_nil] at h
    simp only [f_S_tablesOn_4, rS_tables h, Option.bind_some, Int32.le_refl, if_true, cl, List.countP_nil, Nat.add_zero]
  | cons t post ih =>
    intro pre n c h hn
    obtain ⟨n, rfl⟩ : ∃ k, n = k + 1 := ⟨n - 1, by simp at hn; omega⟩
    have hl := h.2.1
    simp only [List.length_append, List.length_cons] at hl hn
    have h1 : ¬ nI (pre ++ t :: post).length ≤ nI pre.length := nI_ge (by simp) (by simp; omega)
    have ht : (pre ++ t :: post)[pre.length]? = some t := by simp
    have e1 := fun c => ih (pre ++ [t]) n c (by simpa using h) (by omega)
    simp only [List.length_append, List.length_cons, List.length_nil, Nat.zero_add] at e1
    simp only [f_S_tablesOn_4, rS_tables h, rS_l h, rS_lev h ht, Option.bind_some, h1, if_false, nI_1, e1]
    by_cases hx : t.2.1 = lev
    · simp [hx, cl, List.countP_cons, Nat.add_comm, Nat.add_left_comm, Nat.add_assoc]
    · simp [hx, cl, List.countP_cons]
theorem zS_tablesOn {F s : Nat} {w : ga_W} {lev : Int32} {tabs : List Tab} {loose : List Row} (h : isSh w s tabs loose) (hF : 1000 < F) : f_S_tablesOn F s lev w = some (.inl (some (.int (nI (cl lev tabs)))), w) := by
  unfold f_S_tablesOn
  have hl := h.2.1
  have := zS_tablesOn_loop (F := F) (lev := lev) tabs [] F 0 h (by omega)
  simpa [nI_0] using this
def fAb (lev key : Int32) : List Tab → Nat → Int32 → Int32
  | [], _, first => first
  | t :: ts, i, first => if t.2.1 = lev then (if lo t ≤ key then fAb lev key ts (i + 1) (if first = -1 then nI i else first) else nI i) else fAb lev key ts (i + 1) first
theorem zS_firstAbove_loop {F s : Nat} {w : ga_W} {lev key : Int32} {loose : List Row} (post : List Tab) : ∀ (pre : List Tab) (n : Nat) (first : Int32), isSh w s (pre ++ post) loose → (∀ t ∈ post, t.2.2 ≠ []) → post.length < n → f_S_firstAbove_5 F s lev key n first (nI pre.length) w = some (.inl (some (.int (fAb lev key post pre.length first))), w) := by
  induction post with
  | nil =>
    intro pre n first h ha hn
    obtain ⟨n, rfl⟩ : ∃ k, n = k + 1 := ⟨n - 1, by simp at hn; omega⟩
    simp only [List.append_nil] at h
    simp only [f_S_firstAbove_5, rS_tables h, Option.bind_some, Int32.le_refl, if_true, fAb]
  | cons t post ih =>
    intro pre n first h ha hn
    obtain ⟨n, rfl⟩ : ∃ k, n = k + 1 := ⟨n - 1, by simp at hn; omega⟩
    have hl := h.2.1
    simp only [List.length_append, List.length_cons] at hl hn
    have h1 : ¬ nI (pre ++ t :: post).length ≤ nI pre.length := nI_ge (by simp) (by simp; omega)
    have ht : (pre ++ t :: post)[pre.length]? = some t := by simp
    have e1 := fun f => ih (pre ++ [t]) n f (by simpa using h) (fun t h => ha t (List.mem_cons_of_mem _ h)) (by omega)
    simp only [List.length_append, List.length_cons, List.length_nil, Nat.zero_add] at e1
    simp only [f_S_firstAbove_5, rS_tables h, rS_l h, rS_lev h ht, Option.bind_some, h1, if_false, nI_1, e1, rS_is h, if_true, zS_leastKey h (ha t List.mem_cons_self), ga_c, ga_kI, fAb]
    by_cases hx : t.2.1 = lev
    · by_cases hy : lo t ≤ key
      · by_cases hz : first = -1 <;> simp [hx, hy, hz]
      · simp [hx, hy]
    · simp [hx]
theorem zS_firstAbove {F s : Nat} {w : ga_W} {lev key : Int32} {tabs : List Tab} {loose : List Row} (h : isSh w s tabs loose) (ha : ∀ t ∈ tabs, t.2.2 ≠ []) (hF : 1000 < F) : f_S_firstAbove F s lev key w = some (.inl (some (.int (fAb lev key tabs 0 (-1)))), w) := by
  unfold f_S_firstAbove
  have hl := h.2.1
  have := zS_firstAbove_loop (F := F) (lev := lev) (key := key) tabs [] F (-1) h ha (by omega)
  simpa [nI_0] using this
def pB (lev key : Int32) : List Tab → Nat → Nat
  | [], i => i
  | t :: ts, i => if t.2.1 < lev then pB lev key ts (i + 1) else if t.2.1 = lev then (if key < lo t then i else pB lev key ts (i + 1)) else i
theorem zS_placeBehind_loop {F s : Nat} {w : ga_W} {lev key : Int32} {loose : List Row} (post : List Tab) : ∀ (pre : List Tab) (n : Nat), isSh w s (pre ++ post) loose → (∀ t ∈ post, t.2.2 ≠ []) → post.length < n → f_S_placeBehind_2 F s lev key n (nI pre.length) w = some (.inl (some (.int (nI (pB lev key post pre.length)))), w) := by
  induction post with
  | nil =>
    intro pre n h ha hn
    obtain ⟨n, rfl⟩ : ∃ k, n = k + 1 := ⟨n - 1, by simp at hn; omega⟩
    simp only [List.append_nil] at h
    simp only [f_S_placeBehind_2, rS_tables h, Option.bind_some, Int32.le_refl, if_true, pB]
  | cons t post ih =>
    intro pre n h ha hn
    obtain ⟨n, rfl⟩ : ∃ k, n = k + 1 := ⟨n - 1, by simp at hn; omega⟩
    have hl := h.2.1
    simp only [List.length_append, List.length_cons] at hl hn
    have h1 : ¬ nI (pre ++ t :: post).length ≤ nI pre.length := nI_ge (by simp) (by simp; omega)
    have ht : (pre ++ t :: post)[pre.length]? = some t := by simp
    have e1 := ih (pre ++ [t]) n (by simpa using h) (fun t h => ha t (List.mem_cons_of_mem _ h)) (by omega)
    simp only [List.length_append, List.length_cons, List.length_nil, Nat.zero_add] at e1
    simp only [f_S_placeBehind_2, rS_tables h, rS_l h, rS_lev h ht, Option.bind_some, h1, if_false, nI_1, e1, rS_is h, if_true, zS_leastKey h (ha t List.mem_cons_self), ga_c, ga_kI, pB]
    by_cases hw : t.2.1 < lev
    · simp [hw]
    · by_cases hx : t.2.1 = lev
      · by_cases hy : key < lo t <;> simp [hx, hy]
      · simp [hw, hx]
theorem zS_placeBehind {F s : Nat} {w : ga_W} {lev key : Int32} {tabs : List Tab} {loose : List Row} (h : isSh w s tabs loose) (ha : ∀ t ∈ tabs, t.2.2 ≠ []) (hF : 1000 < F) : f_S_placeBehind F s lev key w = some (.inl (some (.int (nI (pB lev key tabs 0)))), w) := by
  unfold f_S_placeBehind
  have hl := h.2.1
  have := zS_placeBehind_loop (F := F) (lev := lev) (key := key) tabs [] F h ha (by omega)
  simpa [nI_0] using this
/-! blocks -/
def nb (n : Nat) : Nat := (n + 3) / 4
/-- block b is spoiled -/
def sb (rows : List Row) (b : Nat) : Bool := match rows[4 * b]? with
  | some r => !decide (r.2.2.2.2 = 0)
  | none => false
theorem zS_spoiled_loop {F s : Nat} {w : ga_W} {pre post : List Tab} {t : Tab} {loose : List Row} (h : isSh w s (pre ++ t :: post) loose) : ∀ (m b c n : Nat), b + m = nb t.2.2.length → m < n → f_S_spoiledBlocksOf_9 F s (nI pre.length) n (nI c) (nI ((fl pre).length + 4 * b)) w = some (.inl (some (.int (nI (c + (List.range' b m).countP (sb t.2.2))))), w) := by
  have hl := rS_len h
  intro m
  induction m with
  | zero =>
    intro b c n hm hn
    obtain ⟨n, rfl⟩ : ∃ k, n = k + 1 := ⟨n - 1, by omega⟩
    have h1 : nI ((fl pre).length + t.2.2.length) ≤ nI ((fl pre).length + 4 * b) := nI_le (by unfold nb at hm; omega) (by unfold nb at hm; omega)
    simp only [f_S_spoiledBlocksOf_9, rS_b h, nI_1, rS_b1 h, Option.bind_some, h1, if_true, List.range'_zero, List.countP_nil, Nat.add_zero]
  | succ m ih =>
    intro b c n hm hn
    obtain ⟨n, rfl⟩ : ∃ k, n = k + 1 := ⟨n - 1, by omega⟩
    have hlt : 4 * b < t.2.2.length := by unfold nb at hm; omega
    have h1 : ¬ nI ((fl pre).length + t.2.2.length) ≤ nI ((fl pre).length + 4 * b) := nI_ge (by omega) (by omega)
    obtain ⟨r, hr⟩ : ∃ r, t.2.2[4 * b]? = some r := ⟨_, List.getElem?_eq_getElem hlt⟩
    have hr3 := at3 (a := fl pre) (c := fl post ++ loose) hr
    have e1 := fun c => ih (b + 1) c n (by omega) (by omega)
    have e2 : (fl pre).length + 4 * b + 4 = (fl pre).length + 4 * (b + 1) := by omega
    simp only [f_S_spoiledBlocksOf_9, rS_b h, nI_1, rS_b1 h, Option.bind_some, h1, if_false, rS_rows h, rE_s (rS_e h), rE_sp (rS_e3 h) hr3, nI_4, e2, e1]
    by_cases hx : r.2.2.2.2 = 0
    · have : sb t.2.2 b = false := by simp [sb, hr, hx]
      simp [hx, List.range'_succ, List.countP_cons, this]
    · have : sb t.2.2 b = true := by simp [sb, hr, hx]
      simp [hx, List.range'_succ, List.countP_cons, this, Nat.add_comm, Nat.add_left_comm, Nat.add_assoc]
/-- how many blocks are spoiled -/
def nsb (rows : List Row) : Nat := (List.range' 0 (nb rows.length)).countP (sb rows)
theorem zS_spoiledBlocksOf {F s : Nat} {w : ga_W} {pre post : List Tab} {t : Tab} {loose : List Row} (h : isSh w s (pre ++ t :: post) loose) (hF : 1000 < F) : f_S_spoiledBlocksOf F s (nI pre.length) w = some (.inl (some (.int (nI (nsb t.2.2)))), w) := by
  have hl := rS_len h
  have := zS_spoiled_loop (F := F) h (nb t.2.2.length) 0 0 F (by omega) (by unfold nb; omega)
  simp only [f_S_spoiledBlocksOf, rS_b h, rS_b0 h, Option.bind_some]
  simpa [nI_0, nsb] using this
theorem zS_blocksOf {F s : Nat} {w : ga_W} {pre post : List Tab} {t : Tab} {loose : List Row} (h : isSh w s (pre ++ t :: post) loose) : f_S_blocksOf F s (nI pre.length) w = some (.inl (some (.int (nI (nb t.2.2.length)))), w) := by
  have hl := rS_len h
  simp only [f_S_blocksOf, rS_is h, if_true, zS_sizeOf h, ga_c, ga_kI, nI_4, nI_s1 (show 1 ≤ t.2.2.length + 4 by omega), nI_div4 (show t.2.2.length + 4 - 1 < 1100 by omega), nb]
  rfl
theorem zS_entryNumber {F s e : Nat} {w : ga_W} {pre post : List Tab} {t : Tab} {loose : List Row} (h : isSh w s (pre ++ t :: post) loose) (he : e < 1000) : f_S_entryNumber F s (nI pre.length) (nI e) w = some (.inl (some (.int (match t.2.2[e]? with | some r => r.2.1 | none => 0))), w) := by
  have hl := rS_len h
  simp only [f_S_entryNumber, rS_is h, if_true, zS_sizeOf h, ga_c, ga_kI]
  by_cases hx : t.2.2.length ≤ e
  · simp only [nI_le hx (by omega), if_true, List.getElem?_eq_none hx]
  · obtain ⟨r, hr⟩ : ∃ r, t.2.2[e]? = some r := ⟨_, List.getElem?_eq_getElem (by omega)⟩
    have hr3 := at3 (a := fl pre) (c := fl post ++ loose) hr
    simp only [nI_ge (show e < t.2.2.length by omega) (by omega), if_false, rS_rows h, rE_n (rS_e h), rS_b h, rS_b0 h, Option.bind_some, nI_add, rE_num (rS_e3 h) hr3, hr]
/-- the first row of the block in which a key not below stands -/
def fb (key : Int32) (rows : List Row) : Nat := (rows.takeWhile (fun r => decide (r.1 < key))).length / 4
theorem zS_firstBlock_loop {F s : Nat} {w : ga_W} {pre post : List Tab} {t : Tab} {loose : List Row} {key : Int32} (h : isSh w s (pre ++ t :: post) loose) (todo : List Row) : ∀ (done : List Row) (n : Nat), t.2.2 = done ++ todo → todo.length < n → f_S_firstBlockFor_7 F s (nI pre.length) key n (nI ((fl pre).length + done.length)) w = some (.inl (some (.int (nI ((fl pre).length + 4 * ((done.length + (todo.takeWhile (fun r => decide (r.1 < key))).length) / 4))))), w) := by
  have hl := rS_len h
  have key2 : ∀ d, d ≤ 240 → nI ((fl pre).length + d) - ((nI ((fl pre).length + d) - nI (fl pre).length) - (nI ((fl pre).length + d) - nI (fl pre).length) / 4 * 4) = nI ((fl pre).length + 4 * (d / 4)) := by
    intro d hd
    rw [nI_sub (show (fl pre).length ≤ (fl pre).length + d by omega), Nat.add_sub_cancel_left, nI_div4 (by omega), nI_mul4, nI_sub (by omega), nI_sub (by omega)]
    congr 1
    omega
  induction todo with
  | nil =>
    intro done n hd hn
    obtain ⟨n, rfl⟩ : ∃ k, n = k + 1 := ⟨n - 1, by simp at hn; omega⟩
    simp only [List.append_nil] at hd
    simp only [f_S_firstBlockFor_7, rS_b h, nI_1, rS_b1 h, rS_b0 h, Option.bind_some, ga_jn, hd, Int32.le_refl, if_true, List.takeWhile_nil, List.length_nil, Nat.add_zero]
    rw [key2 _ (by rw [hd] at hl; omega)]
  | cons r todo ih =>
    intro done n hd hn
    obtain ⟨n, rfl⟩ : ∃ k, n = k + 1 := ⟨n - 1, by simp at hn; omega⟩
    have hlen : t.2.2.length = done.length + (todo.length + 1) := by rw [hd]; simp
    have h1 : ¬ nI ((fl pre).length + t.2.2.length) ≤ nI ((fl pre).length + done.length) := nI_ge (by omega) (by omega)
    have hr : (fl pre ++ (t.2.2 ++ (fl post ++ loose)))[(fl pre).length + done.length]? = some r := at3 (by rw [hd]; simp)
    have e1 := ih (done ++ [r]) n (by simp [hd]) (by simp only [List.length_cons] at hn; omega)
    simp only [List.length_append, List.length_cons, List.length_nil, Nat.zero_add, ← Nat.add_assoc] at e1
    simp only [f_S_firstBlockFor_7, rS_b h, nI_1, rS_b1 h, rS_b0 h, Option.bind_some, ga_jn, h1, if_false, rS_rows h, rE_k (rS_e h), rE_key (rS_e3 h) hr, e1]
    by_cases hx : key ≤ r.1
    · have : ¬ r.1 < key := Int32.not_lt.mpr hx
      simp only [hx, if_true, List.takeWhile_cons, this, decide_false, Bool.false_eq_true, if_false, List.length_nil, Nat.add_zero]
      rw [key2 _ (by omega)]
    · have : r.1 < key := Int32.not_le.mp hx
      simp only [hx, if_false, List.takeWhile_cons, this, decide_true, if_true, List.length_cons]
      simp only [Nat.add_assoc, Nat.add_comm 1]
theorem zS_firstBlockFor {F s : Nat} {w : ga_W} {pre post : List Tab} {t : Tab} {loose : List Row} {key : Int32} (h : isSh w s (pre ++ t :: post) loose) (hF : 1000 < F) : f_S_firstBlockFor F s (nI pre.length) key w = some (.inl (some (.int (nI ((fl pre).length + 4 * fb key t.2.2)))), w) := by
  have hl := rS_len h
  have := zS_firstBlock_loop (F := F) (key := key) h t.2.2 [] F rfl (by omega)
  simp only [f_S_firstBlockFor, rS_b h, rS_b0 h, Option.bind_some]
  simpa [fb] using this
/-! the filter -/
def m1 (k : Int32) : Int32 := (7 * k + 3) - (7 * k + 3) / 16 * 16
def m2 (k : Int32) : Int32 := (5 * k + 1) - (5 * k + 1) / 16 * 16
theorem zS_firstMark {F : Nat} {k : Int32} {w : ga_W} : f_S_firstMark F k w = some (.inl (some (.int (m1 k))), w) := rfl
theorem zS_secondMark {F : Nat} {k : Int32} {w : ga_W} : f_S_secondMark F k w = some (.inl (some (.int (m2 k))), w) := rfl
def has (m : Int32) (rows : List Row) : Bool := rows.any (fun r => decide (m1 r.1 = m) || decide (m2 r.1 = m))
def pas (key : Int32) (rows : List Row) : Bool := has (m1 key) rows && has (m2 key) rows
def bI (b : Bool) : Int32 := if b then 1 else 0
theorem zS_passes_loop {F s : Nat} {w : ga_W} {pre post : List Tab} {t : Tab} {loose : List Row} {x3 x4 : Int32} (h : isSh w s (pre ++ t :: post) loose) (todo : List Row) : ∀ (done : List Row) (n : Nat) (a b : Bool), t.2.2 = done ++ todo → todo.length < n → f_S_passes_25 F s (nI pre.length) x3 x4 n (bI a) (bI b) (nI ((fl pre).length + done.length)) w = some (.inl (some (.int (bI ((a || has x3 todo) && (b || has x4 todo))))), w) := by
  have hl := rS_len h
  induction todo with
  | nil =>
    intro done n a b hd hn
    obtain ⟨n, rfl⟩ : ∃ k, n = k + 1 := ⟨n - 1, by simp at hn; omega⟩
    simp only [List.append_nil] at hd
    simp only [f_S_passes_25, rS_b h, nI_1, rS_b1 h, Option.bind_some, hd, Int32.le_refl, if_true, has, List.any_nil, Bool.or_false]
    cases a <;> cases b <;> simp [bI]
  | cons r todo ih =>
    intro done n a b hd hn
    obtain ⟨n, rfl⟩ : ∃ k, n = k + 1 := ⟨n - 1, by simp at hn; omega⟩
    have hlen : t.2.2.length = done.length + (todo.length + 1) := by rw [hd]; simp
    have h1 : ¬ nI ((fl pre).length + t.2.2.length) ≤ nI ((fl pre).length + done.length) := nI_ge (by omega) (by omega)
    have hr : (fl pre ++ (t.2.2 ++ (fl post ++ loose)))[(fl pre).length + done.length]? = some r := at3 (by rw [hd]; simp)
    have e1 := fun a b => ih (done ++ [r]) n a b (by simp [hd]) (by simp only [List.length_cons] at hn; omega)
    simp only [List.length_append, List.length_cons, List.length_nil, Nat.zero_add, ← Nat.add_assoc] at e1
    have f1 : bI true = 1 := rfl
    have f0 : bI false = 0 := rfl
    have e11 := e1 true true
    have e10 := e1 true false
    have e01 := e1 false true
    have e00 := e1 false false
    simp only [f1, f0] at e11 e10 e01 e00
    simp only [f_S_passes_25, rS_b h, nI_1, rS_b1 h, Option.bind_some, h1, if_false, rS_rows h, rE_k (rS_e h), rE_key (rS_e3 h) hr, zS_firstMark, zS_secondMark, ga_c, ga_kI, ga_jn, e11, e10, e01, e00]
    have g1 : has x3 (r :: todo) = ((decide (m1 r.1 = x3) || decide (m2 r.1 = x3)) || has x3 todo) := by simp [has]
    have g2 : has x4 (r :: todo) = ((decide (m1 r.1 = x4) || decide (m2 r.1 = x4)) || has x4 todo) := by simp [has]
    rw [g1, g2]
    by_cases c1 : m1 r.1 = x3 <;> by_cases c2 : m2 r.1 = x3 <;> by_cases c3 : m1 r.1 = x4 <;> by_cases c4 : m2 r.1 = x4 <;> (first | replace c1 := eq_false c1 | replace c1 := eq_true c1) <;> (first | replace c2 := eq_false c2 | replace c2 := eq_true c2) <;> (first | replace c3 := eq_false c3 | replace c3 := eq_true c3) <;> (first | replace c4 := eq_false c4 | replace c4 := eq_true c4) <;> cases a <;> cases b <;> simp [c1, c2, c3, c4, f0, f1]
theorem zS_passes {F s : Nat} {w : ga_W} {pre post : List Tab} {t : Tab} {loose : List Row} {key : Int32} (h : isSh w s (pre ++ t :: post) loose) (hF : 1000 < F) : f_S_passes F s (nI pre.length) key w = some (.inl (some (.int (bI (pas key t.2.2)))), w) := by
  have hl := rS_len h
  have := zS_passes_loop (F := F) (x3 := m1 key) (x4 := m2 key) h t.2.2 [] F false false rfl (by omega)
  simp only [f_S_passes, zS_firstMark, zS_secondMark, ga_c, ga_kI, rS_b h, rS_b0 h, Option.bind_some]
  have f0 : bI false = 0 := rfl
  simpa [pas, f0] using this
