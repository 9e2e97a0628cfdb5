/-! PURE, 1: a row is looked for; a shelf -/
def pk (key upTo : Int32) (r : Row) : Bool := decide (r.1 = key) && decide (¬ upTo < r.2.1)
/-- v is the place of what was found, or -1 -/
def isAt (xs : List Row) (o : Option Row) (v : Int32) : Prop := match o with
  | none => v = -1
  | some r => ∃ j, j < xs.length ∧ v = nI j ∧ xs[j]? = some r
theorem zE_rowOf_loop {F e cap : Nat} {w : ga_W} {key upTo : Int32} (mid : List Row) : ∀ (pre post : List Row) (h : isEl w e cap (pre ++ (mid ++ post))) (n : Nat), mid.length < n → ∃ v, f_E_rowOf_3 F e key upTo (nI (pre.length + mid.length)) n (nI pre.length) w = some (.inl (some (.int v)), w) ∧ isAt (pre ++ (mid ++ post)) (mid.find? (pk key upTo)) v := by
  induction mid with
  | nil =>
    intro pre post h n hn
    obtain ⟨n, rfl⟩ : ∃ k, n = k + 1 := ⟨n - 1, by simp at hn; omega⟩
    refine ⟨-1, ?_, rfl⟩
    simp only [f_E_rowOf_3, List.length_nil, Nat.add_zero, Int32.le_refl, if_true]
  | cons r mid ih =>
    intro pre post h n hn
    obtain ⟨n, rfl⟩ : ∃ k, n = k + 1 := ⟨n - 1, by simp at hn; omega⟩
    have hl := h.1
    have hc := h.2.1
    simp only [List.length_append, List.length_cons] at hl hn
    have h1 : ¬ nI (pre.length + (r :: mid).length) ≤ nI pre.length := nI_ge (by simp) (by simp; omega)
    have hr : (pre ++ (r :: mid ++ post))[pre.length]? = some r := by simp
    obtain ⟨v, e1, e2⟩ := ih (pre ++ [r]) post (by simpa using h) n (by omega)
    have e3 : pre.length + (r :: mid).length = (pre ++ [r]).length + mid.length := by simp; omega
    have e4 : nI (pre.length + 1) = nI (pre ++ [r]).length := by simp
    simp only [f_E_rowOf_3, h1, if_false, rE_k h, rE_n h, rE_key h hr, rE_num h hr, Option.bind_some, nI_1]
    rw [e3, e4]
    simp only [e1]
    by_cases a1 : r.1 = key
    · by_cases a2 : upTo < r.2.1
      · refine ⟨v, by simp [a1, a2], ?_⟩
        have : pk key upTo r = false := by simp [pk, a2]
        simpa [List.find?_cons, this] using e2
      · refine ⟨nI pre.length, by simp [a1, a2], ?_⟩
        have : pk key upTo r = true := by simp only [pk, a1, a2]; decide
        simp only [List.find?_cons, this]
        exact ⟨pre.length, by simp, rfl, hr⟩
    · refine ⟨v, by simp [a1], ?_⟩
      have : pk key upTo r = false := by simp [pk, a1]
      simpa [List.find?_cons, this] using e2
theorem zE_rowOf {F e cap : Nat} {w : ga_W} {key upTo : Int32} {pre mid post : List Row} (h : isEl w e cap (pre ++ (mid ++ post))) (hF : 1000 < F) : ∃ v, f_E_rowOf F e key upTo (nI pre.length) (nI (pre.length + mid.length)) w = some (.inl (some (.int v)), w) ∧ isAt (pre ++ (mid ++ post)) (mid.find? (pk key upTo)) v := by
  have h1 := h.1
  have h2 := h.2.1
  simp only [List.length_append] at h1
  exact zE_rowOf_loop mid pre post h F (by omega)
/-- number, level, rows -/
abbrev Tab : Type := Int32 × Int32 × List Row
def fl (tabs : List Tab) : List Row := tabs.flatMap (fun t => t.2.2)
theorem fl_app (a b : List Tab) : fl (a ++ b) = fl a ++ fl b := by simp [fl]
theorem fl_cons (t : Tab) (b : List Tab) : fl (t :: b) = t.2.2 ++ fl b := by simp [fl]
theorem fl_nil : fl [] = [] := rfl
/-- a Shelf at the place s holds the tables, and loose rows behind them -/
def isSh (w : ga_W) (s : Nat) (tabs : List Tab) (loose : List Row) : Prop :=
  w.1[s]? = some (.inr (3, [.ref (s+1), .ref (s+7), .ref (s+8), .ref (s+9), .int (nI tabs.length)])) ∧ tabs.length ≤ 240 ∧
  isEl w (s+1) 240 (fl tabs ++ loose) ∧
  (∃ N : Nat → Int32, w.1[s+7]? = some (.inl (0, 240, .inl N)) ∧ ∀ i t, tabs[i]? = some t → N i = t.1) ∧
  (∃ N : Nat → Int32, w.1[s+8]? = some (.inl (0, 240, .inl N)) ∧ ∀ i t, tabs[i]? = some t → N i = t.2.1) ∧
  (∃ B : Nat → Int32, w.1[s+9]? = some (.inl (0, 241, .inl B)) ∧ ∀ i, i ≤ tabs.length → B i = nI (fl (tabs.take i)).length)
theorem isSh.kept {w w' : ga_W} {s : Nat} {tabs : List Tab} {loose : List Row} (h : isSh w s tabs loose) (hk : ∀ a, s ≤ a → a < s + 10 → w'.1[a]? = w.1[a]?) : isSh w' s tabs loose := by
  obtain ⟨h1, h2, h3, ⟨N, h4, h5⟩, ⟨M, h6, h7⟩, ⟨B, h8, h9⟩⟩ := h
  exact ⟨(hk _ (by omega) (by omega)).trans h1, h2, h3.kept (fun a x y => hk a (by omega) (by omega)), ⟨N, (hk _ (by omega) (by omega)).trans h4, h5⟩, ⟨M, (hk _ (by omega) (by omega)).trans h6, h7⟩, ⟨B, (hk _ (by omega) (by omega)).trans h8, h9⟩⟩
theorem isSh.fr {w w' : ga_W} {s e' k : Nat} {tabs : List Tab} {loose : List Row} (h : isSh w s tabs loose) (hf : pu_F w w' e' k) (hd : s + 10 ≤ e' ∨ e' + k ≤ s) : isSh w' s tabs loose := h.kept fun a h1 h2 => hf.2.2 a (by omega)
theorem rS_tables {w : ga_W} {s : Nat} {tabs : List Tab} {loose : List Row} (h : isSh w s tabs loose) : ga_gi w 3 4 s = some (nI tabs.length) := by
  obtain ⟨h1, -⟩ := h
  simp only [ga_gr, ga_gi, ga_get, ga_si, ga_sz, ga_sl, ga_put, ga_ai, ga_az, ga_al, ga_len, ga_is, ga_c, ga_kI, ga_kV, ga_kD, ga_up, ga_at, ga_ati, ga_jn, Option.bind_some, List.getElem?_cons_zero, List.getElem?_cons_succ, List.getElem?_set_self', List.getElem?_set_ne, List.set_cons_zero, List.set_cons_succ, List.length_cons, List.length_nil, List.length_set, ne_eq, Nat.add_right_cancel_iff, Nat.add_left_cancel_iff, if_true, if_false, and_self, true_and, and_true, not_false_eq_true, not_true_eq_false, Nat.succ_ne_zero, Nat.reduceEqDiff, Nat.add_eq_left, Nat.left_eq_add, Option.map_eq_map, Option.map_some, Nat.reduceLT, Nat.reduceAdd, Nat.lt_add_one, Function.const_apply, Nat.reduceEqDiff, reduceCtorEq, Nat.zero_lt_succ, ite_true, ite_false, Nat.add_assoc, h1]
theorem rS_rows {w : ga_W} {s : Nat} {tabs : List Tab} {loose : List Row} (h : isSh w s tabs loose) : ga_gr w 3 0 s = some (s + 1) := by
  obtain ⟨h1, -⟩ := h
  simp only [ga_gr, ga_gi, ga_get, ga_si, ga_sz, ga_sl, ga_put, ga_ai, ga_az, ga_al, ga_len, ga_is, ga_c, ga_kI, ga_kV, ga_kD, ga_up, ga_at, ga_ati, ga_jn, Option.bind_some, List.getElem?_cons_zero, List.getElem?_cons_succ, List.getElem?_set_self', List.getElem?_set_ne, List.set_cons_zero, List.set_cons_succ, List.length_cons, List.length_nil, List.length_set, ne_eq, Nat.add_right_cancel_iff, Nat.add_left_cancel_iff, if_true, if_false, and_self, true_and, and_true, not_false_eq_true, not_true_eq_false, Nat.succ_ne_zero, Nat.reduceEqDiff, Nat.add_eq_left, Nat.left_eq_add, Option.map_eq_map, Option.map_some, Nat.reduceLT, Nat.reduceAdd, Nat.lt_add_one, Function.const_apply, Nat.reduceEqDiff, reduceCtorEq, Nat.zero_lt_succ, ite_true, ite_false, Nat.add_assoc, h1]
theorem rS_n {w : ga_W} {s : Nat} {tabs : List Tab} {loose : List Row} (h : isSh w s tabs loose) : ga_gr w 3 1 s = some (s + 7) := by
  obtain ⟨h1, -⟩ := h
  simp only [ga_gr, ga_gi, ga_get, ga_si, ga_sz, ga_sl, ga_put, ga_ai, ga_az, ga_al, ga_len, ga_is, ga_c, ga_kI, ga_kV, ga_kD, ga_up, ga_at, ga_ati, ga_jn, Option.bind_some, List.getElem?_cons_zero, List.getElem?_cons_succ, List.getElem?_set_self', List.getElem?_set_ne, List.set_cons_zero, List.set_cons_succ, List.length_cons, List.length_nil, List.length_set, ne_eq, Nat.add_right_cancel_iff, Nat.add_left_cancel_iff, if_true, if_false, and_self, true_and, and_true, not_false_eq_true, not_true_eq_false, Nat.succ_ne_zero, Nat.reduceEqDiff, Nat.add_eq_left, Nat.left_eq_add, Option.map_eq_map, Option.map_some, Nat.reduceLT, Nat.reduceAdd, Nat.lt_add_one, Function.const_apply, Nat.reduceEqDiff, reduceCtorEq, Nat.zero_lt_succ, ite_true, ite_false, Nat.add_assoc, h1]
theorem rS_l {w : ga_W} {s : Nat} {tabs : List Tab} {loose : List Row} (h : isSh w s tabs loose) : ga_gr w 3 2 s = some (s + 8) := by
  obtain ⟨h1, -⟩ := h
  simp only [ga_gr, ga_gi, ga_get, ga_si, ga_sz, ga_sl, ga_put, ga_ai, ga_az, ga_al, ga_len, ga_is, ga_c, ga_kI, ga_kV, ga_kD, ga_up, ga_at, ga_ati, ga_jn, Option.bind_some, List.getElem?_cons_zero, List.getElem?_cons_succ, List.getElem?_set_self', List.getElem?_set_ne, List.set_cons_zero, List.set_cons_succ, List.length_cons, List.length_nil, List.length_set, ne_eq, Nat.add_right_cancel_iff, Nat.add_left_cancel_iff, if_true, if_false, and_self, true_and, and_true, not_false_eq_true, not_true_eq_false, Nat.succ_ne_zero, Nat.reduceEqDiff, Nat.add_eq_left, Nat.left_eq_add, Option.map_eq_map, Option.map_some, Nat.reduceLT, Nat.reduceAdd, Nat.lt_add_one, Function.const_apply, Nat.reduceEqDiff, reduceCtorEq, Nat.zero_lt_succ, ite_true, ite_false, Nat.add_assoc, h1]
theorem rS_b {w : ga_W} {s : Nat} {tabs : List Tab} {loose : List Row} (h : isSh w s tabs loose) : ga_gr w 3 3 s = some (s + 9) := by
  obtain ⟨h1, -⟩ := h
  simp only [ga_gr, ga_gi, ga_get, ga_si, ga_sz, ga_sl, ga_put, ga_ai, ga_az, ga_al, ga_len, ga_is, ga_c, ga_kI, ga_kV, ga_kD, ga_up, ga_at, ga_ati, ga_jn, Option.bind_some, List.getElem?_cons_zero, List.getElem?_cons_succ, List.getElem?_set_self', List.getElem?_set_ne, List.set_cons_zero, List.set_cons_succ, List.length_cons, List.length_nil, List.length_set, ne_eq, Nat.add_right_cancel_iff, Nat.add_left_cancel_iff, if_true, if_false, and_self, true_and, and_true, not_false_eq_true, not_true_eq_false, Nat.succ_ne_zero, Nat.reduceEqDiff, Nat.add_eq_left, Nat.left_eq_add, Option.map_eq_map, Option.map_some, Nat.reduceLT, Nat.reduceAdd, Nat.lt_add_one, Function.const_apply, Nat.reduceEqDiff, reduceCtorEq, Nat.zero_lt_succ, ite_true, ite_false, Nat.add_assoc, h1]
theorem rS_is {w : ga_W} {s : Nat} {tabs : List Tab} {loose : List Row} (h : isSh w s tabs loose) : ga_is w 3 s = true := by
  obtain ⟨h1, -⟩ := h
  simp [ga_is, h1]
theorem rS_num {w : ga_W} {s i : Nat} {tabs : List Tab} {loose : List Row} {t : Tab} (h : isSh w s tabs loose) (ht : tabs[i]? = some t) : ga_ai w 0 (s + 7) (nI i) = some t.1 := by
  obtain ⟨h1, h2, h3, ⟨N, h4, h5⟩, -⟩ := h
  have hl : i < tabs.length := (List.getElem?_eq_some_iff.mp ht).1
  simp only [ga_gr, ga_gi, ga_get, ga_si, ga_sz, ga_sl, ga_put, ga_ai, ga_az, ga_al, ga_len, ga_is, ga_c, ga_kI, ga_kV, ga_kD, ga_up, ga_at, ga_ati, ga_jn, Option.bind_some, List.getElem?_cons_zero, List.getElem?_cons_succ, List.getElem?_set_self', List.getElem?_set_ne, List.set_cons_zero, List.set_cons_succ, List.length_cons, List.length_nil, List.length_set, ne_eq, Nat.add_right_cancel_iff, Nat.add_left_cancel_iff, if_true, if_false, and_self, true_and, and_true, not_false_eq_true, not_true_eq_false, Nat.succ_ne_zero, Nat.reduceEqDiff, Nat.add_eq_left, Nat.left_eq_add, Option.map_eq_map, Option.map_some, Nat.reduceLT, Nat.reduceAdd, Nat.lt_add_one, Function.const_apply, Nat.reduceEqDiff, reduceCtorEq, Nat.zero_lt_succ, ite_true, ite_false, Nat.add_assoc, h4, nI_clamp (n := i) (by omega), pu_in (n := i) (cap := 240) (by omega) (by omega), h5 i t ht]
theorem rS_lev {w : ga_W} {s i : Nat} {tabs : List Tab} {loose : List Row} {t : Tab} (h : isSh w s tabs loose) (ht : tabs[i]? = some t) : ga_ai w 0 (s + 8) (nI i) = some t.2.1 := by
  obtain ⟨h1, h2, h3, -, ⟨N, h4, h5⟩, -⟩ := h
  have hl : i < tabs.length := (List.getElem?_eq_some_iff.mp ht).1
  simp only [ga_gr, ga_gi, ga_get, ga_si, ga_sz, ga_sl, ga_put, ga_ai, ga_az, ga_al, ga_len, ga_is, ga_c, ga_kI, ga_kV, ga_kD, ga_up, ga_at, ga_ati, ga_jn, Option.bind_some, List.getElem?_cons_zero, List.getElem?_cons_succ, List.getElem?_set_self', List.getElem?_set_ne, List.set_cons_zero, List.set_cons_succ, List.length_cons, List.length_nil, List.length_set, ne_eq, Nat.add_right_cancel_iff, Nat.add_left_cancel_iff, if_true, if_false, and_self, true_and, and_true, not_false_eq_true, not_true_eq_false, Nat.succ_ne_zero, Nat.reduceEqDiff, Nat.add_eq_left, Nat.left_eq_add, Option.map_eq_map, Option.map_some, Nat.reduceLT, Nat.reduceAdd, Nat.lt_add_one, Function.const_apply, Nat.reduceEqDiff, reduceCtorEq, Nat.zero_lt_succ, ite_true, ite_false, Nat.add_assoc, h4, nI_clamp (n := i) (by omega), pu_in (n := i) (cap := 240) (by omega) (by omega), h5 i t ht]
theorem rS_bd {w : ga_W} {s i : Nat} {tabs : List Tab} {loose : List Row} (h : isSh w s tabs loose) (hi : i ≤ tabs.length) : ga_ai w 0 (s + 9) (nI i) = some (nI (fl (tabs.take i)).length) := by
  obtain ⟨h1, h2, h3, -, -, ⟨B, h4, h5⟩⟩ := h
  simp only [ga_gr, ga_gi, ga_get, ga_si, ga_sz, ga_sl, ga_put, ga_ai, ga_az, ga_al, ga_len, ga_is, ga_c, ga_kI, ga_kV, ga_kD, ga_up, ga_at, ga_ati, ga_jn, Option.bind_some, List.getElem?_cons_zero, List.getElem?_cons_succ, List.getElem?_set_self', List.getElem?_set_ne, List.set_cons_zero, List.set_cons_succ, List.length_cons, List.length_nil, List.length_set, ne_eq, Nat.add_right_cancel_iff, Nat.add_left_cancel_iff, if_true, if_false, and_self, true_and, and_true, not_false_eq_true, not_true_eq_false, Nat.succ_ne_zero, Nat.reduceEqDiff, Nat.add_eq_left, Nat.left_eq_add, Option.map_eq_map, Option.map_some, Nat.reduceLT, Nat.reduceAdd, Nat.lt_add_one, Function.const_apply, Nat.reduceEqDiff, reduceCtorEq, Nat.zero_lt_succ, ite_true, ite_false, Nat.add_assoc, h4, nI_clamp (n := i) (by omega), pu_in (n := i) (cap := 241) (by omega) (by omega), h5 i hi]
/-- .. at the front and at the end of a table -/
theorem rS_b0 {w : ga_W} {s : Nat} {pre post : List Tab} {t : Tab} {loose : List Row} (h : isSh w s (pre ++ t :: post) loose) : ga_ai w 0 (s + 9) (nI pre.length) = some (nI (fl pre).length) := by
  have := rS_bd h (i := pre.length) (by simp)
  rwa [List.take_left] at this
theorem rS_b1 {w : ga_W} {s : Nat} {pre post : List Tab} {t : Tab} {loose : List Row} (h : isSh w s (pre ++ t :: post) loose) : ga_ai w 0 (s + 9) (nI (pre.length + 1)) = some (nI ((fl pre).length + t.2.2.length)) := by
  have := rS_bd h (i := pre.length + 1) (by simp)
  rw [show pre ++ t :: post = (pre ++ [t]) ++ post by simp, show pre.length + 1 = (pre ++ [t]).length by simp, List.take_left] at this
  simpa [fl_app, fl_cons, fl_nil] using this
theorem rS_e {w : ga_W} {s : Nat} {tabs : List Tab} {loose : List Row} (h : isSh w s tabs loose) : isEl w (s + 1) 240 (fl tabs ++ loose) := h.2.2.1
theorem rS_e3 {w : ga_W} {s : Nat} {pre post : List Tab} {t : Tab} {loose : List Row} (h : isSh w s (pre ++ t :: post) loose) : isEl w (s + 1) 240 (fl pre ++ (t.2.2 ++ (fl post ++ loose))) := by
  have := h.2.2.1
  simpa [fl_app, fl_cons] using this
theorem rS_len {w : ga_W} {s : Nat} {pre post : List Tab} {t : Tab} {loose : List Row} (h : isSh w s (pre ++ t :: post) loose) : (fl pre).length + t.2.2.length + (fl post).length + loose.length ≤ 240 ∧ pre.length + post.length < 240 := by
  have h1 := (rS_e3 h).1
  have h2 := h.2.1
  simp only [List.length_append, List.length_cons] at h1 h2
  omega
def zr : Row := (0, 0, 0, 0, 0)
def lo (t : Tab) : Int32 := (t.2.2.headD zr).1
def hi (t : Tab) : Int32 := (t.2.2.getLastD zr).1
theorem lo_at {t : Tab} (ht : t.2.2 ≠ []) : ∃ r, t.2.2[0]? = some r ∧ r.1 = lo t := by
  unfold lo
  match h : t.2.2, ht with
  | r :: rs, _ => exact ⟨r, rfl, rfl⟩
theorem hi_at {t : Tab} (ht : t.2.2 ≠ []) : ∃ r, t.2.2[t.2.2.length - 1]? = some r ∧ r.1 = hi t := by
  unfold hi
  refine ⟨t.2.2.getLast ht, ?_, ?_⟩
  · rw [← List.getLast?_eq_getElem?, List.getLast?_eq_some_getLast ht]
  · rw [List.getLastD_eq_getLast?, List.getLast?_eq_some_getLast ht]; rfl
theorem at3 {a b c : List Row} {j : Nat} {r : Row} (h : b[j]? = some r) : (a ++ (b ++ c))[a.length + j]? = some r := by
  have hl : j < b.length := (List.getElem?_eq_some_iff.mp h).1
  rw [List.getElem?_append_right (by omega), Nat.add_sub_cancel_left, List.getElem?_append_left hl, h]
theorem at30 {a b c : List Row} {r : Row} (h : b[0]? = some r) : (a ++ (b ++ c))[a.length]? = some r := at3 (a := a) (c := c) h
theorem nI_sub {a b : Nat} (h : b ≤ a) : nI a - nI b = nI (a - b) := by
  obtain ⟨c, rfl⟩ := Nat.exists_eq_add_of_le h
  rw [← nI_add, Nat.add_sub_cancel_left]
  rw [Int32.add_comm, Int32.add_sub_cancel]
theorem nI_s1 {a : Nat} (h : 1 ≤ a) : nI a - 1 = nI (a - 1) := nI_sub (b := 1) h
theorem zS_leastKey {F s : Nat} {w : ga_W} {pre post : List Tab} {t : Tab} {loose : List Row} (h : isSh w s (pre ++ t :: post) loose) (ht : t.2.2 ≠ []) : f_S_leastKey F s (nI pre.length) w = some (.inl (some (.int (lo t))), w) := by
  obtain ⟨r, h1, h2⟩ := lo_at ht
  have h3 := at30 (a := fl pre) (c := fl post ++ loose) h1
  simp only [f_S_leastKey, rS_rows h, rE_k (rS_e h), rS_b h, rS_b0 h, Option.bind_some, rE_key (rS_e3 h) h3, h2]
theorem zS_greatestKey {F s : Nat} {w : ga_W} {pre post : List Tab} {t : Tab} {loose : List Row} (h : isSh w s (pre ++ t :: post) loose) (ht : t.2.2 ≠ []) : f_S_greatestKey F s (nI pre.length) w = some (.inl (some (.int (hi t))), w) := by
  obtain ⟨r, h1, h2⟩ := hi_at ht
  have h3 := at3 (a := fl pre) (c := fl post ++ loose) h1
  have h4 : 1 ≤ t.2.2.length := by
    match t.2.2, ht with
    | r :: rs, _ => simp
  have e1 : (fl pre).length + t.2.2.length - 1 = (fl pre).length + (t.2.2.length - 1) := by omega
  simp only [f_S_greatestKey, rS_rows h, rE_k (rS_e h), rS_b h, nI_1, rS_b1 h, Option.bind_some, nI_s1 (show 1 ≤ (fl pre).length + t.2.2.length by omega), e1, rE_key (rS_e3 h) h3, h2]
theorem zS_sizeOf {F s : Nat} {w : ga_W} {pre post : List Tab} {t : Tab} {loose : List Row} (h : isSh w s (pre ++ t :: post) loose) : f_S_sizeOf F s (nI pre.length) w = some (.inl (some (.int (nI t.2.2.length))), w) := by
  simp only [f_S_sizeOf, rS_b h, nI_1, rS_b1 h, rS_b0 h, Option.bind_some, nI_sub (show (fl pre).length ≤ (fl pre).length + t.2.2.length by omega), Nat.add_sub_cancel_left]
theorem zS_spans {F s : Nat} {w : ga_W} {pre post : List Tab} {t : Tab} {loose : List Row} {key : Int32} (h : isSh w s (pre ++ t :: post) loose) (ht : t.2.2 ≠ []) : f_S_spans F s (nI pre.length) key w = some (.inl (some (.int (if lo t ≤ key ∧ key ≤ hi t then 1 else 0))), w) := by
  have e1 := zS_leastKey (F := F) h ht
  have e2 := zS_greatestKey (F := F) h ht
  have h4 : 1 ≤ t.2.2.length := by
    match t.2.2, ht with
    | r :: rs, _ => simp
  obtain ⟨r, h1, h2⟩ := lo_at ht
  obtain ⟨q, g1, g2⟩ := hi_at ht
  have h3 := at30 (a := fl pre) (c := fl post ++ loose) h1
  have g3 := at3 (a := fl pre) (c := fl post ++ loose) g1
  have e1 : (fl pre).length + t.2.2.length - 1 = (fl pre).length + (t.2.2.length - 1) := by omega
  simp only [f_S_spans, rS_rows h, rE_k (rS_e h), rS_b h, nI_1, rS_b0 h, rS_b1 h, Option.bind_some, nI_s1 (show 1 ≤ (fl pre).length + t.2.2.length by omega), e1, rE_key (rS_e3 h) g3, rE_key (rS_e3 h) h3, h2, g2]
  by_cases a1 : key < lo t
  · have : ¬ (lo t ≤ key ∧ key ≤ hi t) := fun h => absurd a1 (Int32.not_lt.mpr h.1)
    simp [a1, this]
  · by_cases a2 : hi t < key
    · have : ¬ (lo t ≤ key ∧ key ≤ hi t) := fun h => absurd a2 (Int32.not_lt.mpr h.2)
      simp [a1, a2, this]
    · have : lo t ≤ key ∧ key ≤ hi t := ⟨Int32.not_lt.mp a1, Int32.not_lt.mp a2⟩
      simp [a1, a2, this]
theorem zS_meets {F s : Nat} {w : ga_W} {pre post : List Tab} {t : Tab} {loose : List Row} {least greatest : Int32} (h : isSh w s (pre ++ t :: post) loose) (ht : t.2.2 ≠ []) : f_S_meets F s (nI pre.length) least greatest w = some (.inl (some (.int (if lo t ≤ greatest ∧ least ≤ hi t then 1 else 0))), w) := by
  simp only [f_S_meets, rS_is h, if_true, zS_leastKey h ht, zS_greatestKey h ht, ga_c, ga_kI]
  by_cases a1 : greatest < lo t
  · have : ¬ (lo t ≤ greatest ∧ least ≤ hi t) := fun h => absurd a1 (Int32.not_lt.mpr h.1)
    simp [a1, this]
  · by_cases a2 : hi t < least
    · have : ¬ (lo t ≤ greatest ∧ least ≤ hi t) := fun h => absurd a2 (Int32.not_lt.mpr h.2)
      simp [a1, a2, this]
    · have : lo t ≤ greatest ∧ least ≤ hi t := ⟨Int32.not_lt.mp a1, Int32.not_lt.mp a2⟩
      simp [a1, a2, this]
