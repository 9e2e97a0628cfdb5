/-! PURE, 6: Levels at the place 9: its parts -/
def pu_K (w w' : ga_W) (X : List (Nat × Nat)) : Prop := w'.1.length = w.1.length ∧ w'.2 = w.2 ∧ ∀ a, (∀ q ∈ X, a < q.1 ∨ q.1 + q.2 ≤ a) → w'.1[a]? = w.1[a]?
theorem pu_K.rf {w : ga_W} {X : List (Nat × Nat)} : pu_K w w X := ⟨rfl, rfl, fun _ _ => rfl⟩
theorem pu_K.tr {w w1 w2 : ga_W} {X : List (Nat × Nat)} (h : pu_K w w1 X) (g : pu_K w1 w2 X) : pu_K w w2 X := ⟨g.1.trans h.1, g.2.1.trans h.2.1, fun a ha => (g.2.2 a ha).trans (h.2.2 a ha)⟩
theorem pu_F.K {w w' : ga_W} {e k : Nat} {X : List (Nat × Nat)} (h : pu_F w w' e k) (hx : (e, k) ∈ X) : pu_K w w' X := ⟨h.1, h.2.1, fun a ha => h.2.2 a (ha _ hx)⟩
theorem pu_K.F {w w' : ga_W} {e k : Nat} {X : List (Nat × Nat)} (h : pu_K w w' X) (hx : ∀ q ∈ X, e ≤ q.1 ∧ q.1 + q.2 ≤ e + k) : pu_F w w' e k := ⟨h.1, h.2.1, fun a ha => h.2.2 a (fun q hq => by have := hx q hq; omega)⟩
theorem pu_K.out {w w1 : ga_W} {X : List (Nat × Nat)} {a : Nat} {x : ga_E} (h : pu_K w w1 X) (ha : ∀ q ∈ X, a < q.1 ∨ q.1 + q.2 ≤ a) (hx : w.1[a]? = some x) : w1.1[a]? = some x := (h.2.2 a ha).trans hx
theorem isEl.frK {w w' : ga_W} {e cap : Nat} {xs : List Row} {X : List (Nat × Nat)} (h : isEl w e cap xs) (hf : pu_K w w' X) (hd : ∀ q ∈ X, e + 6 ≤ q.1 ∨ q.1 + q.2 ≤ e) : isEl w' e cap xs := h.kept fun a h1 h2 => hf.2.2 a (fun q hq => by have := hd q hq; omega)
theorem isSh.frK {w w' : ga_W} {s : Nat} {tabs : List Tab} {loose : List Row} {X : List (Nat × Nat)} (h : isSh w s tabs loose) (hf : pu_K w w' X) (hd : ∀ q ∈ X, s + 10 ≤ q.1 ∨ q.1 + q.2 ≤ s) : isSh w' s tabs loose := h.kept fun a h1 h2 => hf.2.2 a (fun q hq => by have := hd q hq; omega)
/-- Levels: which shelf is which, stuck, made, dropped -/
def isVh (w : ga_W) (sh sp : Nat) (st mk dr : Int32) : Prop :=
  w.1[9]? = some (.inr (1, [.ref sh, .ref sp, .ref 30, .ref 39, .ref 45, .ref 46, .int st, .int mk, .int dr])) ∧ (sh = 10 ∧ sp = 20 ∨ sh = 20 ∧ sp = 10)
theorem isVh.fr {w w' : ga_W} {sh sp e k : Nat} {st mk dr : Int32} (h : isVh w sh sp st mk dr) (hf : pu_F w w' e k) (he : 9 < e ∨ e + k ≤ 9) : isVh w' sh sp st mk dr := ⟨hf.out (by omega) h.1, h.2⟩
theorem isVh.d {w : ga_W} {sh sp : Nat} {st mk dr : Int32} (h : isVh w sh sp st mk dr) : (sp + 10 ≤ sh ∨ sh + 10 ≤ sp) ∧ 10 ≤ sh ∧ 10 ≤ sp ∧ sh + 10 ≤ 30 ∧ sp + 10 ≤ 30 := by
  rcases h.2 with ⟨rfl, rfl⟩ | ⟨rfl, rfl⟩ <;> omega
theorem rV_sh {w : ga_W} {sh sp : Nat} {st mk dr : Int32} (h : isVh w sh sp st mk dr) : ga_gr w 1 0 9 = some sh := by
  obtain ⟨h1, -⟩ := h
  simp only [ga_gr, ga_gi, ga_get, ga_si, ga_sz, ga_sl, ga_put, ga_ai, ga_az, ga_al, ga_len, ga_is, ga_c, ga_kI, ga_kV, ga_kD, ga_up, ga_at, ga_ati, ga_jn, Option.bind_some, List.getElem?_cons_zero, List.getElem?_cons_succ, List.getElem?_set_self', List.getElem?_set_ne, List.set_cons_zero, List.set_cons_succ, List.length_cons, List.length_nil, List.length_set, ne_eq, Nat.add_right_cancel_iff, Nat.add_left_cancel_iff, if_true, if_false, and_self, true_and, and_true, not_false_eq_true, not_true_eq_false, Nat.succ_ne_zero, Nat.reduceEqDiff, Nat.add_eq_left, Nat.left_eq_add, Option.map_eq_map, Option.map_some, Nat.reduceLT, Nat.reduceAdd, Nat.lt_add_one, Function.const_apply, Nat.reduceEqDiff, reduceCtorEq, Nat.zero_lt_succ, ite_true, ite_false, Nat.add_assoc, h1]
theorem rV_sp {w : ga_W} {sh sp : Nat} {st mk dr : Int32} (h : isVh w sh sp st mk dr) : ga_gr w 1 1 9 = some sp := by
  obtain ⟨h1, -⟩ := h
  simp only [ga_gr, ga_gi, ga_get, ga_si, ga_sz, ga_sl, ga_put, ga_ai, ga_az, ga_al, ga_len, ga_is, ga_c, ga_kI, ga_kV, ga_kD, ga_up, ga_at, ga_ati, ga_jn, Option.bind_some, List.getElem?_cons_zero, List.getElem?_cons_succ, List.getElem?_set_self', List.getElem?_set_ne, List.set_cons_zero, List.set_cons_succ, List.length_cons, List.length_nil, List.length_set, ne_eq, Nat.add_right_cancel_iff, Nat.add_left_cancel_iff, if_true, if_false, and_self, true_and, and_true, not_false_eq_true, not_true_eq_false, Nat.succ_ne_zero, Nat.reduceEqDiff, Nat.add_eq_left, Nat.left_eq_add, Option.map_eq_map, Option.map_some, Nat.reduceLT, Nat.reduceAdd, Nat.lt_add_one, Function.const_apply, Nat.reduceEqDiff, reduceCtorEq, Nat.zero_lt_succ, ite_true, ite_false, Nat.add_assoc, h1]
theorem rV_so {w : ga_W} {sh sp : Nat} {st mk dr : Int32} (h : isVh w sh sp st mk dr) : ga_gr w 1 2 9 = some 30 := by
  obtain ⟨h1, -⟩ := h
  simp only [ga_gr, ga_gi, ga_get, ga_si, ga_sz, ga_sl, ga_put, ga_ai, ga_az, ga_al, ga_len, ga_is, ga_c, ga_kI, ga_kV, ga_kD, ga_up, ga_at, ga_ati, ga_jn, Option.bind_some, List.getElem?_cons_zero, List.getElem?_cons_succ, List.getElem?_set_self', List.getElem?_set_ne, List.set_cons_zero, List.set_cons_succ, List.length_cons, List.length_nil, List.length_set, ne_eq, Nat.add_right_cancel_iff, Nat.add_left_cancel_iff, if_true, if_false, and_self, true_and, and_true, not_false_eq_true, not_true_eq_false, Nat.succ_ne_zero, Nat.reduceEqDiff, Nat.add_eq_left, Nat.left_eq_add, Option.map_eq_map, Option.map_some, Nat.reduceLT, Nat.reduceAdd, Nat.lt_add_one, Function.const_apply, Nat.reduceEqDiff, reduceCtorEq, Nat.zero_lt_succ, ite_true, ite_false, Nat.add_assoc, h1]
theorem rV_me {w : ga_W} {sh sp : Nat} {st mk dr : Int32} (h : isVh w sh sp st mk dr) : ga_gr w 1 3 9 = some 39 := by
  obtain ⟨h1, -⟩ := h
  simp only [ga_gr, ga_gi, ga_get, ga_si, ga_sz, ga_sl, ga_put, ga_ai, ga_az, ga_al, ga_len, ga_is, ga_c, ga_kI, ga_kV, ga_kD, ga_up, ga_at, ga_ati, ga_jn, Option.bind_some, List.getElem?_cons_zero, List.getElem?_cons_succ, List.getElem?_set_self', List.getElem?_set_ne, List.set_cons_zero, List.set_cons_succ, List.length_cons, List.length_nil, List.length_set, ne_eq, Nat.add_right_cancel_iff, Nat.add_left_cancel_iff, if_true, if_false, and_self, true_and, and_true, not_false_eq_true, not_true_eq_false, Nat.succ_ne_zero, Nat.reduceEqDiff, Nat.add_eq_left, Nat.left_eq_add, Option.map_eq_map, Option.map_some, Nat.reduceLT, Nat.reduceAdd, Nat.lt_add_one, Function.const_apply, Nat.reduceEqDiff, reduceCtorEq, Nat.zero_lt_succ, ite_true, ite_false, Nat.add_assoc, h1]
theorem rV_jo {w : ga_W} {sh sp : Nat} {st mk dr : Int32} (h : isVh w sh sp st mk dr) : ga_gr w 1 4 9 = some 45 := by
  obtain ⟨h1, -⟩ := h
  simp only [ga_gr, ga_gi, ga_get, ga_si, ga_sz, ga_sl, ga_put, ga_ai, ga_az, ga_al, ga_len, ga_is, ga_c, ga_kI, ga_kV, ga_kD, ga_up, ga_at, ga_ati, ga_jn, Option.bind_some, List.getElem?_cons_zero, List.getElem?_cons_succ, List.getElem?_set_self', List.getElem?_set_ne, List.set_cons_zero, List.set_cons_succ, List.length_cons, List.length_nil, List.length_set, ne_eq, Nat.add_right_cancel_iff, Nat.add_left_cancel_iff, if_true, if_false, and_self, true_and, and_true, not_false_eq_true, not_true_eq_false, Nat.succ_ne_zero, Nat.reduceEqDiff, Nat.add_eq_left, Nat.left_eq_add, Option.map_eq_map, Option.map_some, Nat.reduceLT, Nat.reduceAdd, Nat.lt_add_one, Function.const_apply, Nat.reduceEqDiff, reduceCtorEq, Nat.zero_lt_succ, ite_true, ite_false, Nat.add_assoc, h1]
theorem rV_po {w : ga_W} {sh sp : Nat} {st mk dr : Int32} (h : isVh w sh sp st mk dr) : ga_gr w 1 5 9 = some 46 := by
  obtain ⟨h1, -⟩ := h
  simp only [ga_gr, ga_gi, ga_get, ga_si, ga_sz, ga_sl, ga_put, ga_ai, ga_az, ga_al, ga_len, ga_is, ga_c, ga_kI, ga_kV, ga_kD, ga_up, ga_at, ga_ati, ga_jn, Option.bind_some, List.getElem?_cons_zero, List.getElem?_cons_succ, List.getElem?_set_self', List.getElem?_set_ne, List.set_cons_zero, List.set_cons_succ, List.length_cons, List.length_nil, List.length_set, ne_eq, Nat.add_right_cancel_iff, Nat.add_left_cancel_iff, if_true, if_false, and_self, true_and, and_true, not_false_eq_true, not_true_eq_false, Nat.succ_ne_zero, Nat.reduceEqDiff, Nat.add_eq_left, Nat.left_eq_add, Option.map_eq_map, Option.map_some, Nat.reduceLT, Nat.reduceAdd, Nat.lt_add_one, Function.const_apply, Nat.reduceEqDiff, reduceCtorEq, Nat.zero_lt_succ, ite_true, ite_false, Nat.add_assoc, h1]
theorem rV_st {w : ga_W} {sh sp : Nat} {st mk dr : Int32} (h : isVh w sh sp st mk dr) : ga_gi w 1 6 9 = some st := by
  obtain ⟨h1, -⟩ := h
  simp only [ga_gr, ga_gi, ga_get, ga_si, ga_sz, ga_sl, ga_put, ga_ai, ga_az, ga_al, ga_len, ga_is, ga_c, ga_kI, ga_kV, ga_kD, ga_up, ga_at, ga_ati, ga_jn, Option.bind_some, List.getElem?_cons_zero, List.getElem?_cons_succ, List.getElem?_set_self', List.getElem?_set_ne, List.set_cons_zero, List.set_cons_succ, List.length_cons, List.length_nil, List.length_set, ne_eq, Nat.add_right_cancel_iff, Nat.add_left_cancel_iff, if_true, if_false, and_self, true_and, and_true, not_false_eq_true, not_true_eq_false, Nat.succ_ne_zero, Nat.reduceEqDiff, Nat.add_eq_left, Nat.left_eq_add, Option.map_eq_map, Option.map_some, Nat.reduceLT, Nat.reduceAdd, Nat.lt_add_one, Function.const_apply, Nat.reduceEqDiff, reduceCtorEq, Nat.zero_lt_succ, ite_true, ite_false, Nat.add_assoc, h1]
theorem rV_mk {w : ga_W} {sh sp : Nat} {st mk dr : Int32} (h : isVh w sh sp st mk dr) : ga_gi w 1 7 9 = some mk := by
  obtain ⟨h1, -⟩ := h
  simp only [ga_gr, ga_gi, ga_get, ga_si, ga_sz, ga_sl, ga_put, ga_ai, ga_az, ga_al, ga_len, ga_is, ga_c, ga_kI, ga_kV, ga_kD, ga_up, ga_at, ga_ati, ga_jn, Option.bind_some, List.getElem?_cons_zero, List.getElem?_cons_succ, List.getElem?_set_self', List.getElem?_set_ne, List.set_cons_zero, List.set_cons_succ, List.length_cons, List.length_nil, List.length_set, ne_eq, Nat.add_right_cancel_iff, Nat.add_left_cancel_iff, if_true, if_false, and_self, true_and, and_true, not_false_eq_true, not_true_eq_false, Nat.succ_ne_zero, Nat.reduceEqDiff, Nat.add_eq_left, Nat.left_eq_add, Option.map_eq_map, Option.map_some, Nat.reduceLT, Nat.reduceAdd, Nat.lt_add_one, Function.const_apply, Nat.reduceEqDiff, reduceCtorEq, Nat.zero_lt_succ, ite_true, ite_false, Nat.add_assoc, h1]
theorem rV_dr {w : ga_W} {sh sp : Nat} {st mk dr : Int32} (h : isVh w sh sp st mk dr) : ga_gi w 1 8 9 = some dr := by
  obtain ⟨h1, -⟩ := h
  simp only [ga_gr, ga_gi, ga_get, ga_si, ga_sz, ga_sl, ga_put, ga_ai, ga_az, ga_al, ga_len, ga_is, ga_c, ga_kI, ga_kV, ga_kD, ga_up, ga_at, ga_ati, ga_jn, Option.bind_some, List.getElem?_cons_zero, List.getElem?_cons_succ, List.getElem?_set_self', List.getElem?_set_ne, List.set_cons_zero, List.set_cons_succ, List.length_cons, List.length_nil, List.length_set, ne_eq, Nat.add_right_cancel_iff, Nat.add_left_cancel_iff, if_true, if_false, and_self, true_and, and_true, not_false_eq_true, not_true_eq_false, Nat.succ_ne_zero, Nat.reduceEqDiff, Nat.add_eq_left, Nat.left_eq_add, Option.map_eq_map, Option.map_some, Nat.reduceLT, Nat.reduceAdd, Nat.lt_add_one, Function.const_apply, Nat.reduceEqDiff, reduceCtorEq, Nat.zero_lt_succ, ite_true, ite_false, Nat.add_assoc, h1]
theorem rV_is {w : ga_W} {sh sp : Nat} {st mk dr : Int32} (h : isVh w sh sp st mk dr) : ga_is w 1 9 = true := by
  obtain ⟨h1, -⟩ := h
  simp [ga_is, h1]
theorem pu_F1 {w : ga_W} {a : Nat} {x : ga_E} : pu_F w (w.1.set a x, w.2) a 1 := ⟨by simp, rfl, fun b hb => by
  have : ¬ a = b := by omega
  simp [List.getElem?_set, this]⟩
theorem zV_st {w : ga_W} {sh sp : Nat} {st mk dr x : Int32} (h : isVh w sh sp st mk dr) : ∃ w', ga_put w 1 6 9 (.int x) = some w' ∧ isVh w' sh sp x mk dr ∧ pu_F w w' 9 1 := by
  obtain ⟨h1, h2⟩ := h
  simp only [ga_gr, ga_gi, ga_get, ga_si, ga_sz, ga_sl, ga_put, ga_ai, ga_az, ga_al, ga_len, ga_is, ga_c, ga_kI, ga_kV, ga_kD, ga_up, ga_at, ga_ati, ga_jn, Option.bind_some, List.getElem?_cons_zero, List.getElem?_cons_succ, List.getElem?_set_self', List.getElem?_set_ne, List.set_cons_zero, List.set_cons_succ, List.length_cons, List.length_nil, List.length_set, ne_eq, Nat.add_right_cancel_iff, Nat.add_left_cancel_iff, if_true, if_false, and_self, true_and, and_true, not_false_eq_true, not_true_eq_false, Nat.succ_ne_zero, Nat.reduceEqDiff, Nat.add_eq_left, Nat.left_eq_add, Option.map_eq_map, Option.map_some, Nat.reduceLT, Nat.reduceAdd, Nat.lt_add_one, Function.const_apply, Nat.reduceEqDiff, reduceCtorEq, Nat.zero_lt_succ, ite_true, ite_false, Nat.add_assoc, h1]
  exact ⟨_, rfl, ⟨by simp only [ga_gr, ga_gi, ga_get, ga_si, ga_sz, ga_sl, ga_put, ga_ai, ga_az, ga_al, ga_len, ga_is, ga_c, ga_kI, ga_kV, ga_kD, ga_up, ga_at, ga_ati, ga_jn, Option.bind_some, List.getElem?_cons_zero, List.getElem?_cons_succ, List.getElem?_set_self', List.getElem?_set_ne, List.set_cons_zero, List.set_cons_succ, List.length_cons, List.length_nil, List.length_set, ne_eq, Nat.add_right_cancel_iff, Nat.add_left_cancel_iff, if_true, if_false, and_self, true_and, and_true, not_false_eq_true, not_true_eq_false, Nat.succ_ne_zero, Nat.reduceEqDiff, Nat.add_eq_left, Nat.left_eq_add, Option.map_eq_map, Option.map_some, Nat.reduceLT, Nat.reduceAdd, Nat.lt_add_one, Function.const_apply, Nat.reduceEqDiff, reduceCtorEq, Nat.zero_lt_succ, ite_true, ite_false, Nat.add_assoc, h1], h2⟩, pu_F1⟩
theorem zV_mk {w : ga_W} {sh sp : Nat} {st mk dr x : Int32} (h : isVh w sh sp st mk dr) : ∃ w', ga_put w 1 7 9 (.int x) = some w' ∧ isVh w' sh sp st x dr ∧ pu_F w w' 9 1 := by
  obtain ⟨h1, h2⟩ := h
  simp only [ga_gr, ga_gi, ga_get, ga_si, ga_sz, ga_sl, ga_put, ga_ai, ga_az, ga_al, ga_len, ga_is, ga_c, ga_kI, ga_kV, ga_kD, ga_up, ga_at, ga_ati, ga_jn, Option.bind_some, List.getElem?_cons_zero, List.getElem?_cons_succ, List.getElem?_set_self', List.getElem?_set_ne, List.set_cons_zero, List.set_cons_succ, List.length_cons, List.length_nil, List.length_set, ne_eq, Nat.add_right_cancel_iff, Nat.add_left_cancel_iff, if_true, if_false, and_self, true_and, and_true, not_false_eq_true, not_true_eq_false, Nat.succ_ne_zero, Nat.reduceEqDiff, Nat.add_eq_left, Nat.left_eq_add, Option.map_eq_map, Option.map_some, Nat.reduceLT, Nat.reduceAdd, Nat.lt_add_one, Function.const_apply, Nat.reduceEqDiff, reduceCtorEq, Nat.zero_lt_succ, ite_true, ite_false, Nat.add_assoc, h1]
  exact ⟨_, rfl, ⟨by simp only [ga_gr, ga_gi, ga_get, ga_si, ga_sz, ga_sl, ga_put, ga_ai, ga_az, ga_al, ga_len, ga_is, ga_c, ga_kI, ga_kV, ga_kD, ga_up, ga_at, ga_ati, ga_jn, Option.bind_some, List.getElem?_cons_zero, List.getElem?_cons_succ, List.getElem?_set_self', List.getElem?_set_ne, List.set_cons_zero, List.set_cons_succ, List.length_cons, List.length_nil, List.length_set, ne_eq, Nat.add_right_cancel_iff, Nat.add_left_cancel_iff, if_true, if_false, and_self, true_and, and_true, not_false_eq_true, not_true_eq_false, Nat.succ_ne_zero, Nat.reduceEqDiff, Nat.add_eq_left, Nat.left_eq_add, Option.map_eq_map, Option.map_some, Nat.reduceLT, Nat.reduceAdd, Nat.lt_add_one, Function.const_apply, Nat.reduceEqDiff, reduceCtorEq, Nat.zero_lt_succ, ite_true, ite_false, Nat.add_assoc, h1], h2⟩, pu_F1⟩
theorem zV_dr {w : ga_W} {sh sp : Nat} {st mk dr x : Int32} (h : isVh w sh sp st mk dr) : ∃ w', ga_put w 1 8 9 (.int x) = some w' ∧ isVh w' sh sp st mk x ∧ pu_F w w' 9 1 := by
  obtain ⟨h1, h2⟩ := h
  simp only [ga_gr, ga_gi, ga_get, ga_si, ga_sz, ga_sl, ga_put, ga_ai, ga_az, ga_al, ga_len, ga_is, ga_c, ga_kI, ga_kV, ga_kD, ga_up, ga_at, ga_ati, ga_jn, Option.bind_some, List.getElem?_cons_zero, List.getElem?_cons_succ, List.getElem?_set_self', List.getElem?_set_ne, List.set_cons_zero, List.set_cons_succ, List.length_cons, List.length_nil, List.length_set, ne_eq, Nat.add_right_cancel_iff, Nat.add_left_cancel_iff, if_true, if_false, and_self, true_and, and_true, not_false_eq_true, not_true_eq_false, Nat.succ_ne_zero, Nat.reduceEqDiff, Nat.add_eq_left, Nat.left_eq_add, Option.map_eq_map, Option.map_some, Nat.reduceLT, Nat.reduceAdd, Nat.lt_add_one, Function.const_apply, Nat.reduceEqDiff, reduceCtorEq, Nat.zero_lt_succ, ite_true, ite_false, Nat.add_assoc, h1]
  exact ⟨_, rfl, ⟨by simp only [ga_gr, ga_gi, ga_get, ga_si, ga_sz, ga_sl, ga_put, ga_ai, ga_az, ga_al, ga_len, ga_is, ga_c, ga_kI, ga_kV, ga_kD, ga_up, ga_at, ga_ati, ga_jn, Option.bind_some, List.getElem?_cons_zero, List.getElem?_cons_succ, List.getElem?_set_self', List.getElem?_set_ne, List.set_cons_zero, List.set_cons_succ, List.length_cons, List.length_nil, List.length_set, ne_eq, Nat.add_right_cancel_iff, Nat.add_left_cancel_iff, if_true, if_false, and_self, true_and, and_true, not_false_eq_true, not_true_eq_false, Nat.succ_ne_zero, Nat.reduceEqDiff, Nat.add_eq_left, Nat.left_eq_add, Option.map_eq_map, Option.map_some, Nat.reduceLT, Nat.reduceAdd, Nat.lt_add_one, Function.const_apply, Nat.reduceEqDiff, reduceCtorEq, Nat.zero_lt_succ, ite_true, ite_false, Nat.add_assoc, h1], h2⟩, pu_F1⟩
theorem zV_change {F : Nat} {w : ga_W} {sh sp : Nat} {st mk dr : Int32} (h : isVh w sh sp st mk dr) : ∃ w', f_V_changeShelf F 9 w = some (.inl none, w') ∧ isVh w' sp sh st mk dr ∧ pu_F w w' 9 1 := by
  have e1 := rV_sh h
  have e2 := rV_sp h
  obtain ⟨h1, h2⟩ := h
  simp only [f_V_changeShelf, ga_gr, ga_gi, ga_get, ga_si, ga_sz, ga_sl, ga_put, ga_ai, ga_az, ga_al, ga_len, ga_is, ga_c, ga_kI, ga_kV, ga_kD, ga_up, ga_at, ga_ati, ga_jn, Option.bind_some, List.getElem?_cons_zero, List.getElem?_cons_succ, List.getElem?_set_self', List.getElem?_set_ne, List.set_cons_zero, List.set_cons_succ, List.length_cons, List.length_nil, List.length_set, ne_eq, Nat.add_right_cancel_iff, Nat.add_left_cancel_iff, if_true, if_false, and_self, true_and, and_true, not_false_eq_true, not_true_eq_false, Nat.succ_ne_zero, Nat.reduceEqDiff, Nat.add_eq_left, Nat.left_eq_add, Option.map_eq_map, Option.map_some, Nat.reduceLT, Nat.reduceAdd, Nat.lt_add_one, Function.const_apply, Nat.reduceEqDiff, reduceCtorEq, Nat.zero_lt_succ, ite_true, ite_false, Nat.add_assoc, h1]
  refine ⟨_, rfl, ⟨by simp only [ga_gr, ga_gi, ga_get, ga_si, ga_sz, ga_sl, ga_put, ga_ai, ga_az, ga_al, ga_len, ga_is, ga_c, ga_kI, ga_kV, ga_kD, ga_up, ga_at, ga_ati, ga_jn, Option.bind_some, List.getElem?_cons_zero, List.getElem?_cons_succ, List.getElem?_set_self', List.getElem?_set_ne, List.set_cons_zero, List.set_cons_succ, List.length_cons, List.length_nil, List.length_set, ne_eq, Nat.add_right_cancel_iff, Nat.add_left_cancel_iff, if_true, if_false, and_self, true_and, and_true, not_false_eq_true, not_true_eq_false, Nat.succ_ne_zero, Nat.reduceEqDiff, Nat.add_eq_left, Nat.left_eq_add, Option.map_eq_map, Option.map_some, Nat.reduceLT, Nat.reduceAdd, Nat.lt_add_one, Function.const_apply, Nat.reduceEqDiff, reduceCtorEq, Nat.zero_lt_succ, ite_true, ite_false, Nat.add_assoc, h1], ?_⟩, ?_⟩
  · rcases h2 with h2 | h2
    · exact Or.inr ⟨h2.2, h2.1⟩
    · exact Or.inl ⟨h2.2, h2.1⟩
  · exact (pu_F1 (w := w) (a := 9)).tr pu_F1
theorem zV_endNew {F : Nat} {w : ga_W} {sh sp : Nat} {st mk dr lev : Int32} {tabs : List Tab} {loose : List Row} (h : isVh w sh sp st mk dr) (hs : isSh w sp tabs loose) (hn : tabs.length < 240) : ∃ w', f_V_endNewTable F 9 lev w = some (.inl none, w') ∧ isVh w' sh sp st (mk + 1) dr ∧ isSh w' sp (tabs ++ [(mk, lev, loose)]) [] ∧ pu_K w w' [(9, 1), (sp, 10)] := by
  have hd := h.d
  obtain ⟨w1, a1, a2, a3⟩ := zS_endTable (F := F) (num := mk) (lev := lev) hs hn
  have h1 := h.fr a3 (by omega)
  obtain ⟨w2, b1, b2, b3⟩ := zV_mk (x := mk + 1) h1
  refine ⟨w2, ?_, b2, a2.fr b3 (by omega), (a3.K (by simp)).tr (b3.K (by simp))⟩
  simp only [f_V_endNewTable, rV_sp h, rV_mk h, rS_is hs, if_true, a1, ga_c, ga_kV, Option.bind_some, rV_mk h1, b1]
theorem zV_isBlocked {F : Nat} {w : ga_W} {sh sp : Nat} {st mk dr : Int32} {tabs : List Tab} {loose : List Row} (hF : 1000 < F) (h : isVh w sh sp st mk dr) (hs : isSh w sh tabs loose) : f_V_isBlocked F 9 w = some (.inl (some (.int (if st = 0 ∨ cl 0 tabs < 8 then 0 else 1))), w) := by
  have hl : cl 0 tabs ≤ tabs.length := List.countP_le_length
  have hl2 := hs.2.1
  simp only [f_V_isBlocked, rV_st h, rV_sh h, rS_is hs, if_true, zS_tablesOn hs hF, ga_c, ga_kI, Option.bind_some]
  have h8 : (8 : Int32) = nI 8 := by decide
  rw [h8]
  by_cases c1 : st = 0
  · simp [c1]
  · by_cases c2 : cl 0 tabs < 8
    · simp only [eq_false c1, if_false, nI_lt c2 (by omega), if_true, false_or, c2]
    · simp only [eq_false c1, if_false, nI_nlt (show 8 ≤ cl 0 tabs by omega) (by omega), false_or, c2]
/-- the level that is due -/
def fullL (tabs : List Tab) : Int32 := if 4 ≤ cl 0 tabs then 0 else if 3 < cl 1 tabs then 1 else if 5 < cl 2 tabs then 2 else -1
theorem zV_fullLevel {F : Nat} {w : ga_W} {sh sp : Nat} {st mk dr : Int32} {tabs : List Tab} {loose : List Row} (hF : 1000 < F) (h : isVh w sh sp st mk dr) (hs : isSh w sh tabs loose) : f_V_fullLevel F 9 w = some (.inl (some (.int (fullL tabs))), w) := by
  have hl2 := hs.2.1
  have hl : ∀ k, cl k tabs ≤ tabs.length := fun k => List.countP_le_length
  have l0 := hl 0
  have l1 := hl 1
  have l2 := hl 2
  obtain ⟨G, rfl⟩ : ∃ G, F = G + 4 := ⟨F - 4, by omega⟩
  have h4 : (4 : Int32) = nI 4 := by decide
  have h3 : (2 : Int32) * 1 + 1 = nI 3 := by decide
  have h5 : (2 : Int32) * (1 + 1) + 1 = nI 5 := by decide
  have c1 : ¬ (3 : Int32) ≤ 1 := by decide
  have c2 : ¬ (3 : Int32) ≤ 1 + 1 := by decide
  have c3 : (3 : Int32) ≤ 1 + 1 + 1 := by decide
  have c4 : (1 : Int32) + 1 = 2 := by decide
  simp only [f_V_fullLevel, f_V_fullLevel_16, rV_sh h, rS_is hs, if_true, zS_tablesOn hs hF, ga_c, ga_kI, Option.bind_some, c1, c2, c3, if_false, h3, h5, h4, fullL]
  by_cases a0 : 4 ≤ cl 0 tabs
  · rw [if_neg (nI_nlt a0 (by omega)), if_pos a0]
  · rw [if_pos (nI_lt (by omega) (by omega)), if_neg a0]
    by_cases a1 : 3 < cl 1 tabs
    · rw [if_neg (nI_ge a1 (by omega)), if_pos a1]
    · rw [if_pos (nI_le (by omega) (by omega)), if_neg a1]
      simp only [c4]
      by_cases a2 : 5 < cl 2 tabs
      · rw [if_neg (nI_ge a2 (by omega)), if_pos a2]
      · rw [if_pos (nI_le (by omega) (by omega)), if_neg a2]
/-! tables that stay and those that join -/
def stay (J : Nat → Int32) : Nat → List Tab → List Tab
  | _, [] => []
  | i, t :: ts => if J i = 0 then t :: stay J (i + 1) ts else stay J (i + 1) ts
def jrow (J : Nat → Int32) : Nat → List Tab → List Row
  | _, [] => []
  | i, t :: ts => if J i = 0 then jrow J (i + 1) ts else t.2.2 ++ jrow J (i + 1) ts
theorem zV_stay_loop {F : Nat} {sh sp : Nat} {st mk dr : Int32} {J : Nat → Int32} {post : List Tab} {l2 : List Row} (hF : 1000 < F) (mid : List Tab) : ∀ (pre T : List Tab) (w : ga_W) (n : Nat), isVh w sh sp st mk dr → isSh w sh (pre ++ (mid ++ post)) l2 → isSh w sp T [] → w.1[45]? = some (.inl (1, 240, .inl J)) → (fl T).length + (fl (stay J pre.length mid)).length ≤ 240 → T.length + (stay J pre.length mid).length ≤ 240 → mid.length < n →
    ∃ w', f_V_addStaying_2 F 9 (nI (pre.length + mid.length)) n (nI pre.length) w = some (.inl none, w') ∧ isSh w' sp (T ++ stay J pre.length mid) [] ∧ pu_F w w' sp 10 := by
  induction mid with
  | nil =>
    intro pre T w n hv hs ht hj hc1 hc2 hn
    obtain ⟨n, rfl⟩ : ∃ k, n = k + 1 := ⟨n - 1, by simp at hn; omega⟩
    refine ⟨w, ?_, by simpa [stay] using ht, pu_F.rf⟩
    simp only [f_V_addStaying_2, List.length_nil, Nat.add_zero, Int32.le_refl, if_true]
  | cons t mid ih =>
    intro pre T w n hv hs ht hj hc1 hc2 hn
    obtain ⟨n, rfl⟩ : ∃ k, n = k + 1 := ⟨n - 1, by simp at hn; omega⟩
    have hd := hv.d
    have hl := hs.2.1
    simp only [List.length_append, List.length_cons] at hl hn
    have h1 : ¬ nI (pre.length + (t :: mid).length) ≤ nI pre.length := nI_ge (by simp) (by simp; omega)
    have q1 : pre.length + (t :: mid).length = (pre ++ [t]).length + mid.length := by simp; omega
    have q2 : nI (pre.length + 1) = nI (pre ++ [t]).length := by simp
    have q3 : pre.length + 1 = (pre ++ [t]).length := by simp
    have hJ := rZ hj (show pre.length < 240 by omega) (by omega)
    simp only [stay] at hc1 hc2 ⊢
    by_cases hx : J pre.length = 0
    · simp only [hx, if_true, fl_cons, List.length_append, List.length_cons] at hc1 hc2
      simp only [hx, if_true]
      obtain ⟨w1, e1, e2, e3⟩ := zS_addTable (F := F) (s := sp) (o := sh) (l2 := l2) (pre := pre) (t := t) (post := mid ++ post) hF (by omega) ht (by simpa using hs) (by omega) (by omega)
      rw [q3] at hc1 hc2
      obtain ⟨w2, e4, e5, e6⟩ := ih (pre ++ [t]) (T ++ [t]) w1 n (hv.fr e3 (by omega)) (by simpa using hs.fr e3 (by omega)) e2 (e3.out (by omega) hj) (by rw [fl_app, fl_cons, fl_nil, List.append_nil, List.length_append]; omega) (by rw [List.length_append]; simp only [List.length_cons, List.length_nil]; omega) (by omega)
      refine ⟨w2, ?_, by rw [q3]; simpa using e5, e3.tr e6⟩
      simp only [f_V_addStaying_2, h1, if_false, rV_jo hv, hJ, hx, if_true, rV_sp hv, rV_sh hv, rS_is ht, e1, ga_c, ga_kV, Option.bind_some, nI_1]
      rw [q1, q2, e4]
    · simp only [hx, if_false] at hc1 hc2 ⊢
      rw [q3] at hc1 hc2
      obtain ⟨w2, e4, e5, e6⟩ := ih (pre ++ [t]) T w n hv (by simpa using hs) ht hj hc1 hc2 (by omega)
      refine ⟨w2, ?_, by rw [q3]; exact e5, e6⟩
      simp only [f_V_addStaying_2, h1, if_false, rV_jo hv, hJ, hx, Option.bind_some, nI_1]
      rw [q1, q2, e4]
theorem zV_addStaying {F : Nat} {sh sp : Nat} {st mk dr : Int32} {J : Nat → Int32} {pre mid post T : List Tab} {l2 : List Row} {w : ga_W} (hF : 1000 < F) (hv : isVh w sh sp st mk dr) (hs : isSh w sh (pre ++ (mid ++ post)) l2) (ht : isSh w sp T []) (hj : w.1[45]? = some (.inl (1, 240, .inl J))) (hc1 : (fl T).length + (fl (stay J pre.length mid)).length ≤ 240) (hc2 : T.length + (stay J pre.length mid).length ≤ 240) :
    ∃ w', f_V_addStaying F 9 (nI pre.length) (nI (pre.length + mid.length)) w = some (.inl none, w') ∧ isSh w' sp (T ++ stay J pre.length mid) [] ∧ pu_F w w' sp 10 := by
  have hl := hs.2.1
  simp only [List.length_append] at hl
  exact zV_stay_loop hF mid pre T w F hv hs ht hj hc1 hc2 (by omega)
