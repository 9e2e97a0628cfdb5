/-! PURE, 0: rows of entries -/
/-- key, number, value, gone, spoiled -/
abbrev Row : Type := Int32 × Int32 × Int32 × Int32 × Int32
def pu_up {α : Type} (R : Nat → α) (i : Nat) (x : α) : Nat → α := fun j => if j = i then x else R j
/-- nothing but the places from e to before e + k changed -/
def pu_F (w w' : ga_W) (e k : Nat) : Prop := w'.1.length = w.1.length ∧ w'.2 = w.2 ∧ ∀ a, a < e ∨ e + k ≤ a → w'.1[a]? = w.1[a]?
theorem pu_F.rf {w : ga_W} {e k : Nat} : pu_F w w e k := ⟨rfl, rfl, fun _ _ => rfl⟩
theorem pu_F.tr {w w1 w2 : ga_W} {e k : Nat} (h : pu_F w w1 e k) (g : pu_F w1 w2 e k) : pu_F w w2 e k := ⟨g.1.trans h.1, g.2.1.trans h.2.1, fun a ha => (g.2.2 a ha).trans (h.2.2 a ha)⟩
theorem pu_F.mono {w w1 : ga_W} {e k e' k' : Nat} (h : pu_F w w1 e k) (h1 : e' ≤ e) (h2 : e + k ≤ e' + k') : pu_F w w1 e' k' := ⟨h.1, h.2.1, fun a ha => h.2.2 a (by omega)⟩
theorem pu_F.out {w w1 : ga_W} {e k a : Nat} {x : ga_E} (h : pu_F w w1 e k) (ha : a < e ∨ e + k ≤ a) (hx : w.1[a]? = some x) : w1.1[a]? = some x := (h.2.2 a ha).trans hx
def isE (w : ga_W) (e cap : Nat) (R : Nat → Row) (n : Nat) : Prop :=
  w.1[e]? = some (.inr (0, [.ref (e+1), .ref (e+2), .ref (e+3), .ref (e+4), .ref (e+5), .int (nI n)])) ∧
  w.1[e+1]? = some (.inl (0, cap, .inl (fun i => (R i).1))) ∧
  w.1[e+2]? = some (.inl (0, cap, .inl (fun i => (R i).2.1))) ∧
  w.1[e+3]? = some (.inl (0, cap, .inl (fun i => (R i).2.2.1))) ∧
  w.1[e+4]? = some (.inl (1, cap, .inl (fun i => (R i).2.2.2.1))) ∧
  w.1[e+5]? = some (.inl (1, cap, .inl (fun i => (R i).2.2.2.2)))
def pu_ag {α : Type} (R : Nat → α) (xs : List α) : Prop := ∀ i, i < xs.length → xs[i]? = some (R i)
theorem pu_ag.push {α : Type} {R : Nat → α} {xs : List α} (h : pu_ag R xs) (x : α) : pu_ag (pu_up R xs.length x) (xs ++ [x]) := by
  intro i hi
  simp only [List.length_append, List.length_cons, List.length_nil] at hi
  by_cases hx : i = xs.length
  · subst hx; simp [pu_up]
  · rw [List.getElem?_append_left (by omega), h i (by omega)]; simp [pu_up, hx]
theorem pu_ag.at {α : Type} {R : Nat → α} {xs : List α} {i : Nat} {x : α} (h : pu_ag R xs) (hx : xs[i]? = some x) : R i = x := by
  have hl : i < xs.length := (List.getElem?_eq_some_iff.mp hx).1
  have := h i hl
  rw [hx] at this
  exact (Option.some.inj this).symm
theorem pu_nar {g : Int32} (h : g = 0 ∨ g = 1) : vp_nar .boolean g = g := by
  rcases h with rfl | rfl <;> rfl
theorem pu_upd {α : Type} {R : Nat → α} {n : Nat} {x : α} {p : α → Int32} : upd (fun i => p (R i)) n (p x) = fun i => p (pu_up R n x i) := by
  funext j; simp only [upd, pu_up]; split <;> rfl
theorem pu_in {n cap : Nat} (hn : n < cap) (hc : cap < 2^31) : ¬ (nI n < 0 ∨ cap ≤ n) := by
  have h := nI_in hn hc
  rwa [nI_clamp (by omega)] at h
def okR (r : Row) : Prop := (r.2.2.2.1 = 0 ∨ r.2.2.2.1 = 1) ∧ (r.2.2.2.2 = 0 ∨ r.2.2.2.2 = 1)
/-- an Entries at the place e holds the rows xs -/
def isEl (w : ga_W) (e cap : Nat) (xs : List Row) : Prop := xs.length ≤ cap ∧ cap ≤ 1000 ∧ (∀ r ∈ xs, okR r) ∧ ∃ R, isE w e cap R xs.length ∧ pu_ag R xs
theorem isEl.kept {w w' : ga_W} {e cap : Nat} {xs : List Row} (h : isEl w e cap xs) (hk : ∀ a, e ≤ a → a < e + 6 → w'.1[a]? = w.1[a]?) : isEl w' e cap xs := by
  obtain ⟨h1, h2, h3, R, ⟨a0, a1, a2, a3, a4, a5⟩, h5⟩ := h
  exact ⟨h1, h2, h3, R, ⟨(hk _ (by omega) (by omega)).trans a0, (hk _ (by omega) (by omega)).trans a1, (hk _ (by omega) (by omega)).trans a2, (hk _ (by omega) (by omega)).trans a3, (hk _ (by omega) (by omega)).trans a4, (hk _ (by omega) (by omega)).trans a5⟩, h5⟩
theorem isEl.fr {w w' : ga_W} {e cap e' k : Nat} {xs : List Row} (h : isEl w e cap xs) (hf : pu_F w w' e' k) (hd : e + 6 ≤ e' ∨ e' + k ≤ e) : isEl w' e cap xs := h.kept fun a h1 h2 => hf.2.2 a (by omega)
/-! reads -/
theorem rE_size {w : ga_W} {e cap : Nat} {xs : List Row} (h : isEl w e cap xs) : ga_gi w 0 5 e = some (nI xs.length) := by
  obtain ⟨h1, h2, h3, R, ⟨a0, a1, a2, a3, a4, a5⟩, h5⟩ := h
  simp only [ga_gr, ga_gi, ga_get, ga_si, ga_sz, ga_sl, ga_put, ga_ai, ga_az, ga_al, ga_len, ga_is, ga_c, ga_kI, ga_kV, ga_kD, ga_up, ga_at, ga_ati, ga_jn, Option.bind_some, List.getElem?_cons_zero, List.getElem?_cons_succ, List.getElem?_set_self', List.getElem?_set_ne, List.set_cons_zero, List.set_cons_succ, List.length_cons, List.length_nil, List.length_set, ne_eq, Nat.add_right_cancel_iff, Nat.add_left_cancel_iff, if_true, if_false, and_self, true_and, and_true, not_false_eq_true, not_true_eq_false, Nat.succ_ne_zero, Nat.reduceEqDiff, Nat.add_eq_left, Nat.left_eq_add, Option.map_eq_map, Option.map_some, Nat.reduceLT, Nat.reduceAdd, Nat.lt_add_one, Function.const_apply, Nat.reduceEqDiff, reduceCtorEq, Nat.zero_lt_succ, ite_true, ite_false, Nat.add_assoc, a0]
theorem rE_k {w : ga_W} {e cap : Nat} {xs : List Row} (h : isEl w e cap xs) : ga_gr w 0 0 e = some (e + 1) := by
  obtain ⟨h1, h2, h3, R, ⟨a0, a1, a2, a3, a4, a5⟩, h5⟩ := h
  simp only [ga_gr, ga_gi, ga_get, ga_si, ga_sz, ga_sl, ga_put, ga_ai, ga_az, ga_al, ga_len, ga_is, ga_c, ga_kI, ga_kV, ga_kD, ga_up, ga_at, ga_ati, ga_jn, Option.bind_some, List.getElem?_cons_zero, List.getElem?_cons_succ, List.getElem?_set_self', List.getElem?_set_ne, List.set_cons_zero, List.set_cons_succ, List.length_cons, List.length_nil, List.length_set, ne_eq, Nat.add_right_cancel_iff, Nat.add_left_cancel_iff, if_true, if_false, and_self, true_and, and_true, not_false_eq_true, not_true_eq_false, Nat.succ_ne_zero, Nat.reduceEqDiff, Nat.add_eq_left, Nat.left_eq_add, Option.map_eq_map, Option.map_some, Nat.reduceLT, Nat.reduceAdd, Nat.lt_add_one, Function.const_apply, Nat.reduceEqDiff, reduceCtorEq, Nat.zero_lt_succ, ite_true, ite_false, Nat.add_assoc, a0]
theorem rE_n {w : ga_W} {e cap : Nat} {xs : List Row} (h : isEl w e cap xs) : ga_gr w 0 1 e = some (e + 2) := by
  obtain ⟨h1, h2, h3, R, ⟨a0, a1, a2, a3, a4, a5⟩, h5⟩ := h
  simp only [ga_gr, ga_gi, ga_get, ga_si, ga_sz, ga_sl, ga_put, ga_ai, ga_az, ga_al, ga_len, ga_is, ga_c, ga_kI, ga_kV, ga_kD, ga_up, ga_at, ga_ati, ga_jn, Option.bind_some, List.getElem?_cons_zero, List.getElem?_cons_succ, List.getElem?_set_self', List.getElem?_set_ne, List.set_cons_zero, List.set_cons_succ, List.length_cons, List.length_nil, List.length_set, ne_eq, Nat.add_right_cancel_iff, Nat.add_left_cancel_iff, if_true, if_false, and_self, true_and, and_true, not_false_eq_true, not_true_eq_false, Nat.succ_ne_zero, Nat.reduceEqDiff, Nat.add_eq_left, Nat.left_eq_add, Option.map_eq_map, Option.map_some, Nat.reduceLT, Nat.reduceAdd, Nat.lt_add_one, Function.const_apply, Nat.reduceEqDiff, reduceCtorEq, Nat.zero_lt_succ, ite_true, ite_false, Nat.add_assoc, a0]
theorem rE_v {w : ga_W} {e cap : Nat} {xs : List Row} (h : isEl w e cap xs) : ga_gr w 0 2 e = some (e + 3) := by
  obtain ⟨h1, h2, h3, R, ⟨a0, a1, a2, a3, a4, a5⟩, h5⟩ := h
  simp only [ga_gr, ga_gi, ga_get, ga_si, ga_sz, ga_sl, ga_put, ga_ai, ga_az, ga_al, ga_len, ga_is, ga_c, ga_kI, ga_kV, ga_kD, ga_up, ga_at, ga_ati, ga_jn, Option.bind_some, List.getElem?_cons_zero, List.getElem?_cons_succ, List.getElem?_set_self', List.getElem?_set_ne, List.set_cons_zero, List.set_cons_succ, List.length_cons, List.length_nil, List.length_set, ne_eq, Nat.add_right_cancel_iff, Nat.add_left_cancel_iff, if_true, if_false, and_self, true_and, and_true, not_false_eq_true, not_true_eq_false, Nat.succ_ne_zero, Nat.reduceEqDiff, Nat.add_eq_left, Nat.left_eq_add, Option.map_eq_map, Option.map_some, Nat.reduceLT, Nat.reduceAdd, Nat.lt_add_one, Function.const_apply, Nat.reduceEqDiff, reduceCtorEq, Nat.zero_lt_succ, ite_true, ite_false, Nat.add_assoc, a0]
theorem rE_g {w : ga_W} {e cap : Nat} {xs : List Row} (h : isEl w e cap xs) : ga_gr w 0 3 e = some (e + 4) := by
  obtain ⟨h1, h2, h3, R, ⟨a0, a1, a2, a3, a4, a5⟩, h5⟩ := h
  simp only [ga_gr, ga_gi, ga_get, ga_si, ga_sz, ga_sl, ga_put, ga_ai, ga_az, ga_al, ga_len, ga_is, ga_c, ga_kI, ga_kV, ga_kD, ga_up, ga_at, ga_ati, ga_jn, Option.bind_some, List.getElem?_cons_zero, List.getElem?_cons_succ, List.getElem?_set_self', List.getElem?_set_ne, List.set_cons_zero, List.set_cons_succ, List.length_cons, List.length_nil, List.length_set, ne_eq, Nat.add_right_cancel_iff, Nat.add_left_cancel_iff, if_true, if_false, and_self, true_and, and_true, not_false_eq_true, not_true_eq_false, Nat.succ_ne_zero, Nat.reduceEqDiff, Nat.add_eq_left, Nat.left_eq_add, Option.map_eq_map, Option.map_some, Nat.reduceLT, Nat.reduceAdd, Nat.lt_add_one, Function.const_apply, Nat.reduceEqDiff, reduceCtorEq, Nat.zero_lt_succ, ite_true, ite_false, Nat.add_assoc, a0]
theorem rE_s {w : ga_W} {e cap : Nat} {xs : List Row} (h : isEl w e cap xs) : ga_gr w 0 4 e = some (e + 5) := by
  obtain ⟨h1, h2, h3, R, ⟨a0, a1, a2, a3, a4, a5⟩, h5⟩ := h
  simp only [ga_gr, ga_gi, ga_get, ga_si, ga_sz, ga_sl, ga_put, ga_ai, ga_az, ga_al, ga_len, ga_is, ga_c, ga_kI, ga_kV, ga_kD, ga_up, ga_at, ga_ati, ga_jn, Option.bind_some, List.getElem?_cons_zero, List.getElem?_cons_succ, List.getElem?_set_self', List.getElem?_set_ne, List.set_cons_zero, List.set_cons_succ, List.length_cons, List.length_nil, List.length_set, ne_eq, Nat.add_right_cancel_iff, Nat.add_left_cancel_iff, if_true, if_false, and_self, true_and, and_true, not_false_eq_true, not_true_eq_false, Nat.succ_ne_zero, Nat.reduceEqDiff, Nat.add_eq_left, Nat.left_eq_add, Option.map_eq_map, Option.map_some, Nat.reduceLT, Nat.reduceAdd, Nat.lt_add_one, Function.const_apply, Nat.reduceEqDiff, reduceCtorEq, Nat.zero_lt_succ, ite_true, ite_false, Nat.add_assoc, a0]
theorem rE_is {w : ga_W} {e cap : Nat} {xs : List Row} (h : isEl w e cap xs) : ga_is w 0 e = true := by
  obtain ⟨h1, h2, h3, R, ⟨a0, a1, a2, a3, a4, a5⟩, h5⟩ := h
  simp [ga_is, a0]
theorem rE_key {w : ga_W} {e cap i : Nat} {xs : List Row} {r : Row} (h : isEl w e cap xs) (hr : xs[i]? = some r) : ga_ai w 0 (e + 1) (nI i) = some r.1 := by
  obtain ⟨h1, h2, h3, R, ⟨a0, a1, a2, a3, a4, a5⟩, h5⟩ := h
  have hl : i < xs.length := (List.getElem?_eq_some_iff.mp hr).1
  simp only [ga_gr, ga_gi, ga_get, ga_si, ga_sz, ga_sl, ga_put, ga_ai, ga_az, ga_al, ga_len, ga_is, ga_c, ga_kI, ga_kV, ga_kD, ga_up, ga_at, ga_ati, ga_jn, Option.bind_some, List.getElem?_cons_zero, List.getElem?_cons_succ, List.getElem?_set_self', List.getElem?_set_ne, List.set_cons_zero, List.set_cons_succ, List.length_cons, List.length_nil, List.length_set, ne_eq, Nat.add_right_cancel_iff, Nat.add_left_cancel_iff, if_true, if_false, and_self, true_and, and_true, not_false_eq_true, not_true_eq_false, Nat.succ_ne_zero, Nat.reduceEqDiff, Nat.add_eq_left, Nat.left_eq_add, Option.map_eq_map, Option.map_some, Nat.reduceLT, Nat.reduceAdd, Nat.lt_add_one, Function.const_apply, Nat.reduceEqDiff, reduceCtorEq, Nat.zero_lt_succ, ite_true, ite_false, Nat.add_assoc, a1, nI_clamp (n := i) (by omega), pu_in (n := i) (cap := cap) (by omega) (by omega), h5.at hr]
theorem rE_num {w : ga_W} {e cap i : Nat} {xs : List Row} {r : Row} (h : isEl w e cap xs) (hr : xs[i]? = some r) : ga_ai w 0 (e + 2) (nI i) = some r.2.1 := by
  obtain ⟨h1, h2, h3, R, ⟨a0, a1, a2, a3, a4, a5⟩, h5⟩ := h
  have hl : i < xs.length := (List.getElem?_eq_some_iff.mp hr).1
  simp only [ga_gr, ga_gi, ga_get, ga_si, ga_sz, ga_sl, ga_put, ga_ai, ga_az, ga_al, ga_len, ga_is, ga_c, ga_kI, ga_kV, ga_kD, ga_up, ga_at, ga_ati, ga_jn, Option.bind_some, List.getElem?_cons_zero, List.getElem?_cons_succ, List.getElem?_set_self', List.getElem?_set_ne, List.set_cons_zero, List.set_cons_succ, List.length_cons, List.length_nil, List.length_set, ne_eq, Nat.add_right_cancel_iff, Nat.add_left_cancel_iff, if_true, if_false, and_self, true_and, and_true, not_false_eq_true, not_true_eq_false, Nat.succ_ne_zero, Nat.reduceEqDiff, Nat.add_eq_left, Nat.left_eq_add, Option.map_eq_map, Option.map_some, Nat.reduceLT, Nat.reduceAdd, Nat.lt_add_one, Function.const_apply, Nat.reduceEqDiff, reduceCtorEq, Nat.zero_lt_succ, ite_true, ite_false, Nat.add_assoc, a2, nI_clamp (n := i) (by omega), pu_in (n := i) (cap := cap) (by omega) (by omega), h5.at hr]
theorem rE_val {w : ga_W} {e cap i : Nat} {xs : List Row} {r : Row} (h : isEl w e cap xs) (hr : xs[i]? = some r) : ga_ai w 0 (e + 3) (nI i) = some r.2.2.1 := by
  obtain ⟨h1, h2, h3, R, ⟨a0, a1, a2, a3, a4, a5⟩, h5⟩ := h
  have hl : i < xs.length := (List.getElem?_eq_some_iff.mp hr).1
  simp only [ga_gr, ga_gi, ga_get, ga_si, ga_sz, ga_sl, ga_put, ga_ai, ga_az, ga_al, ga_len, ga_is, ga_c, ga_kI, ga_kV, ga_kD, ga_up, ga_at, ga_ati, ga_jn, Option.bind_some, List.getElem?_cons_zero, List.getElem?_cons_succ, List.getElem?_set_self', List.getElem?_set_ne, List.set_cons_zero, List.set_cons_succ, List.length_cons, List.length_nil, List.length_set, ne_eq, Nat.add_right_cancel_iff, Nat.add_left_cancel_iff, if_true, if_false, and_self, true_and, and_true, not_false_eq_true, not_true_eq_false, Nat.succ_ne_zero, Nat.reduceEqDiff, Nat.add_eq_left, Nat.left_eq_add, Option.map_eq_map, Option.map_some, Nat.reduceLT, Nat.reduceAdd, Nat.lt_add_one, Function.const_apply, Nat.reduceEqDiff, reduceCtorEq, Nat.zero_lt_succ, ite_true, ite_false, Nat.add_assoc, a3, nI_clamp (n := i) (by omega), pu_in (n := i) (cap := cap) (by omega) (by omega), h5.at hr]
theorem rE_gone {w : ga_W} {e cap i : Nat} {xs : List Row} {r : Row} (h : isEl w e cap xs) (hr : xs[i]? = some r) : ga_az w 1 (e + 4) (nI i) = some r.2.2.2.1 := by
  obtain ⟨h1, h2, h3, R, ⟨a0, a1, a2, a3, a4, a5⟩, h5⟩ := h
  have hl : i < xs.length := (List.getElem?_eq_some_iff.mp hr).1
  simp only [ga_gr, ga_gi, ga_get, ga_si, ga_sz, ga_sl, ga_put, ga_ai, ga_az, ga_al, ga_len, ga_is, ga_c, ga_kI, ga_kV, ga_kD, ga_up, ga_at, ga_ati, ga_jn, Option.bind_some, List.getElem?_cons_zero, List.getElem?_cons_succ, List.getElem?_set_self', List.getElem?_set_ne, List.set_cons_zero, List.set_cons_succ, List.length_cons, List.length_nil, List.length_set, ne_eq, Nat.add_right_cancel_iff, Nat.add_left_cancel_iff, if_true, if_false, and_self, true_and, and_true, not_false_eq_true, not_true_eq_false, Nat.succ_ne_zero, Nat.reduceEqDiff, Nat.add_eq_left, Nat.left_eq_add, Option.map_eq_map, Option.map_some, Nat.reduceLT, Nat.reduceAdd, Nat.lt_add_one, Function.const_apply, Nat.reduceEqDiff, reduceCtorEq, Nat.zero_lt_succ, ite_true, ite_false, Nat.add_assoc, a4, nI_clamp (n := i) (by omega), pu_in (n := i) (cap := cap) (by omega) (by omega), h5.at hr]
theorem rE_sp {w : ga_W} {e cap i : Nat} {xs : List Row} {r : Row} (h : isEl w e cap xs) (hr : xs[i]? = some r) : ga_az w 1 (e + 5) (nI i) = some r.2.2.2.2 := by
  obtain ⟨h1, h2, h3, R, ⟨a0, a1, a2, a3, a4, a5⟩, h5⟩ := h
  have hl : i < xs.length := (List.getElem?_eq_some_iff.mp hr).1
  simp only [ga_gr, ga_gi, ga_get, ga_si, ga_sz, ga_sl, ga_put, ga_ai, ga_az, ga_al, ga_len, ga_is, ga_c, ga_kI, ga_kV, ga_kD, ga_up, ga_at, ga_ati, ga_jn, Option.bind_some, List.getElem?_cons_zero, List.getElem?_cons_succ, List.getElem?_set_self', List.getElem?_set_ne, List.set_cons_zero, List.set_cons_succ, List.length_cons, List.length_nil, List.length_set, ne_eq, Nat.add_right_cancel_iff, Nat.add_left_cancel_iff, if_true, if_false, and_self, true_and, and_true, not_false_eq_true, not_true_eq_false, Nat.succ_ne_zero, Nat.reduceEqDiff, Nat.add_eq_left, Nat.left_eq_add, Option.map_eq_map, Option.map_some, Nat.reduceLT, Nat.reduceAdd, Nat.lt_add_one, Function.const_apply, Nat.reduceEqDiff, reduceCtorEq, Nat.zero_lt_succ, ite_true, ite_false, Nat.add_assoc, a5, nI_clamp (n := i) (by omega), pu_in (n := i) (cap := cap) (by omega) (by omega), h5.at hr]
/-! methods of Entries -/
set_option maxHeartbeats 1000000 in
theorem zE_add {F e cap : Nat} {xs : List Row} {w : ga_W} {k nu v g : Int32} (h : isEl w e cap xs) (hn : xs.length < cap) (hg : g = 0 ∨ g = 1) :
    ∃ w', f_E_add F e k nu v g w = some (.inl none, w') ∧ isEl w' e cap (xs ++ [(k, nu, v, g, 0)]) ∧ pu_F w w' e 6 := by
  obtain ⟨b1, b2, b3, R, ⟨h0, h1, h2, h3, h4, h5⟩, b5⟩ := h
  have hi := pu_in hn (by omega)
  have hcl := nI_clamp (n := xs.length) (by omega)
  have hz : vp_nar .boolean 0 = 0 := rfl
  simp only [f_E_add, ga_gr, ga_gi, ga_get, ga_si, ga_sz, ga_sl, ga_put, ga_ai, ga_az, ga_al, ga_len, ga_is, ga_c, ga_kI, ga_kV, ga_kD, ga_up, ga_at, ga_ati, ga_jn, Option.bind_some, List.getElem?_cons_zero, List.getElem?_cons_succ, List.getElem?_set_self', List.getElem?_set_ne, List.set_cons_zero, List.set_cons_succ, List.length_cons, List.length_nil, List.length_set, ne_eq, Nat.add_right_cancel_iff, Nat.add_left_cancel_iff, if_true, if_false, and_self, true_and, and_true, not_false_eq_true, not_true_eq_false, Nat.succ_ne_zero, Nat.reduceEqDiff, Nat.add_eq_left, Nat.left_eq_add, Option.map_eq_map, Option.map_some, Nat.reduceLT, Nat.reduceAdd, Nat.lt_add_one, Function.const_apply, Nat.reduceEqDiff, reduceCtorEq, Nat.zero_lt_succ, ite_true, ite_false, Nat.add_assoc, h0, h1, h2, h3, h4, h5, hi, hcl, pu_nar hg, hz, nI_1]
  refine ⟨_, rfl, ⟨by simp; omega, b2, ?_, pu_up R xs.length (k, nu, v, g, 0), ?_, b5.push _⟩, ?_⟩
  · intro r hr
    rcases List.mem_append.mp hr with hr | hr
    · exact b3 r hr
    · simp at hr; subst hr; exact ⟨hg, Or.inl rfl⟩
  · simp only [isE, ga_gr, ga_gi, ga_get, ga_si, ga_sz, ga_sl, ga_put, ga_ai, ga_az, ga_al, ga_len, ga_is, ga_c, ga_kI, ga_kV, ga_kD, ga_up, ga_at, ga_ati, ga_jn, Option.bind_some, List.getElem?_cons_zero, List.getElem?_cons_succ, List.getElem?_set_self', List.getElem?_set_ne, List.set_cons_zero, List.set_cons_succ, List.length_cons, List.length_nil, List.length_set, ne_eq, Nat.add_right_cancel_iff, Nat.add_left_cancel_iff, if_true, if_false, and_self, true_and, and_true, not_false_eq_true, not_true_eq_false, Nat.succ_ne_zero, Nat.reduceEqDiff, Nat.add_eq_left, Nat.left_eq_add, Option.map_eq_map, Option.map_some, Nat.reduceLT, Nat.reduceAdd, Nat.lt_add_one, Function.const_apply, Nat.reduceEqDiff, reduceCtorEq, Nat.zero_lt_succ, ite_true, ite_false, Nat.add_assoc, h0, h1, h2, h3, h4, h5, List.length_append]
    exact ⟨congrArg (fun f => some (Sum.inl (0, cap, Sum.inl f))) (pu_upd (x := (k, nu, v, g, 0)) (p := fun r => r.1)), congrArg (fun f => some (Sum.inl (0, cap, Sum.inl f))) (pu_upd (x := (k, nu, v, g, 0)) (p := fun r => r.2.1)), congrArg (fun f => some (Sum.inl (0, cap, Sum.inl f))) (pu_upd (x := (k, nu, v, g, 0)) (p := fun r => r.2.2.1)), congrArg (fun f => some (Sum.inl (1, cap, Sum.inl f))) (pu_upd (x := (k, nu, v, g, 0)) (p := fun r => r.2.2.2.1)), congrArg (fun f => some (Sum.inl (1, cap, Sum.inl f))) (pu_upd (x := (k, nu, v, g, 0)) (p := fun r => r.2.2.2.2))⟩
  · refine ⟨by simp only [ga_gr, ga_gi, ga_get, ga_si, ga_sz, ga_sl, ga_put, ga_ai, ga_az, ga_al, ga_len, ga_is, ga_c, ga_kI, ga_kV, ga_kD, ga_up, ga_at, ga_ati, ga_jn, Option.bind_some, List.getElem?_cons_zero, List.getElem?_cons_succ, List.getElem?_set_self', List.getElem?_set_ne, List.set_cons_zero, List.set_cons_succ, List.length_cons, List.length_nil, List.length_set, ne_eq, Nat.add_right_cancel_iff, Nat.add_left_cancel_iff, if_true, if_false, and_self, true_and, and_true, not_false_eq_true, not_true_eq_false, Nat.succ_ne_zero, Nat.reduceEqDiff, Nat.add_eq_left, Nat.left_eq_add, Option.map_eq_map, Option.map_some, Nat.reduceLT, Nat.reduceAdd, Nat.lt_add_one, Function.const_apply, Nat.reduceEqDiff, reduceCtorEq, Nat.zero_lt_succ, ite_true, ite_false, Nat.add_assoc], rfl, fun a ha => ?_⟩
    have : a ≠ e ∧ a ≠ e + 1 ∧ a ≠ e + 2 ∧ a ≠ e + 3 ∧ a ≠ e + 4 ∧ a ≠ e + 5 := by omega
    simp [List.getElem?_set, this, Ne.symm this.1, Ne.symm this.2.1, Ne.symm this.2.2.1, Ne.symm this.2.2.2.1, Ne.symm this.2.2.2.2.1, Ne.symm this.2.2.2.2.2]
set_option maxHeartbeats 4000000 in
theorem zE_addFrom {F e cap e2 cap2 i : Nat} {xs ys : List Row} {r : Row} {w : ga_W} (h : isEl w e cap xs) (hn : xs.length < cap) (hy : isEl w e2 cap2 ys) (hr : ys[i]? = some r) (hd : e + 6 ≤ e2 ∨ e2 + 6 ≤ e) :
    ∃ w', f_E_addFrom F e e2 (nI i) w = some (.inl none, w') ∧ isEl w' e cap (xs ++ [r]) ∧ pu_F w w' e 6 := by
  have hok : okR r := hy.2.2.1 r (List.mem_of_getElem? hr)
  obtain ⟨b1, b2, b3, R, ⟨h0, h1, h2, h3, h4, h5⟩, b5⟩ := h
  obtain ⟨c1, c2, c3, Q, ⟨g0, g1, g2, g3, g4, g5⟩, c5⟩ := hy
  have hl : i < ys.length := (List.getElem?_eq_some_iff.mp hr).1
  have hq := c5.at hr
  have hi := pu_in hn (by omega)
  have hcl := nI_clamp (n := xs.length) (by omega)
  have hi2 := pu_in (n := i) (cap := cap2) (by omega) (by omega)
  have hcl2 := nI_clamp (n := i) (by omega)
  have d0 : ∀ p, p < 6 → ∀ q, q < 6 → ¬ e + p = e2 + q := by omega
  have d00 : ¬ e = e2 := by omega
  have d01 : ∀ q, q < 6 → ¬ e = e2 + q := by omega
  have d10 : ∀ q, q < 6 → ¬ e + q = e2 := by omega
  simp only [f_E_addFrom, ga_gr, ga_gi, ga_get, ga_si, ga_sz, ga_sl, ga_put, ga_ai, ga_az, ga_al, ga_len, ga_is, ga_c, ga_kI, ga_kV, ga_kD, ga_up, ga_at, ga_ati, ga_jn, Option.bind_some, List.getElem?_cons_zero, List.getElem?_cons_succ, List.getElem?_set_self', List.getElem?_set_ne, List.set_cons_zero, List.set_cons_succ, List.length_cons, List.length_nil, List.length_set, ne_eq, Nat.add_right_cancel_iff, Nat.add_left_cancel_iff, if_true, if_false, and_self, true_and, and_true, not_false_eq_true, not_true_eq_false, Nat.succ_ne_zero, Nat.reduceEqDiff, Nat.add_eq_left, Nat.left_eq_add, Option.map_eq_map, Option.map_some, Nat.reduceLT, Nat.reduceAdd, Nat.lt_add_one, Function.const_apply, Nat.reduceEqDiff, reduceCtorEq, Nat.zero_lt_succ, ite_true, ite_false, Nat.add_assoc, h0, h1, h2, h3, h4, h5, g0, g1, g2, g3, g4, g5, hi, hcl, hi2, hcl2, hq, pu_nar hok.1, pu_nar hok.2, nI_1, d0 1 (by decide) 1 (by decide), d0 1 (by decide) 2 (by decide), d0 1 (by decide) 3 (by decide), d0 1 (by decide) 4 (by decide), d0 1 (by decide) 5 (by decide), d0 2 (by decide) 1 (by decide), d0 2 (by decide) 2 (by decide), d0 2 (by decide) 3 (by decide), d0 2 (by decide) 4 (by decide), d0 2 (by decide) 5 (by decide), d0 3 (by decide) 1 (by decide), d0 3 (by decide) 2 (by decide), d0 3 (by decide) 3 (by decide), d0 3 (by decide) 4 (by decide), d0 3 (by decide) 5 (by decide), d0 4 (by decide) 1 (by decide), d0 4 (by decide) 2 (by decide), d0 4 (by decide) 3 (by decide), d0 4 (by decide) 4 (by decide), d0 4 (by decide) 5 (by decide), d10 1 (by decide), d10 2 (by decide), d10 3 (by decide), d10 4 (by decide)]
  refine ⟨_, rfl, ⟨by simp; omega, b2, ?_, pu_up R xs.length r, ?_, b5.push _⟩, ?_⟩
  · intro r hr
    rcases List.mem_append.mp hr with hr | hr
    · exact b3 r hr
    · simp at hr; subst hr; exact hok
  · simp only [isE, ga_gr, ga_gi, ga_get, ga_si, ga_sz, ga_sl, ga_put, ga_ai, ga_az, ga_al, ga_len, ga_is, ga_c, ga_kI, ga_kV, ga_kD, ga_up, ga_at, ga_ati, ga_jn, Option.bind_some, List.getElem?_cons_zero, List.getElem?_cons_succ, List.getElem?_set_self', List.getElem?_set_ne, List.set_cons_zero, List.set_cons_succ, List.length_cons, List.length_nil, List.length_set, ne_eq, Nat.add_right_cancel_iff, Nat.add_left_cancel_iff, if_true, if_false, and_self, true_and, and_true, not_false_eq_true, not_true_eq_false, Nat.succ_ne_zero, Nat.reduceEqDiff, Nat.add_eq_left, Nat.left_eq_add, Option.map_eq_map, Option.map_some, Nat.reduceLT, Nat.reduceAdd, Nat.lt_add_one, Function.const_apply, Nat.reduceEqDiff, reduceCtorEq, Nat.zero_lt_succ, ite_true, ite_false, Nat.add_assoc, h0, h1, h2, h3, h4, h5, List.length_append]
    exact ⟨congrArg (fun f => some (Sum.inl (0, cap, Sum.inl f))) (pu_upd (x := r) (p := fun r => r.1)), congrArg (fun f => some (Sum.inl (0, cap, Sum.inl f))) (pu_upd (x := r) (p := fun r => r.2.1)), congrArg (fun f => some (Sum.inl (0, cap, Sum.inl f))) (pu_upd (x := r) (p := fun r => r.2.2.1)), congrArg (fun f => some (Sum.inl (1, cap, Sum.inl f))) (pu_upd (x := r) (p := fun r => r.2.2.2.1)), congrArg (fun f => some (Sum.inl (1, cap, Sum.inl f))) (pu_upd (x := r) (p := fun r => r.2.2.2.2))⟩
  · refine ⟨by simp only [ga_gr, ga_gi, ga_get, ga_si, ga_sz, ga_sl, ga_put, ga_ai, ga_az, ga_al, ga_len, ga_is, ga_c, ga_kI, ga_kV, ga_kD, ga_up, ga_at, ga_ati, ga_jn, Option.bind_some, List.getElem?_cons_zero, List.getElem?_cons_succ, List.getElem?_set_self', List.getElem?_set_ne, List.set_cons_zero, List.set_cons_succ, List.length_cons, List.length_nil, List.length_set, ne_eq, Nat.add_right_cancel_iff, Nat.add_left_cancel_iff, if_true, if_false, and_self, true_and, and_true, not_false_eq_true, not_true_eq_false, Nat.succ_ne_zero, Nat.reduceEqDiff, Nat.add_eq_left, Nat.left_eq_add, Option.map_eq_map, Option.map_some, Nat.reduceLT, Nat.reduceAdd, Nat.lt_add_one, Function.const_apply, Nat.reduceEqDiff, reduceCtorEq, Nat.zero_lt_succ, ite_true, ite_false, Nat.add_assoc], rfl, fun a ha => ?_⟩
    have : a ≠ e ∧ a ≠ e + 1 ∧ a ≠ e + 2 ∧ a ≠ e + 3 ∧ a ≠ e + 4 ∧ a ≠ e + 5 := by omega
    simp [List.getElem?_set, this, Ne.symm this.1, Ne.symm this.2.1, Ne.symm this.2.2.1, Ne.symm this.2.2.2.1, Ne.symm this.2.2.2.2.1, Ne.symm this.2.2.2.2.2]
/-- the size is set back -/
theorem zE_cut {e cap m : Nat} {xs : List Row} {w : ga_W} (h : isEl w e cap xs) (hm : m ≤ xs.length) :
    ∃ w', ga_put w 0 5 e (.int (nI m)) = some w' ∧ isEl w' e cap (xs.take m) ∧ pu_F w w' e 6 := by
  obtain ⟨b1, b2, b3, R, ⟨h0, h1, h2, h3, h4, h5⟩, b5⟩ := h
  simp only [ga_gr, ga_gi, ga_get, ga_si, ga_sz, ga_sl, ga_put, ga_ai, ga_az, ga_al, ga_len, ga_is, ga_c, ga_kI, ga_kV, ga_kD, ga_up, ga_at, ga_ati, ga_jn, Option.bind_some, List.getElem?_cons_zero, List.getElem?_cons_succ, List.getElem?_set_self', List.getElem?_set_ne, List.set_cons_zero, List.set_cons_succ, List.length_cons, List.length_nil, List.length_set, ne_eq, Nat.add_right_cancel_iff, Nat.add_left_cancel_iff, if_true, if_false, and_self, true_and, and_true, not_false_eq_true, not_true_eq_false, Nat.succ_ne_zero, Nat.reduceEqDiff, Nat.add_eq_left, Nat.left_eq_add, Option.map_eq_map, Option.map_some, Nat.reduceLT, Nat.reduceAdd, Nat.lt_add_one, Function.const_apply, Nat.reduceEqDiff, reduceCtorEq, Nat.zero_lt_succ, ite_true, ite_false, Nat.add_assoc, h0]
  refine ⟨_, rfl, ⟨by simp; omega, b2, fun r hr => b3 r (List.mem_of_mem_take hr), R, ?_, fun i hi => ?_⟩, ?_⟩
  · simp only [isE, ga_gr, ga_gi, ga_get, ga_si, ga_sz, ga_sl, ga_put, ga_ai, ga_az, ga_al, ga_len, ga_is, ga_c, ga_kI, ga_kV, ga_kD, ga_up, ga_at, ga_ati, ga_jn, Option.bind_some, List.getElem?_cons_zero, List.getElem?_cons_succ, List.getElem?_set_self', List.getElem?_set_ne, List.set_cons_zero, List.set_cons_succ, List.length_cons, List.length_nil, List.length_set, ne_eq, Nat.add_right_cancel_iff, Nat.add_left_cancel_iff, if_true, if_false, and_self, true_and, and_true, not_false_eq_true, not_true_eq_false, Nat.succ_ne_zero, Nat.reduceEqDiff, Nat.add_eq_left, Nat.left_eq_add, Option.map_eq_map, Option.map_some, Nat.reduceLT, Nat.reduceAdd, Nat.lt_add_one, Function.const_apply, Nat.reduceEqDiff, reduceCtorEq, Nat.zero_lt_succ, ite_true, ite_false, Nat.add_assoc, h0, h1, h2, h3, h4, h5, List.length_take, Nat.min_eq_left hm]
  · simp only [List.length_take] at hi
    rw [List.getElem?_take, if_pos (by omega)]
    exact b5 i (by omega)
  · refine ⟨by simp only [ga_gr, ga_gi, ga_get, ga_si, ga_sz, ga_sl, ga_put, ga_ai, ga_az, ga_al, ga_len, ga_is, ga_c, ga_kI, ga_kV, ga_kD, ga_up, ga_at, ga_ati, ga_jn, Option.bind_some, List.getElem?_cons_zero, List.getElem?_cons_succ, List.getElem?_set_self', List.getElem?_set_ne, List.set_cons_zero, List.set_cons_succ, List.length_cons, List.length_nil, List.length_set, ne_eq, Nat.add_right_cancel_iff, Nat.add_left_cancel_iff, if_true, if_false, and_self, true_and, and_true, not_false_eq_true, not_true_eq_false, Nat.succ_ne_zero, Nat.reduceEqDiff, Nat.add_eq_left, Nat.left_eq_add, Option.map_eq_map, Option.map_some, Nat.reduceLT, Nat.reduceAdd, Nat.lt_add_one, Function.const_apply, Nat.reduceEqDiff, reduceCtorEq, Nat.zero_lt_succ, ite_true, ite_false, Nat.add_assoc], rfl, fun a ha => ?_⟩
    have : a ≠ e := by omega
    simp [List.getElem?_set, Ne.symm this]
theorem zE_clear {e cap : Nat} {xs : List Row} {w : ga_W} (h : isEl w e cap xs) :
    ∃ w', ga_put w 0 5 e (.int (0 : Int32)) = some w' ∧ isEl w' e cap [] ∧ pu_F w w' e 6 := by
  have := zE_cut h (Nat.zero_le _)
  rwa [nI_0, List.take_zero] at this
def mxN (m : Int32) (xs : List Row) : Int32 := xs.foldl (fun m r => if m < r.2.1 then r.2.1 else m) m
theorem zE_gN_loop {F e cap : Nat} {w : ga_W} (pre post : List Row) (h : isEl w e cap (pre ++ post)) : ∀ (n : Nat) (m : Int32), post.length < n → f_E_greatestNumber_4 F e n m (nI pre.length) w = some (.inl (some (.int (mxN m post))), w) := by
  induction post generalizing pre with
  | nil =>
    intro n m hn
    obtain ⟨n, rfl⟩ : ∃ k, n = k + 1 := ⟨n - 1, by simp at hn; omega⟩
    simp only [List.append_nil] at h
    simp only [f_E_greatestNumber_4, rE_size h, Option.bind_some, Int32.le_refl, if_true, mxN, List.foldl_nil]
  | cons r post ih =>
    intro n m hn
    obtain ⟨n, rfl⟩ : ∃ k, n = k + 1 := ⟨n - 1, by simp at hn; omega⟩
    have hl := h.1
    have hc := h.2.1
    simp only [List.length_append, List.length_cons] at hl hn
    have h1 : ¬ nI (pre ++ r :: post).length ≤ nI pre.length := nI_ge (by simp) (by simp; omega)
    have hr : (pre ++ r :: post)[pre.length]? = some r := by simp
    simp only [f_E_greatestNumber_4, rE_size h, rE_n h, rE_num h hr, Option.bind_some, h1, if_false, nI_1]
    have h2 : isEl w e cap ((pre ++ [r]) ++ post) := by simpa using h
    have := ih (pre ++ [r]) h2 n (if m < r.2.1 then r.2.1 else m) (by omega)
    simpa [mxN] using this
theorem zE_greatestNumber {F e cap : Nat} {xs : List Row} {w : ga_W} (h : isEl w e cap xs) (hF : 1000 < F) : f_E_greatestNumber F e w = some (.inl (some (.int (mxN 0 xs))), w) := by
  have h1 := h.1
  have h2 := h.2.1
  have := zE_gN_loop (F := F) [] xs h F 0 (by omega)
  rw [List.length_nil, nI_0] at this
  exact this
