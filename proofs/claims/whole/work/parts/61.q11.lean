/-! PURE, 11: the class itself -/
/-- LevelStore at the place 0 -/
def isLh (w : ga_W) (bo lt rd ms gt : Int32) : Prop := w.1[0]? = some (.inr (5, [.ref 1, .ref 9, .ref 47, .ref 53, .int bo, .int lt, .int rd, .int ms, .int gt]))
theorem isLh.fr {w w' : ga_W} {bo lt rd ms gt : Int32} {e k : Nat} (h : isLh w bo lt rd ms gt) (hf : pu_F w w' e k) (he : 0 < e) : isLh w' bo lt rd ms gt := hf.out (by omega) h
theorem rL_m {w : ga_W} {bo lt rd ms gt : Int32} (h : isLh w bo lt rd ms gt) : ga_gr w 5 0 0 = some 1 := by
  unfold isLh at h; simp only [ga_gr, ga_gi, ga_get, ga_si, ga_sz, ga_sl, ga_put, ga_ai, ga_az, ga_al, ga_len, ga_is, ga_c, ga_kI, ga_kV, ga_kD, ga_up, ga_at, ga_ati, ga_jn, Option.bind_some, List.getElem?_cons_zero, List.getElem?_cons_succ, List.getElem?_set_self', List.getElem?_set_ne, List.set_cons_zero, List.set_cons_succ, List.length_cons, List.length_nil, List.length_set, ne_eq, Nat.add_right_cancel_iff, Nat.add_left_cancel_iff, if_true, if_false, and_self, true_and, and_true, not_false_eq_true, not_true_eq_false, Nat.succ_ne_zero, Nat.reduceEqDiff, Nat.add_eq_left, Nat.left_eq_add, Option.map_eq_map, Option.map_some, Nat.reduceLT, Nat.reduceAdd, Nat.lt_add_one, Function.const_apply, Nat.reduceEqDiff, reduceCtorEq, Nat.zero_lt_succ, ite_true, ite_false, Nat.add_assoc, h]
theorem rL_v {w : ga_W} {bo lt rd ms gt : Int32} (h : isLh w bo lt rd ms gt) : ga_gr w 5 1 0 = some 9 := by
  unfold isLh at h; simp only [ga_gr, ga_gi, ga_get, ga_si, ga_sz, ga_sl, ga_put, ga_ai, ga_az, ga_al, ga_len, ga_is, ga_c, ga_kI, ga_kV, ga_kD, ga_up, ga_at, ga_ati, ga_jn, Option.bind_some, List.getElem?_cons_zero, List.getElem?_cons_succ, List.getElem?_set_self', List.getElem?_set_ne, List.set_cons_zero, List.set_cons_succ, List.length_cons, List.length_nil, List.length_set, ne_eq, Nat.add_right_cancel_iff, Nat.add_left_cancel_iff, if_true, if_false, and_self, true_and, and_true, not_false_eq_true, not_true_eq_false, Nat.succ_ne_zero, Nat.reduceEqDiff, Nat.add_eq_left, Nat.left_eq_add, Option.map_eq_map, Option.map_some, Nat.reduceLT, Nat.reduceAdd, Nat.lt_add_one, Function.const_apply, Nat.reduceEqDiff, reduceCtorEq, Nat.zero_lt_succ, ite_true, ite_false, Nat.add_assoc, h]
theorem rL_p {w : ga_W} {bo lt rd ms gt : Int32} (h : isLh w bo lt rd ms gt) : ga_gr w 5 2 0 = some 47 := by
  unfold isLh at h; simp only [ga_gr, ga_gi, ga_get, ga_si, ga_sz, ga_sl, ga_put, ga_ai, ga_az, ga_al, ga_len, ga_is, ga_c, ga_kI, ga_kV, ga_kD, ga_up, ga_at, ga_ati, ga_jn, Option.bind_some, List.getElem?_cons_zero, List.getElem?_cons_succ, List.getElem?_set_self', List.getElem?_set_ne, List.set_cons_zero, List.set_cons_succ, List.length_cons, List.length_nil, List.length_set, ne_eq, Nat.add_right_cancel_iff, Nat.add_left_cancel_iff, if_true, if_false, and_self, true_and, and_true, not_false_eq_true, not_true_eq_false, Nat.succ_ne_zero, Nat.reduceEqDiff, Nat.add_eq_left, Nat.left_eq_add, Option.map_eq_map, Option.map_some, Nat.reduceLT, Nat.reduceAdd, Nat.lt_add_one, Function.const_apply, Nat.reduceEqDiff, reduceCtorEq, Nat.zero_lt_succ, ite_true, ite_false, Nat.add_assoc, h]
theorem rL_s {w : ga_W} {bo lt rd ms gt : Int32} (h : isLh w bo lt rd ms gt) : ga_gr w 5 3 0 = some 53 := by
  unfold isLh at h; simp only [ga_gr, ga_gi, ga_get, ga_si, ga_sz, ga_sl, ga_put, ga_ai, ga_az, ga_al, ga_len, ga_is, ga_c, ga_kI, ga_kV, ga_kD, ga_up, ga_at, ga_ati, ga_jn, Option.bind_some, List.getElem?_cons_zero, List.getElem?_cons_succ, List.getElem?_set_self', List.getElem?_set_ne, List.set_cons_zero, List.set_cons_succ, List.length_cons, List.length_nil, List.length_set, ne_eq, Nat.add_right_cancel_iff, Nat.add_left_cancel_iff, if_true, if_false, and_self, true_and, and_true, not_false_eq_true, not_true_eq_false, Nat.succ_ne_zero, Nat.reduceEqDiff, Nat.add_eq_left, Nat.left_eq_add, Option.map_eq_map, Option.map_some, Nat.reduceLT, Nat.reduceAdd, Nat.lt_add_one, Function.const_apply, Nat.reduceEqDiff, reduceCtorEq, Nat.zero_lt_succ, ite_true, ite_false, Nat.add_assoc, h]
theorem rL_bo {w : ga_W} {bo lt rd ms gt : Int32} (h : isLh w bo lt rd ms gt) : ga_gi w 5 4 0 = some bo := by
  unfold isLh at h; simp only [ga_gr, ga_gi, ga_get, ga_si, ga_sz, ga_sl, ga_put, ga_ai, ga_az, ga_al, ga_len, ga_is, ga_c, ga_kI, ga_kV, ga_kD, ga_up, ga_at, ga_ati, ga_jn, Option.bind_some, List.getElem?_cons_zero, List.getElem?_cons_succ, List.getElem?_set_self', List.getElem?_set_ne, List.set_cons_zero, List.set_cons_succ, List.length_cons, List.length_nil, List.length_set, ne_eq, Nat.add_right_cancel_iff, Nat.add_left_cancel_iff, if_true, if_false, and_self, true_and, and_true, not_false_eq_true, not_true_eq_false, Nat.succ_ne_zero, Nat.reduceEqDiff, Nat.add_eq_left, Nat.left_eq_add, Option.map_eq_map, Option.map_some, Nat.reduceLT, Nat.reduceAdd, Nat.lt_add_one, Function.const_apply, Nat.reduceEqDiff, reduceCtorEq, Nat.zero_lt_succ, ite_true, ite_false, Nat.add_assoc, h]
theorem rL_lt {w : ga_W} {bo lt rd ms gt : Int32} (h : isLh w bo lt rd ms gt) : ga_gi w 5 5 0 = some lt := by
  unfold isLh at h; simp only [ga_gr, ga_gi, ga_get, ga_si, ga_sz, ga_sl, ga_put, ga_ai, ga_az, ga_al, ga_len, ga_is, ga_c, ga_kI, ga_kV, ga_kD, ga_up, ga_at, ga_ati, ga_jn, Option.bind_some, List.getElem?_cons_zero, List.getElem?_cons_succ, List.getElem?_set_self', List.getElem?_set_ne, List.set_cons_zero, List.set_cons_succ, List.length_cons, List.length_nil, List.length_set, ne_eq, Nat.add_right_cancel_iff, Nat.add_left_cancel_iff, if_true, if_false, and_self, true_and, and_true, not_false_eq_true, not_true_eq_false, Nat.succ_ne_zero, Nat.reduceEqDiff, Nat.add_eq_left, Nat.left_eq_add, Option.map_eq_map, Option.map_some, Nat.reduceLT, Nat.reduceAdd, Nat.lt_add_one, Function.const_apply, Nat.reduceEqDiff, reduceCtorEq, Nat.zero_lt_succ, ite_true, ite_false, Nat.add_assoc, h]
theorem rL_rd {w : ga_W} {bo lt rd ms gt : Int32} (h : isLh w bo lt rd ms gt) : ga_gi w 5 6 0 = some rd := by
  unfold isLh at h; simp only [ga_gr, ga_gi, ga_get, ga_si, ga_sz, ga_sl, ga_put, ga_ai, ga_az, ga_al, ga_len, ga_is, ga_c, ga_kI, ga_kV, ga_kD, ga_up, ga_at, ga_ati, ga_jn, Option.bind_some, List.getElem?_cons_zero, List.getElem?_cons_succ, List.getElem?_set_self', List.getElem?_set_ne, List.set_cons_zero, List.set_cons_succ, List.length_cons, List.length_nil, List.length_set, ne_eq, Nat.add_right_cancel_iff, Nat.add_left_cancel_iff, if_true, if_false, and_self, true_and, and_true, not_false_eq_true, not_true_eq_false, Nat.succ_ne_zero, Nat.reduceEqDiff, Nat.add_eq_left, Nat.left_eq_add, Option.map_eq_map, Option.map_some, Nat.reduceLT, Nat.reduceAdd, Nat.lt_add_one, Function.const_apply, Nat.reduceEqDiff, reduceCtorEq, Nat.zero_lt_succ, ite_true, ite_false, Nat.add_assoc, h]
theorem rL_ms {w : ga_W} {bo lt rd ms gt : Int32} (h : isLh w bo lt rd ms gt) : ga_gi w 5 7 0 = some ms := by
  unfold isLh at h; simp only [ga_gr, ga_gi, ga_get, ga_si, ga_sz, ga_sl, ga_put, ga_ai, ga_az, ga_al, ga_len, ga_is, ga_c, ga_kI, ga_kV, ga_kD, ga_up, ga_at, ga_ati, ga_jn, Option.bind_some, List.getElem?_cons_zero, List.getElem?_cons_succ, List.getElem?_set_self', List.getElem?_set_ne, List.set_cons_zero, List.set_cons_succ, List.length_cons, List.length_nil, List.length_set, ne_eq, Nat.add_right_cancel_iff, Nat.add_left_cancel_iff, if_true, if_false, and_self, true_and, and_true, not_false_eq_true, not_true_eq_false, Nat.succ_ne_zero, Nat.reduceEqDiff, Nat.add_eq_left, Nat.left_eq_add, Option.map_eq_map, Option.map_some, Nat.reduceLT, Nat.reduceAdd, Nat.lt_add_one, Function.const_apply, Nat.reduceEqDiff, reduceCtorEq, Nat.zero_lt_succ, ite_true, ite_false, Nat.add_assoc, h]
theorem rL_gt {w : ga_W} {bo lt rd ms gt : Int32} (h : isLh w bo lt rd ms gt) : ga_gi w 5 8 0 = some gt := by
  unfold isLh at h; simp only [ga_gr, ga_gi, ga_get, ga_si, ga_sz, ga_sl, ga_put, ga_ai, ga_az, ga_al, ga_len, ga_is, ga_c, ga_kI, ga_kV, ga_kD, ga_up, ga_at, ga_ati, ga_jn, Option.bind_some, List.getElem?_cons_zero, List.getElem?_cons_succ, List.getElem?_set_self', List.getElem?_set_ne, List.set_cons_zero, List.set_cons_succ, List.length_cons, List.length_nil, List.length_set, ne_eq, Nat.add_right_cancel_iff, Nat.add_left_cancel_iff, if_true, if_false, and_self, true_and, and_true, not_false_eq_true, not_true_eq_false, Nat.succ_ne_zero, Nat.reduceEqDiff, Nat.add_eq_left, Nat.left_eq_add, Option.map_eq_map, Option.map_some, Nat.reduceLT, Nat.reduceAdd, Nat.lt_add_one, Function.const_apply, Nat.reduceEqDiff, reduceCtorEq, Nat.zero_lt_succ, ite_true, ite_false, Nat.add_assoc, h]
theorem rL_is {w : ga_W} {bo lt rd ms gt : Int32} (h : isLh w bo lt rd ms gt) : ga_is w 5 0 = true := by
  unfold isLh at h; simp [ga_is, h]
theorem zL_bo {w : ga_W} {bo lt rd ms gt x : Int32} (h : isLh w bo lt rd ms gt) : ∃ w', ga_put w 5 4 0 (.int x) = some w' ∧ isLh w' x lt rd ms gt ∧ pu_F w w' 0 1 := by
  unfold isLh at h
  simp only [ga_gr, ga_gi, ga_get, ga_si, ga_sz, ga_sl, ga_put, ga_ai, ga_az, ga_al, ga_len, ga_is, ga_c, ga_kI, ga_kV, ga_kD, ga_up, ga_at, ga_ati, ga_jn, Option.bind_some, List.getElem?_cons_zero, List.getElem?_cons_succ, List.getElem?_set_self', List.getElem?_set_ne, List.set_cons_zero, List.set_cons_succ, List.length_cons, List.length_nil, List.length_set, ne_eq, Nat.add_right_cancel_iff, Nat.add_left_cancel_iff, if_true, if_false, and_self, true_and, and_true, not_false_eq_true, not_true_eq_false, Nat.succ_ne_zero, Nat.reduceEqDiff, Nat.add_eq_left, Nat.left_eq_add, Option.map_eq_map, Option.map_some, Nat.reduceLT, Nat.reduceAdd, Nat.lt_add_one, Function.const_apply, Nat.reduceEqDiff, reduceCtorEq, Nat.zero_lt_succ, ite_true, ite_false, Nat.add_assoc, h]
  exact ⟨_, rfl, by unfold isLh; simp only [ga_gr, ga_gi, ga_get, ga_si, ga_sz, ga_sl, ga_put, ga_ai, ga_az, ga_al, ga_len, ga_is, ga_c, ga_kI, ga_kV, ga_kD, ga_up, ga_at, ga_ati, ga_jn, Option.bind_some, List.getElem?_cons_zero, List.getElem?_cons_succ, List.getElem?_set_self', List.getElem?_set_ne, List.set_cons_zero, List.set_cons_succ, List.length_cons, List.length_nil, List.length_set, ne_eq, Nat.add_right_cancel_iff, Nat.add_left_cancel_iff, if_true, if_false, and_self, true_and, and_true, not_false_eq_true, not_true_eq_false, Nat.succ_ne_zero, Nat.reduceEqDiff, Nat.add_eq_left, Nat.left_eq_add, Option.map_eq_map, Option.map_some, Nat.reduceLT, Nat.reduceAdd, Nat.lt_add_one, Function.const_apply, Nat.reduceEqDiff, reduceCtorEq, Nat.zero_lt_succ, ite_true, ite_false, Nat.add_assoc, h], pu_F1⟩
theorem zL_lt {w : ga_W} {bo lt rd ms gt x : Int32} (h : isLh w bo lt rd ms gt) : ∃ w', ga_put w 5 5 0 (.int x) = some w' ∧ isLh w' bo x rd ms gt ∧ pu_F w w' 0 1 := by
  unfold isLh at h
  simp only [ga_gr, ga_gi, ga_get, ga_si, ga_sz, ga_sl, ga_put, ga_ai, ga_az, ga_al, ga_len, ga_is, ga_c, ga_kI, ga_kV, ga_kD, ga_up, ga_at, ga_ati, ga_jn, Option.bind_some, List.getElem?_cons_zero, List.getElem?_cons_succ, List.getElem?_set_self', List.getElem?_set_ne, List.set_cons_zero, List.set_cons_succ, List.length_cons, List.length_nil, List.length_set, ne_eq, Nat.add_right_cancel_iff, Nat.add_left_cancel_iff, if_true, if_false, and_self, true_and, and_true, not_false_eq_true, not_true_eq_false, Nat.succ_ne_zero, Nat.reduceEqDiff, Nat.add_eq_left, Nat.left_eq_add, Option.map_eq_map, Option.map_some, Nat.reduceLT, Nat.reduceAdd, Nat.lt_add_one, Function.const_apply, Nat.reduceEqDiff, reduceCtorEq, Nat.zero_lt_succ, ite_true, ite_false, Nat.add_assoc, h]
  exact ⟨_, rfl, by unfold isLh; simp only [ga_gr, ga_gi, ga_get, ga_si, ga_sz, ga_sl, ga_put, ga_ai, ga_az, ga_al, ga_len, ga_is, ga_c, ga_kI, ga_kV, ga_kD, ga_up, ga_at, ga_ati, ga_jn, Option.bind_some, List.getElem?_cons_zero, List.getElem?_cons_succ, List.getElem?_set_self', List.getElem?_set_ne, List.set_cons_zero, List.set_cons_succ, List.length_cons, List.length_nil, List.length_set, ne_eq, Nat.add_right_cancel_iff, Nat.add_left_cancel_iff, if_true, if_false, and_self, true_and, and_true, not_false_eq_true, not_true_eq_false, Nat.succ_ne_zero, Nat.reduceEqDiff, Nat.add_eq_left, Nat.left_eq_add, Option.map_eq_map, Option.map_some, Nat.reduceLT, Nat.reduceAdd, Nat.lt_add_one, Function.const_apply, Nat.reduceEqDiff, reduceCtorEq, Nat.zero_lt_succ, ite_true, ite_false, Nat.add_assoc, h], pu_F1⟩
theorem zL_rd {w : ga_W} {bo lt rd ms gt x : Int32} (h : isLh w bo lt rd ms gt) : ∃ w', ga_put w 5 6 0 (.int x) = some w' ∧ isLh w' bo lt x ms gt ∧ pu_F w w' 0 1 := by
  unfold isLh at h
  simp only [ga_gr, ga_gi, ga_get, ga_si, ga_sz, ga_sl, ga_put, ga_ai, ga_az, ga_al, ga_len, ga_is, ga_c, ga_kI, ga_kV, ga_kD, ga_up, ga_at, ga_ati, ga_jn, Option.bind_some, List.getElem?_cons_zero, List.getElem?_cons_succ, List.getElem?_set_self', List.getElem?_set_ne, List.set_cons_zero, List.set_cons_succ, List.length_cons, List.length_nil, List.length_set, ne_eq, Nat.add_right_cancel_iff, Nat.add_left_cancel_iff, if_true, if_false, and_self, true_and, and_true, not_false_eq_true, not_true_eq_false, Nat.succ_ne_zero, Nat.reduceEqDiff, Nat.add_eq_left, Nat.left_eq_add, Option.map_eq_map, Option.map_some, Nat.reduceLT, Nat.reduceAdd, Nat.lt_add_one, Function.const_apply, Nat.reduceEqDiff, reduceCtorEq, Nat.zero_lt_succ, ite_true, ite_false, Nat.add_assoc, h]
  exact ⟨_, rfl, by unfold isLh; simp only [ga_gr, ga_gi, ga_get, ga_si, ga_sz, ga_sl, ga_put, ga_ai, ga_az, ga_al, ga_len, ga_is, ga_c, ga_kI, ga_kV, ga_kD, ga_up, ga_at, ga_ati, ga_jn, Option.bind_some, List.getElem?_cons_zero, List.getElem?_cons_succ, List.getElem?_set_self', List.getElem?_set_ne, List.set_cons_zero, List.set_cons_succ, List.length_cons, List.length_nil, List.length_set, ne_eq, Nat.add_right_cancel_iff, Nat.add_left_cancel_iff, if_true, if_false, and_self, true_and, and_true, not_false_eq_true, not_true_eq_false, Nat.succ_ne_zero, Nat.reduceEqDiff, Nat.add_eq_left, Nat.left_eq_add, Option.map_eq_map, Option.map_some, Nat.reduceLT, Nat.reduceAdd, Nat.lt_add_one, Function.const_apply, Nat.reduceEqDiff, reduceCtorEq, Nat.zero_lt_succ, ite_true, ite_false, Nat.add_assoc, h], pu_F1⟩
theorem zL_ms {w : ga_W} {bo lt rd ms gt x : Int32} (h : isLh w bo lt rd ms gt) : ∃ w', ga_put w 5 7 0 (.int x) = some w' ∧ isLh w' bo lt rd x gt ∧ pu_F w w' 0 1 := by
  unfold isLh at h
  simp only [ga_gr, ga_gi, ga_get, ga_si, ga_sz, ga_sl, ga_put, ga_ai, ga_az, ga_al, ga_len, ga_is, ga_c, ga_kI, ga_kV, ga_kD, ga_up, ga_at, ga_ati, ga_jn, Option.bind_some, List.getElem?_cons_zero, List.getElem?_cons_succ, List.getElem?_set_self', List.getElem?_set_ne, List.set_cons_zero, List.set_cons_succ, List.length_cons, List.length_nil, List.length_set, ne_eq, Nat.add_right_cancel_iff, Nat.add_left_cancel_iff, if_true, if_false, and_self, true_and, and_true, not_false_eq_true, not_true_eq_false, Nat.succ_ne_zero, Nat.reduceEqDiff, Nat.add_eq_left, Nat.left_eq_add, Option.map_eq_map, Option.map_some, Nat.reduceLT, Nat.reduceAdd, Nat.lt_add_one, Function.const_apply, Nat.reduceEqDiff, reduceCtorEq, Nat.zero_lt_succ, ite_true, ite_false, Nat.add_assoc, h]
  exact ⟨_, rfl, by unfold isLh; simp only [ga_gr, ga_gi, ga_get, ga_si, ga_sz, ga_sl, ga_put, ga_ai, ga_az, ga_al, ga_len, ga_is, ga_c, ga_kI, ga_kV, ga_kD, ga_up, ga_at, ga_ati, ga_jn, Option.bind_some, List.getElem?_cons_zero, List.getElem?_cons_succ, List.getElem?_set_self', List.getElem?_set_ne, List.set_cons_zero, List.set_cons_succ, List.length_cons, List.length_nil, List.length_set, ne_eq, Nat.add_right_cancel_iff, Nat.add_left_cancel_iff, if_true, if_false, and_self, true_and, and_true, not_false_eq_true, not_true_eq_false, Nat.succ_ne_zero, Nat.reduceEqDiff, Nat.add_eq_left, Nat.left_eq_add, Option.map_eq_map, Option.map_some, Nat.reduceLT, Nat.reduceAdd, Nat.lt_add_one, Function.const_apply, Nat.reduceEqDiff, reduceCtorEq, Nat.zero_lt_succ, ite_true, ite_false, Nat.add_assoc, h], pu_F1⟩
theorem zL_gt {w : ga_W} {bo lt rd ms gt x : Int32} (h : isLh w bo lt rd ms gt) : ∃ w', ga_put w 5 8 0 (.int x) = some w' ∧ isLh w' bo lt rd ms x ∧ pu_F w w' 0 1 := by
  unfold isLh at h
  simp only [ga_gr, ga_gi, ga_get, ga_si, ga_sz, ga_sl, ga_put, ga_ai, ga_az, ga_al, ga_len, ga_is, ga_c, ga_kI, ga_kV, ga_kD, ga_up, ga_at, ga_ati, ga_jn, Option.bind_some, List.getElem?_cons_zero, List.getElem?_cons_succ, List.getElem?_set_self', List.getElem?_set_ne, List.set_cons_zero, List.set_cons_succ, List.length_cons, List.length_nil, List.length_set, ne_eq, Nat.add_right_cancel_iff, Nat.add_left_cancel_iff, if_true, if_false, and_self, true_and, and_true, not_false_eq_true, not_true_eq_false, Nat.succ_ne_zero, Nat.reduceEqDiff, Nat.add_eq_left, Nat.left_eq_add, Option.map_eq_map, Option.map_some, Nat.reduceLT, Nat.reduceAdd, Nat.lt_add_one, Function.const_apply, Nat.reduceEqDiff, reduceCtorEq, Nat.zero_lt_succ, ite_true, ite_false, Nat.add_assoc, h]
  exact ⟨_, rfl, by unfold isLh; simp only [ga_gr, ga_gi, ga_get, ga_si, ga_sz, ga_sl, ga_put, ga_ai, ga_az, ga_al, ga_len, ga_is, ga_c, ga_kI, ga_kV, ga_kD, ga_up, ga_at, ga_ati, ga_jn, Option.bind_some, List.getElem?_cons_zero, List.getElem?_cons_succ, List.getElem?_set_self', List.getElem?_set_ne, List.set_cons_zero, List.set_cons_succ, List.length_cons, List.length_nil, List.length_set, ne_eq, Nat.add_right_cancel_iff, Nat.add_left_cancel_iff, if_true, if_false, and_self, true_and, and_true, not_false_eq_true, not_true_eq_false, Nat.succ_ne_zero, Nat.reduceEqDiff, Nat.add_eq_left, Nat.left_eq_add, Option.map_eq_map, Option.map_some, Nat.reduceLT, Nat.reduceAdd, Nat.lt_add_one, Function.const_apply, Nat.reduceEqDiff, reduceCtorEq, Nat.zero_lt_succ, ite_true, ite_false, Nat.add_assoc, h], pu_F1⟩
/-- the four snapshots at the place a -/
def isN (w : ga_W) (a : Nat) (sn : Nat → Int32) : Prop := ∃ S : Nat → Int32, w.1[a]? = some (.inl (0, 4, .inl S)) ∧ ∀ i, i < 4 → S i = sn i
theorem isN.fr {w w' : ga_W} {a e k : Nat} {sn : Nat → Int32} (h : isN w a sn) (hf : pu_F w w' e k) (he : a < e ∨ e + k ≤ a) : isN w' a sn := by
  obtain ⟨S, h1, h2⟩ := h
  exact ⟨S, hf.out he h1, h2⟩
theorem rN {w : ga_W} {a i : Nat} {sn : Nat → Int32} (h : isN w a sn) (hi : i < 4) : ga_ai w 0 a (nI i) = some (sn i) := by
  obtain ⟨S, h1, h2⟩ := h
  rw [rA h1 hi (by omega), h2 i hi]
theorem zN_st {w : ga_W} {a i : Nat} {sn : Nat → Int32} {x : Int32} (h : isN w a sn) (hi : i < 4) : ∃ w', ga_si w 0 a (nI i) x = some w' ∧ isN w' a (pu_up sn i x) ∧ pu_F w w' a 1 := by
  obtain ⟨S, h1, h2⟩ := h
  obtain ⟨w', e1, e2, e3⟩ := zA_st (i := i) (x := x) h1 hi (by omega)
  refine ⟨w', e1, ⟨_, e2, fun j hj => ?_⟩, e3⟩
  simp only [upd, pu_up]
  split
  · rfl
  · exact h2 j hj
/-- the class: levels; memory, its records, how many are synced; the batch; snapshots; latest; reads, misses, gets -/
def isL (w : ga_W) (lv : LV) (mem : List Row) (recs : List Nat) (syn : Nat) (bt : Option (List Row)) (sn : Nat → Int32) (lt : Nat) (rd ms gt : Int32) : Prop :=
  isLh w (bI bt.isSome) (nI lt) rd ms gt ∧ isM w mem recs syn ∧ isVs w lv ∧ (∃ pd, isEl w 47 4 pd ∧ ∀ ps, bt = some ps → pd = ps) ∧ isN w 53 sn
/-- what an operation of the class leaves -/
def pu_L (w w' : ga_W) : Prop := w'.1.length = w.1.length ∧ (∀ a, 54 ≤ a → w'.1[a]? = w.1[a]?) ∧ w'.2.1 ≤ w.2.1 + 1 ∧ w'.2.2 ≤ w.2.2 + 6
theorem pu_F.L {w w' : ga_W} {e k : Nat} (h : pu_F w w' e k) (he : e + k ≤ 54) : pu_L w w' := ⟨h.1, fun a ha => h.2.2 a (by omega), by rw [h.2.1]; omega, by rw [h.2.1]; omega⟩
theorem pu_L.rf {w : ga_W} : pu_L w w := ⟨rfl, fun _ _ => rfl, by omega, by omega⟩
/-- with an exception -/
def xw (w : ga_W) : ga_W := (w.1, w.2.1 + 1, w.2.2 + 6)
theorem pu_F.Lx {w w' : ga_W} {e k : Nat} (h : pu_F w w' e k) (he : e + k ≤ 54) : pu_L w (xw w') := ⟨h.1, fun a ha => h.2.2 a (by omega), by simp [xw, h.2.1], by simp [xw, h.2.1]⟩
theorem pu_Lx {w : ga_W} : pu_L w (xw w) := ⟨rfl, fun _ _ => rfl, by simp [xw], by simp [xw]⟩
theorem isL.x {w : ga_W} {lv : LV} {mem : List Row} {recs : List Nat} {syn : Nat} {bt : Option (List Row)} {sn : Nat → Int32} {lt : Nat} {rd ms gt : Int32} (h : isL w lv mem recs syn bt sn lt rd ms gt) : isL (xw w) lv mem recs syn bt sn lt rd ms gt := h
/-- a number within bounds -/
theorem zL_within {F : Nat} {x a b : Int32} {w : ga_W} : f_L_requireWithin F x a b w = if a ≤ x ∧ x ≤ b then some (.inl none, w) else some (.inr 0, xw w) := by
  unfold f_L_requireWithin xw
  by_cases h1 : x < a
  · have : ¬ (a ≤ x ∧ x ≤ b) := fun h => absurd h1 (Int32.not_lt.mpr h.1)
    rw [if_pos h1, if_neg this]
  · by_cases h2 : x ≤ b
    · rw [if_neg h1, if_pos h2, if_pos ⟨Int32.not_lt.mp h1, h2⟩]
    · rw [if_neg h1, if_neg h2, if_neg (fun h => h2 h.2)]
theorem zL_in {F : Nat} {x a b : Int32} {w : ga_W} (h : a ≤ x ∧ x ≤ b) : f_L_requireWithin F x a b w = some (.inl none, w) := by rw [zL_within, if_pos h]
theorem zL_out {F : Nat} {x a b : Int32} {w : ga_W} (h : ¬ (a ≤ x ∧ x ≤ b)) : f_L_requireWithin F x a b w = some (.inr 0, xw w) := by rw [zL_within, if_neg h]
/-! sync, open, snapshot, release -/
theorem zL_sync {F : Nat} {w : ga_W} {lv : LV} {mem : List Row} {recs : List Nat} {syn : Nat} {bt : Option (List Row)} {sn : Nat → Int32} {lt : Nat} {rd ms gt : Int32} (h : isL w lv mem recs syn bt sn lt rd ms gt) :
    ∃ w', f_L_sync F 0 w = some (.inl (some (.int (nI recs.length))), w') ∧ isL w' lv mem recs recs.length bt sn lt rd ms gt ∧ pu_L w w' := by
  obtain ⟨h0, ⟨h1, h1b, h1c⟩, h2, ⟨pd, h3, h4⟩, h5⟩ := h
  have hr := rM_recs h1
  obtain ⟨m1, m2, B, m3, m4⟩ := h1
  have hp : ∃ w', ga_put w 2 3 1 (.int (nI recs.length)) = some w' ∧ w'.1[1]? = some (.inr (2, [.ref 2, .ref 8, .int (nI recs.length), .int (nI recs.length)])) ∧ pu_F w w' 1 1 := by
    simp only [ga_gr, ga_gi, ga_get, ga_si, ga_sz, ga_sl, ga_put, ga_ai, ga_az, ga_al, ga_len, ga_is, ga_c, ga_kI, ga_kV, ga_kD, ga_up, ga_at, ga_ati, ga_jn, Option.bind_some, List.getElem?_cons_zero, List.getElem?_cons_succ, List.getElem?_set_self', List.getElem?_set_ne, List.set_cons_zero, List.set_cons_succ, List.length_cons, List.length_nil, List.length_set, ne_eq, Nat.add_right_cancel_iff, Nat.add_left_cancel_iff, if_true, if_false, and_self, true_and, and_true, not_false_eq_true, not_true_eq_false, Nat.succ_ne_zero, Nat.reduceEqDiff, Nat.add_eq_left, Nat.left_eq_add, Option.map_eq_map, Option.map_some, Nat.reduceLT, Nat.reduceAdd, Nat.lt_add_one, Function.const_apply, Nat.reduceEqDiff, reduceCtorEq, Nat.zero_lt_succ, ite_true, ite_false, Nat.add_assoc, m1]
    exact ⟨_, rfl, by simp only [ga_gr, ga_gi, ga_get, ga_si, ga_sz, ga_sl, ga_put, ga_ai, ga_az, ga_al, ga_len, ga_is, ga_c, ga_kI, ga_kV, ga_kD, ga_up, ga_at, ga_ati, ga_jn, Option.bind_some, List.getElem?_cons_zero, List.getElem?_cons_succ, List.getElem?_set_self', List.getElem?_set_ne, List.set_cons_zero, List.set_cons_succ, List.length_cons, List.length_nil, List.length_set, ne_eq, Nat.add_right_cancel_iff, Nat.add_left_cancel_iff, if_true, if_false, and_self, true_and, and_true, not_false_eq_true, not_true_eq_false, Nat.succ_ne_zero, Nat.reduceEqDiff, Nat.add_eq_left, Nat.left_eq_add, Option.map_eq_map, Option.map_some, Nat.reduceLT, Nat.reduceAdd, Nat.lt_add_one, Function.const_apply, Nat.reduceEqDiff, reduceCtorEq, Nat.zero_lt_succ, ite_true, ite_false, Nat.add_assoc, m1], pu_F1⟩
  obtain ⟨w', e1, e2, e3⟩ := hp
  have hm : isMh w' recs recs.length := ⟨e2, m2, B, e3.out (by omega) m3, m4⟩
  have h0' := h0.fr e3 (by omega)
  refine ⟨w', ?_, ⟨h0', ⟨hm, h1b.fr e3 (by omega), h1c⟩, isV.fr h2 e3 (by omega), ⟨pd, h3.fr e3 (by omega), h4⟩, h5.fr e3 (by omega)⟩, e3.L (by omega)⟩
  unfold f_L_sync
  simp only [↓bd (rL_m h0), ↓bd hr, ↓bd e1, ↓bd (rL_m h0'), ↓bd (rM_syn hm)]
theorem isVs.fr {w w' : ga_W} {s : LV} {e k : Nat} (h : isVs w s) (hf : pu_F w w' e k) (he : 47 ≤ e ∨ e + k ≤ 9) : isVs w' s := isV.fr h hf he
theorem zL_open {F : Nat} {w : ga_W} {lv : LV} {mem : List Row} {recs : List Nat} {syn : Nat} {bt : Option (List Row)} {sn : Nat → Int32} {lt : Nat} {rd ms gt : Int32} (h : isL w lv mem recs syn bt sn lt rd ms gt) :
    (bt = none → ∃ w', f_L_open F 0 w = some (.inl (some (.int (nI lt))), w') ∧ isL w' lv mem recs syn (some []) sn lt rd ms gt ∧ pu_L w w') ∧ (¬ bt = none → f_L_open F 0 w = some (.inr 1, xw w)) := by
  obtain ⟨h0, h1, h2, ⟨pd, h3, h4⟩, h5⟩ := h
  constructor
  · intro hb
    subst hb
    obtain ⟨w1, a1, a2, a3⟩ := zE_clear h3
    have h01 := h0.fr a3 (by omega)
    obtain ⟨w2, b1, b2, b3⟩ := zL_bo (x := 1) h01
    refine ⟨w2, ?_, ⟨b2, (h1.fr a3 (by omega)).fr b3 (by omega), (h2.fr a3 (by omega)).fr b3 (by omega), ⟨[], a2.fr b3 (by omega), fun ps hp => Option.some.inj hp⟩, (h5.fr a3 (by omega)).fr b3 (by omega)⟩, ((a3.mono (e' := 0) (k' := 54) (by omega) (by omega)).tr (b3.mono (by omega) (by omega))).L (by omega)⟩
    have hz : bI (none : Option (List Row)).isSome = 0 := rfl
    unfold f_L_open
    simp only [↓bd (rL_bo h0), ↓ip hz, ↓bd (rL_p h0), ↓bd a1, ↓bd b1, ↓bd (rL_lt b2)]
  · intro hb
    cases bt with
    | none => exact absurd rfl hb
    | some ps =>
      have hz : ¬ bI (some ps).isSome = 0 := by show ¬ bI true = 0; decide
      unfold f_L_open
      simp only [↓bd (rL_bo h0), ↓iN hz]
      rfl
/-- where a free snapshot is -/
def frS (sn : Nat → Int32) : Option Nat := if sn 0 = -1 then some 0 else if sn 1 = -1 then some 1 else if sn 2 = -1 then some 2 else if sn 3 = -1 then some 3 else none
theorem zL_snapshot {F : Nat} {w : ga_W} {lv : LV} {mem : List Row} {recs : List Nat} {syn : Nat} {bt : Option (List Row)} {sn : Nat → Int32} {lt : Nat} {rd ms gt : Int32} (hF : 1000 < F) (h : isL w lv mem recs syn bt sn lt rd ms gt) :
    (∀ i, frS sn = some i → ∃ w', f_L_snapshot F 0 w = some (.inl (some (.int (nI i))), w') ∧ isL w' lv mem recs syn bt (pu_up sn i (nI lt)) lt rd ms gt ∧ pu_L w w') ∧ (frS sn = none → f_L_snapshot F 0 w = some (.inr 1, xw w)) := by
  obtain ⟨h0, h1, h2, ⟨pd, h3, h4⟩, h5⟩ := h
  obtain ⟨G, rfl⟩ : ∃ G, F = G + 5 := ⟨F - 5, by omega⟩
  have c0 : ¬ (4 : Int32) ≤ nI 0 := by decide
  have c1 : ¬ (4 : Int32) ≤ nI 1 := by decide
  have c2 : ¬ (4 : Int32) ≤ nI 2 := by decide
  have c3 : ¬ (4 : Int32) ≤ nI 3 := by decide
  have c4 : (4 : Int32) ≤ nI 4 := by decide
  have st : ∀ (n i : Nat), i < 4 → sn i = -1 → ∃ w', f_L_snapshot_2 (G + 5) 0 (n + 1) (nI i) w = some (.inl (some (.int (nI i))), w') ∧ isL w' lv mem recs syn bt (pu_up sn i (nI lt)) lt rd ms gt ∧ pu_L w w' := by
    intro n i hi hs
    obtain ⟨w1, e1, e2, e3⟩ := zN_st (i := i) (x := nI lt) h5 hi
    refine ⟨w1, ?_, ⟨h0.fr e3 (by omega), h1.fr e3 (by omega), h2.fr e3 (by omega), ⟨pd, h3.fr e3 (by omega), h4⟩, e2⟩, e3.L (by omega)⟩
    have hc : ¬ (4 : Int32) ≤ nI i := by
      have : (4 : Int32) = nI 4 := by decide
      rw [this]; exact nI_ge hi (by omega)
    rw [f_L_snapshot_2]
    simp only [↓iN hc, ↓bd (rL_s h0), ↓bd (rN h5 hi), ↓ip hs, ↓bd (rL_lt h0), ↓bd e1]
  have sk : ∀ (n i : Nat), i < 4 → ¬ sn i = -1 → f_L_snapshot_2 (G + 5) 0 (n + 1) (nI i) w = f_L_snapshot_2 (G + 5) 0 n (nI (i + 1)) w := by
    intro n i hi hs
    have hc : ¬ (4 : Int32) ≤ nI i := by
      have : (4 : Int32) = nI 4 := by decide
      rw [this]; exact nI_ge hi (by omega)
    rw [f_L_snapshot_2]
    simp only [↓iN hc, ↓bd (rL_s h0), ↓bd (rN h5 hi), ↓iN hs]
    rw [nI_1]
  have z0 : (0 : Int32) = nI 0 := by decide
  unfold f_L_snapshot frS
  rw [z0]
  by_cases s0 : sn 0 = -1
  · simp only [s0, if_true]
    exact ⟨fun i hi => by cases hi; exact st _ 0 (by omega) s0, fun h => by cases h⟩
  · rw [if_neg s0, sk _ 0 (by omega) s0]
    by_cases s1 : sn 1 = -1
    · simp only [s1, if_true]
      exact ⟨fun i hi => by cases hi; exact st _ 1 (by omega) s1, fun h => by cases h⟩
    · rw [if_neg s1, sk _ 1 (by omega) s1]
      by_cases s2 : sn 2 = -1
      · simp only [s2, if_true]
        exact ⟨fun i hi => by cases hi; exact st _ 2 (by omega) s2, fun h => by cases h⟩
      · rw [if_neg s2, sk _ 2 (by omega) s2]
        by_cases s3 : sn 3 = -1
        · simp only [s3, if_true]
          exact ⟨fun i hi => by cases hi; exact st _ 3 (by omega) s3, fun h => by cases h⟩
        · rw [if_neg s3, sk _ 3 (by omega) s3]
          refine ⟨fun i hi => (by cases hi), fun _ => ?_⟩
          rw [f_L_snapshot_2]
          simp only [↓ip c4]
          rfl
/-- the number that a snapshot sees -/
def seen (sn : Nat → Int32) (lt : Nat) (x : Int32) : Int32 := if 0 ≤ x then sn x.toNatClampNeg else nI lt
theorem in4 {x : Int32} (h : 0 ≤ x ∧ x ≤ 3) : ∃ i, i < 4 ∧ x = nI i := by
  obtain ⟨j, h1, h2⟩ := nI_of2 (x := x) (M := 3) (n := 3) (by decide) (Int32.not_lt.mpr h.1) h.2
  exact ⟨j, by omega, h2⟩
theorem zL_seen {F : Nat} {w : ga_W} {bo rd ms gt : Int32} {sn : Nat → Int32} {l : Nat} {x : Int32} (h0 : isLh w bo (nI l) rd ms gt) (h5 : isN w 53 sn) :
    f_L_numberSeenBy F 0 x w = if ¬ (-1 ≤ x ∧ x ≤ 3) then some (.inr 0, xw w) else if 0 ≤ x ∧ sn x.toNatClampNeg = -1 then some (.inr 2, xw w) else some (.inl (some (.int (seen sn l x))), w) := by
  unfold f_L_numberSeenBy
  by_cases h : -1 ≤ x ∧ x ≤ 3
  · rw [if_neg (fun h2 => h2 h)]
    simp only [↓gcV (zL_in h)]
    by_cases hx : 0 ≤ x
    · obtain ⟨i, hi, rfl⟩ := in4 ⟨hx, h.2⟩
      have hcl := nI_clamp (n := i) (by omega)
      simp only [↓ip hx, ↓bd (rL_s h0), ↓bd (rN h5 hi)]
      by_cases hs : sn i = -1
      · rw [if_pos hs, if_pos ⟨hx, by rw [hcl]; exact hs⟩]; rfl
      · rw [if_neg hs, if_neg (fun h => hs (by rw [hcl] at h; exact h.2))]
        rw [seen, if_pos hx, hcl]
    · simp only [↓iN hx, ↓bd (rL_lt h0)]
      rw [if_neg (fun h => hx h.1), seen, if_neg hx]
  · rw [if_pos h]
    simp only [↓gcX (zL_out h)]
    rfl
theorem zL_release {F : Nat} {w : ga_W} {lv : LV} {mem : List Row} {recs : List Nat} {syn : Nat} {bt : Option (List Row)} {sn : Nat → Int32} {lt : Nat} {rd ms gt x : Int32} (h : isL w lv mem recs syn bt sn lt rd ms gt) :
    (¬ (0 ≤ x ∧ x ≤ 3) → f_L_release F 0 x w = some (.inr 0, xw w)) ∧ (∀ i, i < 4 → x = nI i → sn i = -1 → f_L_release F 0 x w = some (.inr 2, xw w)) ∧ (∀ i, i < 4 → x = nI i → ¬ sn i = -1 → ∃ w', f_L_release F 0 x w = some (.inl (some (.int (sn i))), w') ∧ isL w' lv mem recs syn bt (pu_up sn i (-1)) lt rd ms gt ∧ pu_L w w') := by
  obtain ⟨h0, h1, h2, ⟨pd, h3, h4⟩, h5⟩ := h
  have hs := zL_seen (F := F) (x := x) h0 h5
  refine ⟨fun hx => ?_, fun i hi hx hsn => ?_, fun i hi hx hsn => ?_⟩
  · unfold f_L_release
    simp only [↓gcX (zL_out hx)]
    rfl
  · have hx0 : 0 ≤ x ∧ x ≤ 3 := by
      subst hx
      exact ⟨nI_pos' (by omega), by rw [show (3 : Int32) = nI 3 by decide]; exact nI_le (by omega) (by omega)⟩
    have hx1 : -1 ≤ x ∧ x ≤ 3 := ⟨Int32.le_trans (by decide) hx0.1, hx0.2⟩
    have hcl : x.toNatClampNeg = i := by rw [hx, nI_clamp (by omega)]
    rw [if_neg (fun h => h hx1), if_pos ⟨hx0.1, by rw [hcl]; exact hsn⟩] at hs
    unfold f_L_release
    simp only [↓gcV (zL_in hx0), ↓ip (rL_is h0), ↓gcX hs]
    rfl
  · have hx0 : 0 ≤ x ∧ x ≤ 3 := by
      subst hx
      exact ⟨nI_pos' (by omega), by rw [show (3 : Int32) = nI 3 by decide]; exact nI_le (by omega) (by omega)⟩
    have hx1 : -1 ≤ x ∧ x ≤ 3 := ⟨Int32.le_trans (by decide) hx0.1, hx0.2⟩
    have hcl : x.toNatClampNeg = i := by rw [hx, nI_clamp (by omega)]
    rw [if_neg (fun h => h hx1), if_neg (fun h => hsn (by rw [hcl] at h; exact h.2)), seen, if_pos hx0.1, hcl] at hs
    obtain ⟨w1, e1, e2, e3⟩ := zN_st (i := i) (x := -1) h5 hi
    refine ⟨w1, ?_, ⟨h0.fr e3 (by omega), h1.fr e3 (by omega), h2.fr e3 (by omega), ⟨pd, h3.fr e3 (by omega), h4⟩, e2⟩, e3.L (by omega)⟩
    unfold f_L_release
    simp only [↓gcV (zL_in hx0), ↓ip (rL_is h0), ↓gcI hs, ↓bd (rL_s h0)]
    rw [hx]
    simp only [↓bd e1]
