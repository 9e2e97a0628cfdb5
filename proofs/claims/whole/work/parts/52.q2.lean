/-! PURE, 2: a shelf is built -/
theorem isSh.rowsTo {w w' : ga_W} {s : Nat} {tabs : List Tab} {loose loose' : List Row} (h : isSh w s tabs loose) (hf : pu_F w w' (s + 1) 6) (he : isEl w' (s + 1) 240 (fl tabs ++ loose')) : isSh w' s tabs loose' := by
  obtain ⟨h1, h2, h3, ⟨N, h4, h5⟩, ⟨M, h6, h7⟩, ⟨B, h8, h9⟩⟩ := h
  exact ⟨hf.out (by omega) h1, h2, he, ⟨N, hf.out (by omega) h4, h5⟩, ⟨M, hf.out (by omega) h6, h7⟩, ⟨B, hf.out (by omega) h8, h9⟩⟩
theorem zS_addFrom {F s e2 cap2 i : Nat} {w : ga_W} {tabs : List Tab} {loose ys : List Row} {r : Row} (h : isSh w s tabs loose) (hn : (fl tabs).length + loose.length < 240) (hy : isEl w e2 cap2 ys) (hr : ys[i]? = some r) (hd : s + 7 ≤ e2 ∨ e2 + 6 ≤ s + 1) :
    ∃ w', f_E_addFrom F (s + 1) e2 (nI i) w = some (.inl none, w') ∧ isSh w' s tabs (loose ++ [r]) ∧ pu_F w w' s 10 := by
  obtain ⟨w', h1, h2, h3⟩ := zE_addFrom (F := F) (rS_e h) (by simpa using hn) hy hr (by omega)
  exact ⟨w', h1, h.rowsTo h3 (by simpa using h2), h3.mono (by omega) (by omega)⟩
theorem zS_clear {F s : Nat} {w : ga_W} {tabs : List Tab} {loose : List Row} (h : isSh w s tabs loose) : ∃ w', f_S_clear F s w = some (.inl none, w') ∧ isSh w' s [] [] ∧ pu_F w w' s 10 := by
  obtain ⟨w1, a1, a2, a3⟩ := zE_clear (rS_e h)
  have hr := rS_rows h
  obtain ⟨h1, h2, h3, ⟨N, h4, h5⟩, ⟨M, h6, h7⟩, ⟨B, h8, h9⟩⟩ := h
  have g1 := a3.out (by omega) h1
  simp only [f_S_clear, hr, a1, Option.bind_some]
  simp only [ga_gr, ga_gi, ga_get, ga_si, ga_sz, ga_sl, ga_put, ga_ai, ga_az, ga_al, ga_len, ga_is, ga_c, ga_kI, ga_kV, ga_kD, ga_up, ga_at, ga_ati, ga_jn, Option.bind_some, List.getElem?_cons_zero, List.getElem?_cons_succ, List.getElem?_set_self', List.getElem?_set_ne, List.set_cons_zero, List.set_cons_succ, List.length_cons, List.length_nil, List.length_set, ne_eq, Nat.add_right_cancel_iff, Nat.add_left_cancel_iff, if_true, if_false, and_self, true_and, and_true, not_false_eq_true, not_true_eq_false, Nat.succ_ne_zero, Nat.reduceEqDiff, Nat.add_eq_left, Nat.left_eq_add, Option.map_eq_map, Option.map_some, Nat.reduceLT, Nat.reduceAdd, Nat.lt_add_one, Function.const_apply, Nat.reduceEqDiff, reduceCtorEq, Nat.zero_lt_succ, ite_true, ite_false, Nat.add_assoc, g1]
  refine ⟨_, rfl, ⟨by simp only [ga_gr, ga_gi, ga_get, ga_si, ga_sz, ga_sl, ga_put, ga_ai, ga_az, ga_al, ga_len, ga_is, ga_c, ga_kI, ga_kV, ga_kD, ga_up, ga_at, ga_ati, ga_jn, Option.bind_some, List.getElem?_cons_zero, List.getElem?_cons_succ, List.getElem?_set_self', List.getElem?_set_ne, List.set_cons_zero, List.set_cons_succ, List.length_cons, List.length_nil, List.length_set, ne_eq, Nat.add_right_cancel_iff, Nat.add_left_cancel_iff, if_true, if_false, and_self, true_and, and_true, not_false_eq_true, not_true_eq_false, Nat.succ_ne_zero, Nat.reduceEqDiff, Nat.add_eq_left, Nat.left_eq_add, Option.map_eq_map, Option.map_some, Nat.reduceLT, Nat.reduceAdd, Nat.lt_add_one, Function.const_apply, Nat.reduceEqDiff, reduceCtorEq, Nat.zero_lt_succ, ite_true, ite_false, Nat.add_assoc, g1]; rw [nI_0], by simp, a2.kept (fun a x y => by rw [List.getElem?_set_ne (by omega)]), ⟨N, ?_, fun i t h => by simp at h⟩, ⟨M, ?_, fun i t h => by simp at h⟩, ⟨B, ?_, fun i hi => ?_⟩⟩, ?_⟩
  · simp only [ga_gr, ga_gi, ga_get, ga_si, ga_sz, ga_sl, ga_put, ga_ai, ga_az, ga_al, ga_len, ga_is, ga_c, ga_kI, ga_kV, ga_kD, ga_up, ga_at, ga_ati, ga_jn, Option.bind_some, List.getElem?_cons_zero, List.getElem?_cons_succ, List.getElem?_set_self', List.getElem?_set_ne, List.set_cons_zero, List.set_cons_succ, List.length_cons, List.length_nil, List.length_set, ne_eq, Nat.add_right_cancel_iff, Nat.add_left_cancel_iff, if_true, if_false, and_self, true_and, and_true, not_false_eq_true, not_true_eq_false, Nat.succ_ne_zero, Nat.reduceEqDiff, Nat.add_eq_left, Nat.left_eq_add, Option.map_eq_map, Option.map_some, Nat.reduceLT, Nat.reduceAdd, Nat.lt_add_one, Function.const_apply, Nat.reduceEqDiff, reduceCtorEq, Nat.zero_lt_succ, ite_true, ite_false, Nat.add_assoc, a3.out (by omega) h4]
  · simp only [ga_gr, ga_gi, ga_get, ga_si, ga_sz, ga_sl, ga_put, ga_ai, ga_az, ga_al, ga_len, ga_is, ga_c, ga_kI, ga_kV, ga_kD, ga_up, ga_at, ga_ati, ga_jn, Option.bind_some, List.getElem?_cons_zero, List.getElem?_cons_succ, List.getElem?_set_self', List.getElem?_set_ne, List.set_cons_zero, List.set_cons_succ, List.length_cons, List.length_nil, List.length_set, ne_eq, Nat.add_right_cancel_iff, Nat.add_left_cancel_iff, if_true, if_false, and_self, true_and, and_true, not_false_eq_true, not_true_eq_false, Nat.succ_ne_zero, Nat.reduceEqDiff, Nat.add_eq_left, Nat.left_eq_add, Option.map_eq_map, Option.map_some, Nat.reduceLT, Nat.reduceAdd, Nat.lt_add_one, Function.const_apply, Nat.reduceEqDiff, reduceCtorEq, Nat.zero_lt_succ, ite_true, ite_false, Nat.add_assoc, a3.out (by omega) h6]
  · simp only [ga_gr, ga_gi, ga_get, ga_si, ga_sz, ga_sl, ga_put, ga_ai, ga_az, ga_al, ga_len, ga_is, ga_c, ga_kI, ga_kV, ga_kD, ga_up, ga_at, ga_ati, ga_jn, Option.bind_some, List.getElem?_cons_zero, List.getElem?_cons_succ, List.getElem?_set_self', List.getElem?_set_ne, List.set_cons_zero, List.set_cons_succ, List.length_cons, List.length_nil, List.length_set, ne_eq, Nat.add_right_cancel_iff, Nat.add_left_cancel_iff, if_true, if_false, and_self, true_and, and_true, not_false_eq_true, not_true_eq_false, Nat.succ_ne_zero, Nat.reduceEqDiff, Nat.add_eq_left, Nat.left_eq_add, Option.map_eq_map, Option.map_some, Nat.reduceLT, Nat.reduceAdd, Nat.lt_add_one, Function.const_apply, Nat.reduceEqDiff, reduceCtorEq, Nat.zero_lt_succ, ite_true, ite_false, Nat.add_assoc, a3.out (by omega) h8]
  · simp only [List.length_nil, Nat.le_zero] at hi
    subst hi
    rw [h9 0 (by omega)]; rfl
  · refine (a3.mono (by omega) (by omega)).tr ⟨by simp only [ga_gr, ga_gi, ga_get, ga_si, ga_sz, ga_sl, ga_put, ga_ai, ga_az, ga_al, ga_len, ga_is, ga_c, ga_kI, ga_kV, ga_kD, ga_up, ga_at, ga_ati, ga_jn, Option.bind_some, List.getElem?_cons_zero, List.getElem?_cons_succ, List.getElem?_set_self', List.getElem?_set_ne, List.set_cons_zero, List.set_cons_succ, List.length_cons, List.length_nil, List.length_set, ne_eq, Nat.add_right_cancel_iff, Nat.add_left_cancel_iff, if_true, if_false, and_self, true_and, and_true, not_false_eq_true, not_true_eq_false, Nat.succ_ne_zero, Nat.reduceEqDiff, Nat.add_eq_left, Nat.left_eq_add, Option.map_eq_map, Option.map_some, Nat.reduceLT, Nat.reduceAdd, Nat.lt_add_one, Function.const_apply, Nat.reduceEqDiff, reduceCtorEq, Nat.zero_lt_succ, ite_true, ite_false, Nat.add_assoc], rfl, fun a ha => ?_⟩
    have : ¬ s = a := by omega
    simp [List.getElem?_set, this]
theorem zS_hasLoose {F s : Nat} {w : ga_W} {tabs : List Tab} {loose : List Row} (h : isSh w s tabs loose) : f_S_hasLooseRows F s w = some (.inl (some (.int (if loose = [] then 0 else 1))), w) := by
  have hb := rS_bd h (i := tabs.length) (Nat.le_refl _)
  rw [List.take_length] at hb
  have hl := (rS_e h).1
  simp only [List.length_append] at hl
  simp only [f_S_hasLooseRows, rS_rows h, rE_size (rS_e h), rS_b h, rS_tables h, hb, Option.bind_some, List.length_append]
  match loose, hl with
  | [], hl => simp
  | r :: rs, hl => 
    have : ¬ nI ((fl tabs).length + (r :: rs).length) ≤ nI (fl tabs).length := nI_ge (by simp) (by omega)
    simp only [this, if_false]; rfl
theorem pu_updf {N : Nat → Int32} {k i : Nat} {x : Int32} : upd N k x i = if i = k then x else N i := rfl
set_option maxHeartbeats 1000000 in
theorem zS_endTable {F s : Nat} {w : ga_W} {tabs : List Tab} {loose : List Row} {num lev : Int32} (h : isSh w s tabs loose) (hn : tabs.length < 240) : ∃ w', f_S_endTable F s num lev w = some (.inl none, w') ∧ isSh w' s (tabs ++ [(num, lev, loose)]) [] ∧ pu_F w w' s 10 := by
  have he := rS_e h
  obtain ⟨h1, h2, h3, ⟨N, h4, h5⟩, ⟨M, h6, h7⟩, ⟨B, h8, h9⟩⟩ := h
  have hsz : ∀ w2 : ga_W, w2.1[s+1]? = w.1[s+1]? → ga_gi w2 0 5 (s+1) = some (nI (fl tabs ++ loose).length) := fun w2 hw => by
    have := rE_size he
    unfold ga_gi ga_get at this ⊢
    rwa [hw]
  have hi := pu_in (n := tabs.length) (cap := 240) hn (by omega)
  have hi2 := pu_in (n := tabs.length + 1) (cap := 241) (by omega) (by omega)
  have hcl := nI_clamp (n := tabs.length) (by omega)
  have hcl2 := nI_clamp (n := tabs.length + 1) (by omega)
  have hss := hsz ((((w.1.set (s + 7) (Sum.inl (0, 240, Sum.inl (upd N tabs.length num)))).set (s + 8) (Sum.inl (0, 240, Sum.inl (upd M tabs.length lev)))).set s (Sum.inr (3, [.ref (s+1), .ref (s+7), .ref (s+8), .ref (s+9), .int (nI (tabs.length + 1))]))), w.2) (by simp only [ga_gr, ga_gi, ga_get, ga_si, ga_sz, ga_sl, ga_put, ga_ai, ga_az, ga_al, ga_len, ga_is, ga_c, ga_kI, ga_kV, ga_kD, ga_up, ga_at, ga_ati, ga_jn, Option.bind_some, List.getElem?_cons_zero, List.getElem?_cons_succ, List.getElem?_set_self', List.getElem?_set_ne, List.set_cons_zero, List.set_cons_succ, List.length_cons, List.length_nil, List.length_set, ne_eq, Nat.add_right_cancel_iff, Nat.add_left_cancel_iff, if_true, if_false, and_self, true_and, and_true, not_false_eq_true, not_true_eq_false, Nat.succ_ne_zero, Nat.reduceEqDiff, Nat.add_eq_left, Nat.left_eq_add, Option.map_eq_map, Option.map_some, Nat.reduceLT, Nat.reduceAdd, Nat.lt_add_one, Function.const_apply, Nat.reduceEqDiff, reduceCtorEq, Nat.zero_lt_succ, ite_true, ite_false, Nat.add_assoc])
  have e0 : f_S_endTable F s num lev w = some (.inl none, ((((w.1.set (s + 7) (Sum.inl (0, 240, Sum.inl (upd N tabs.length num)))).set (s + 8) (Sum.inl (0, 240, Sum.inl (upd M tabs.length lev)))).set s (Sum.inr (3, [.ref (s+1), .ref (s+7), .ref (s+8), .ref (s+9), .int (nI (tabs.length + 1))]))).set (s + 9) (Sum.inl (0, 241, Sum.inl (upd B (tabs.length + 1) (nI (fl tabs ++ loose).length)))), w.2)) := by
    simp only [f_S_endTable, ga_gr, ga_get, ga_gr, ga_gi, ga_get, ga_si, ga_sz, ga_sl, ga_put, ga_ai, ga_az, ga_al, ga_len, ga_is, ga_c, ga_kI, ga_kV, ga_kD, ga_up, ga_at, ga_ati, ga_jn, Option.bind_some, List.getElem?_cons_zero, List.getElem?_cons_succ, List.getElem?_set_self', List.getElem?_set_ne, List.set_cons_zero, List.set_cons_succ, List.length_cons, List.length_nil, List.length_set, ne_eq, Nat.add_right_cancel_iff, Nat.add_left_cancel_iff, if_true, if_false, and_self, true_and, and_true, not_false_eq_true, not_true_eq_false, Nat.succ_ne_zero, Nat.reduceEqDiff, Nat.add_eq_left, Nat.left_eq_add, Option.map_eq_map, Option.map_some, Nat.reduceLT, Nat.reduceAdd, Nat.lt_add_one, Function.const_apply, Nat.reduceEqDiff, reduceCtorEq, Nat.zero_lt_succ, ite_true, ite_false, Nat.add_assoc, h1, h4, h6, h8, hi, hi2, hcl, hcl2, nI_1] at hss ⊢
    rw [hss]; rfl
  refine ⟨_, e0, ⟨?_, by simp; omega, ?_, ⟨upd N tabs.length num, ?_, fun i t ht => ?_⟩, ⟨upd M tabs.length lev, ?_, fun i t ht => ?_⟩, ⟨upd B (tabs.length + 1) (nI (fl tabs ++ loose).length), ?_, fun i hi => ?_⟩⟩, ?_⟩
  · simp only [ga_gr, ga_gi, ga_get, ga_si, ga_sz, ga_sl, ga_put, ga_ai, ga_az, ga_al, ga_len, ga_is, ga_c, ga_kI, ga_kV, ga_kD, ga_up, ga_at, ga_ati, ga_jn, Option.bind_some, List.getElem?_cons_zero, List.getElem?_cons_succ, List.getElem?_set_self', List.getElem?_set_ne, List.set_cons_zero, List.set_cons_succ, List.length_cons, List.length_nil, List.length_set, ne_eq, Nat.add_right_cancel_iff, Nat.add_left_cancel_iff, if_true, if_false, and_self, true_and, and_true, not_false_eq_true, not_true_eq_false, Nat.succ_ne_zero, Nat.reduceEqDiff, Nat.add_eq_left, Nat.left_eq_add, Option.map_eq_map, Option.map_some, Nat.reduceLT, Nat.reduceAdd, Nat.lt_add_one, Function.const_apply, Nat.reduceEqDiff, reduceCtorEq, Nat.zero_lt_succ, ite_true, ite_false, Nat.add_assoc, h1, List.length_append]
  · have : fl (tabs ++ [(num, lev, loose)]) ++ [] = fl tabs ++ loose := by simp [fl_app, fl_cons, fl_nil]
    rw [this]
    exact he.kept (fun a x y => by
      have : ¬ s = a ∧ ¬ s + 7 = a ∧ ¬ s + 8 = a ∧ ¬ s + 9 = a := by omega
      simp [List.getElem?_set, this])
  · simp only [ga_gr, ga_gi, ga_get, ga_si, ga_sz, ga_sl, ga_put, ga_ai, ga_az, ga_al, ga_len, ga_is, ga_c, ga_kI, ga_kV, ga_kD, ga_up, ga_at, ga_ati, ga_jn, Option.bind_some, List.getElem?_cons_zero, List.getElem?_cons_succ, List.getElem?_set_self', List.getElem?_set_ne, List.set_cons_zero, List.set_cons_succ, List.length_cons, List.length_nil, List.length_set, ne_eq, Nat.add_right_cancel_iff, Nat.add_left_cancel_iff, if_true, if_false, and_self, true_and, and_true, not_false_eq_true, not_true_eq_false, Nat.succ_ne_zero, Nat.reduceEqDiff, Nat.add_eq_left, Nat.left_eq_add, Option.map_eq_map, Option.map_some, Nat.reduceLT, Nat.reduceAdd, Nat.lt_add_one, Function.const_apply, Nat.reduceEqDiff, reduceCtorEq, Nat.zero_lt_succ, ite_true, ite_false, Nat.add_assoc, h4]
  · have hl : i < (tabs ++ [(num, lev, loose)]).length := (List.getElem?_eq_some_iff.mp ht).1
    simp only [List.length_append, List.length_cons, List.length_nil] at hl
    by_cases hx : i = tabs.length
    · subst hx; simp at ht; subst ht; simp [pu_updf]
    · rw [List.getElem?_append_left (by omega)] at ht
      simp only [pu_updf, hx, if_false, h5 i t ht]
  · simp only [ga_gr, ga_gi, ga_get, ga_si, ga_sz, ga_sl, ga_put, ga_ai, ga_az, ga_al, ga_len, ga_is, ga_c, ga_kI, ga_kV, ga_kD, ga_up, ga_at, ga_ati, ga_jn, Option.bind_some, List.getElem?_cons_zero, List.getElem?_cons_succ, List.getElem?_set_self', List.getElem?_set_ne, List.set_cons_zero, List.set_cons_succ, List.length_cons, List.length_nil, List.length_set, ne_eq, Nat.add_right_cancel_iff, Nat.add_left_cancel_iff, if_true, if_false, and_self, true_and, and_true, not_false_eq_true, not_true_eq_false, Nat.succ_ne_zero, Nat.reduceEqDiff, Nat.add_eq_left, Nat.left_eq_add, Option.map_eq_map, Option.map_some, Nat.reduceLT, Nat.reduceAdd, Nat.lt_add_one, Function.const_apply, Nat.reduceEqDiff, reduceCtorEq, Nat.zero_lt_succ, ite_true, ite_false, Nat.add_assoc, h6]
  · have hl : i < (tabs ++ [(num, lev, loose)]).length := (List.getElem?_eq_some_iff.mp ht).1
    simp only [List.length_append, List.length_cons, List.length_nil] at hl
    by_cases hx : i = tabs.length
    · subst hx; simp at ht; subst ht; simp [pu_updf]
    · rw [List.getElem?_append_left (by omega)] at ht
      simp only [pu_updf, hx, if_false, h7 i t ht]
  · simp only [ga_gr, ga_gi, ga_get, ga_si, ga_sz, ga_sl, ga_put, ga_ai, ga_az, ga_al, ga_len, ga_is, ga_c, ga_kI, ga_kV, ga_kD, ga_up, ga_at, ga_ati, ga_jn, Option.bind_some, List.getElem?_cons_zero, List.getElem?_cons_succ, List.getElem?_set_self', List.getElem?_set_ne, List.set_cons_zero, List.set_cons_succ, List.length_cons, List.length_nil, List.length_set, ne_eq, Nat.add_right_cancel_iff, Nat.add_left_cancel_iff, if_true, if_false, and_self, true_and, and_true, not_false_eq_true, not_true_eq_false, Nat.succ_ne_zero, Nat.reduceEqDiff, Nat.add_eq_left, Nat.left_eq_add, Option.map_eq_map, Option.map_some, Nat.reduceLT, Nat.reduceAdd, Nat.lt_add_one, Function.const_apply, Nat.reduceEqDiff, reduceCtorEq, Nat.zero_lt_succ, ite_true, ite_false, Nat.add_assoc, h8]
  · simp only [List.length_append, List.length_cons, List.length_nil] at hi
    by_cases hx : i = tabs.length + 1
    · subst hx
      have : (tabs ++ [(num, lev, loose)]).take (tabs.length + 1) = tabs ++ [(num, lev, loose)] := List.take_of_length_le (by simp)
      simp only [pu_updf, if_true, this, fl_app, fl_cons, fl_nil, List.append_nil]
    · simp only [pu_updf, hx, if_false]
      rw [h9 i (by omega), List.take_append_of_le_length (by omega)]
  · refine ⟨by simp only [ga_gr, ga_gi, ga_get, ga_si, ga_sz, ga_sl, ga_put, ga_ai, ga_az, ga_al, ga_len, ga_is, ga_c, ga_kI, ga_kV, ga_kD, ga_up, ga_at, ga_ati, ga_jn, Option.bind_some, List.getElem?_cons_zero, List.getElem?_cons_succ, List.getElem?_set_self', List.getElem?_set_ne, List.set_cons_zero, List.set_cons_succ, List.length_cons, List.length_nil, List.length_set, ne_eq, Nat.add_right_cancel_iff, Nat.add_left_cancel_iff, if_true, if_false, and_self, true_and, and_true, not_false_eq_true, not_true_eq_false, Nat.succ_ne_zero, Nat.reduceEqDiff, Nat.add_eq_left, Nat.left_eq_add, Option.map_eq_map, Option.map_some, Nat.reduceLT, Nat.reduceAdd, Nat.lt_add_one, Function.const_apply, Nat.reduceEqDiff, reduceCtorEq, Nat.zero_lt_succ, ite_true, ite_false, Nat.add_assoc], rfl, fun a ha => ?_⟩
    have : ¬ s = a ∧ ¬ s + 7 = a ∧ ¬ s + 8 = a ∧ ¬ s + 9 = a := by omega
    simp [List.getElem?_set, this]
theorem zS_addTable_loop {F s o : Nat} {pre post : List Tab} {t : Tab} {l2 : List Row} {tabs : List Tab} (hd : s + 10 ≤ o ∨ o + 10 ≤ s) (todo : List Row) :
    ∀ (done : List Row) (w : ga_W) (n : Nat), t.2.2 = done ++ todo → isSh w s tabs done → isSh w o (pre ++ t :: post) l2 → (fl tabs).length + t.2.2.length ≤ 240 → tabs.length < 240 → todo.length < n →
      ∃ w', f_S_addTable_7 F s o (nI pre.length) n (nI ((fl pre).length + done.length)) w = some (.inl none, w') ∧ isSh w' s (tabs ++ [t]) [] ∧ pu_F w w' s 10 := by
  induction todo with
  | nil =>
    intro done w n hdn hs ho hc ht hn
    obtain ⟨n, rfl⟩ : ∃ k, n = k + 1 := ⟨n - 1, by simp at hn; omega⟩
    simp only [List.append_nil] at hdn
    have hi : (pre ++ t :: post)[pre.length]? = some t := by simp
    obtain ⟨w', e1, e2, e3⟩ := zS_endTable (F := F) (num := t.1) (lev := t.2.1) hs ht
    refine ⟨w', ?_, ?_, e3⟩
    · simp only [f_S_addTable_7, rS_b ho, nI_1, rS_b1 ho, hdn, Int32.le_refl, if_true, rS_n ho, rS_num ho hi, rS_l ho, rS_lev ho hi, rS_is hs, e1, Option.bind_some, ga_c, ga_kV]
    · have : t = (t.1, t.2.1, done) := by rw [← hdn]
      rw [this]; exact e2
  | cons r todo ih =>
    intro done w n hdn hs ho hc ht hn
    obtain ⟨n, rfl⟩ : ∃ k, n = k + 1 := ⟨n - 1, by simp at hn; omega⟩
    have hl := rS_len ho
    have hlen : t.2.2.length = done.length + (todo.length + 1) := by rw [hdn]; simp
    have h1 : ¬ nI ((fl pre).length + t.2.2.length) ≤ nI ((fl pre).length + done.length) := nI_ge (by omega) (by omega)
    have hr : (fl pre ++ (t.2.2 ++ (fl post ++ l2)))[(fl pre).length + done.length]? = some r := at3 (by rw [hdn]; simp)
    obtain ⟨w1, e1, e2, e3⟩ := zS_addFrom (F := F) hs (by omega) (rS_e3 ho) hr (by omega)
    have ho1 := ho.fr e3 (by omega)
    obtain ⟨w', e4, e5, e6⟩ := ih (done ++ [r]) w1 n (by simp [hdn]) e2 ho1 hc ht (by simp only [List.length_cons] at hn; omega)
    refine ⟨w', ?_, e5, e3.tr e6⟩
    simp only [f_S_addTable_7, rS_b ho, nI_1, rS_b1 ho, h1, if_false, rS_rows hs, rS_rows ho, rE_is (rS_e hs), if_true, e1, Option.bind_some, ga_c, ga_kV]
    simpa [Nat.add_assoc] using e4
theorem zS_addTable {F s o : Nat} {pre post : List Tab} {t : Tab} {l2 : List Row} {tabs : List Tab} {w : ga_W} (hF : 1000 < F) (hd : s + 10 ≤ o ∨ o + 10 ≤ s) (hs : isSh w s tabs []) (ho : isSh w o (pre ++ t :: post) l2) (hc : (fl tabs).length + t.2.2.length ≤ 240) (ht : tabs.length < 240) :
      ∃ w', f_S_addTable F s o (nI pre.length) w = some (.inl none, w') ∧ isSh w' s (tabs ++ [t]) [] ∧ pu_F w w' s 10 := by
  obtain ⟨w', e1, e2, e3⟩ := zS_addTable_loop (F := F) hd t.2.2 [] w F rfl hs ho hc ht (by omega)
  refine ⟨w', ?_, e2, e3⟩
  simp only [f_S_addTable, rS_b ho, rS_b0 ho, Option.bind_some]
  simpa using e1
