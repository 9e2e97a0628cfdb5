/-! PURE, 4: a block is spoiled; memory -/
def sp1 (r : Row) : Row := (r.1, r.2.1, r.2.2.1, r.2.2.2.1, 1)
theorem zE_sp {e cap : Nat} {xs ys : List Row} {r : Row} {w : ga_W} (h : isEl w e cap (xs ++ r :: ys)) :
    ∃ w', ga_sz w 1 (e + 5) (nI xs.length) 1 = some w' ∧ isEl w' e cap (xs ++ sp1 r :: ys) ∧ pu_F w w' e 6 := by
  obtain ⟨b1, b2, b3, R, ⟨h0, h1, h2, h3, h4, h5⟩, b5⟩ := h
  have hlen : xs.length < cap := by simp at b1; omega
  have hR : R xs.length = r := b5.at (by simp)
  have hi := pu_in hlen (by omega)
  have hcl := nI_clamp (n := xs.length) (by omega)
  have hz : vp_nar .boolean 1 = 1 := rfl
  have p1 : (fun i => (R i).1) = fun i => (pu_up R xs.length (sp1 r) i).1 := by
    funext i; simp only [pu_up]; split
    · subst_vars; rfl
    · rfl
  have p2 : (fun i => (R i).2.1) = fun i => (pu_up R xs.length (sp1 r) i).2.1 := by
    funext i; simp only [pu_up]; split
    · subst_vars; rfl
    · rfl
  have p3 : (fun i => (R i).2.2.1) = fun i => (pu_up R xs.length (sp1 r) i).2.2.1 := by
    funext i; simp only [pu_up]; split
    · subst_vars; rfl
    · rfl
  have p4 : (fun i => (R i).2.2.2.1) = fun i => (pu_up R xs.length (sp1 r) i).2.2.2.1 := by
    funext i; simp only [pu_up]; split
    · subst_vars; rfl
    · rfl
  simp only [ga_gr, ga_gi, ga_get, ga_si, ga_sz, ga_sl, ga_put, ga_ai, ga_az, ga_al, ga_len, ga_is, ga_c, ga_kI, ga_kV, ga_kD, ga_up, ga_at, ga_ati, ga_jn, Option.bind_some, List.getElem?_cons_zero, List.getElem?_cons_succ, List.getElem?_set_self', List.getElem?_set_ne, List.set_cons_zero, List.set_cons_succ, List.length_cons, List.length_nil, List.length_set, ne_eq, Nat.add_right_cancel_iff, Nat.add_left_cancel_iff, if_true, if_false, and_self, true_and, and_true, not_false_eq_true, not_true_eq_false, Nat.succ_ne_zero, Nat.reduceEqDiff, Nat.add_eq_left, Nat.left_eq_add, Option.map_eq_map, Option.map_some, Nat.reduceLT, Nat.reduceAdd, Nat.lt_add_one, Function.const_apply, Nat.reduceEqDiff, reduceCtorEq, Nat.zero_lt_succ, ite_true, ite_false, Nat.add_assoc, h5, hi, hcl, hz]
  refine ⟨_, rfl, ⟨by simpa using b1, b2, fun q hq => ?_, pu_up R xs.length (sp1 r), ?_, fun i hi => ?_⟩, ?_⟩
  · rcases List.mem_append.mp hq with hq | hq
    · exact b3 q (List.mem_append_left _ hq)
    · rcases List.mem_cons.mp hq with rfl | hq
      · exact ⟨(b3 r (by simp)).1, Or.inr rfl⟩
      · exact b3 q (by simp [hq])
  · simp only [isE, ga_gr, ga_gi, ga_get, ga_si, ga_sz, ga_sl, ga_put, ga_ai, ga_az, ga_al, ga_len, ga_is, ga_c, ga_kI, ga_kV, ga_kD, ga_up, ga_at, ga_ati, ga_jn, Option.bind_some, List.getElem?_cons_zero, List.getElem?_cons_succ, List.getElem?_set_self', List.getElem?_set_ne, List.set_cons_zero, List.set_cons_succ, List.length_cons, List.length_nil, List.length_set, ne_eq, Nat.add_right_cancel_iff, Nat.add_left_cancel_iff, if_true, if_false, and_self, true_and, and_true, not_false_eq_true, not_true_eq_false, Nat.succ_ne_zero, Nat.reduceEqDiff, Nat.add_eq_left, Nat.left_eq_add, Option.map_eq_map, Option.map_some, Nat.reduceLT, Nat.reduceAdd, Nat.lt_add_one, Function.const_apply, Nat.reduceEqDiff, reduceCtorEq, Nat.zero_lt_succ, ite_true, ite_false, Nat.add_assoc, h0, h1, h2, h3, h4, h5, List.length_append, p1, p2, p3, p4]
    exact congrArg (fun f => some (Sum.inl (1, cap, Sum.inl f))) (pu_upd (x := sp1 r) (p := fun r => r.2.2.2.2))
  · by_cases hx : i = xs.length
    · subst hx; simp [pu_up]
    · have := b5 i (by simpa using hi)
      simp only [pu_up, hx, if_false]
      rw [← this]
      by_cases hy : i < xs.length
      · rw [List.getElem?_append_left hy, List.getElem?_append_left hy]
      · obtain ⟨k, hk⟩ : ∃ k, i - xs.length = k + 1 := ⟨i - xs.length - 1, by omega⟩
        rw [List.getElem?_append_right (by omega), List.getElem?_append_right (by omega), hk, List.getElem?_cons_succ, List.getElem?_cons_succ]
  · refine ⟨by simp only [ga_gr, ga_gi, ga_get, ga_si, ga_sz, ga_sl, ga_put, ga_ai, ga_az, ga_al, ga_len, ga_is, ga_c, ga_kI, ga_kV, ga_kD, ga_up, ga_at, ga_ati, ga_jn, Option.bind_some, List.getElem?_cons_zero, List.getElem?_cons_succ, List.getElem?_set_self', List.getElem?_set_ne, List.set_cons_zero, List.set_cons_succ, List.length_cons, List.length_nil, List.length_set, ne_eq, Nat.add_right_cancel_iff, Nat.add_left_cancel_iff, if_true, if_false, and_self, true_and, and_true, not_false_eq_true, not_true_eq_false, Nat.succ_ne_zero, Nat.reduceEqDiff, Nat.add_eq_left, Nat.left_eq_add, Option.map_eq_map, Option.map_some, Nat.reduceLT, Nat.reduceAdd, Nat.lt_add_one, Function.const_apply, Nat.reduceEqDiff, reduceCtorEq, Nat.zero_lt_succ, ite_true, ite_false, Nat.add_assoc], rfl, fun a ha => ?_⟩
    have : ¬ e + 5 = a := by omega
    simp [List.getElem?_set, this]
theorem fl_len (xs : List Tab) : (fl xs).length = (xs.map fun t => t.2.2.length).sum := by
  induction xs with
  | nil => rfl
  | cons t ts ih => simp [fl_cons, ih]
theorem isSh.tabTo {w w' : ga_W} {s : Nat} {pre post : List Tab} {t : Tab} {loose rows' : List Row} (h : isSh w s (pre ++ t :: post) loose) (hf : pu_F w w' (s + 1) 6) (hl : rows'.length = t.2.2.length) (he : isEl w' (s + 1) 240 (fl pre ++ (rows' ++ (fl post ++ loose)))) : isSh w' s (pre ++ (t.1, t.2.1, rows') :: post) loose := by
  obtain ⟨h1, h2, h3, ⟨N, h4, h5⟩, ⟨M, h6, h7⟩, ⟨B, h8, h9⟩⟩ := h
  have key : ∀ (i : Nat) (t' : Tab), (pre ++ (t.1, t.2.1, rows') :: post)[i]? = some t' → ∃ t2 : Tab, (pre ++ t :: post)[i]? = some t2 ∧ t2.1 = t'.1 ∧ t2.2.1 = t'.2.1 := by
    intro i t' ht
    by_cases hy : i < pre.length
    · rw [List.getElem?_append_left hy] at ht
      exact ⟨t', by rw [List.getElem?_append_left hy]; exact ht, rfl, rfl⟩
    · rw [List.getElem?_append_right (by omega)] at ht
      by_cases hx : i = pre.length
      · subst hx
        simp at ht
        subst ht
        exact ⟨t, by simp, rfl, rfl⟩
      · obtain ⟨k, hk⟩ : ∃ k, i - pre.length = k + 1 := ⟨i - pre.length - 1, by omega⟩
        rw [hk, List.getElem?_cons_succ] at ht
        exact ⟨t', by rw [List.getElem?_append_right (by omega), hk, List.getElem?_cons_succ]; exact ht, rfl, rfl⟩
  refine ⟨by simpa using hf.out (by omega) h1, by simpa using h2, by simpa [fl_app, fl_cons] using he, ⟨N, hf.out (by omega) h4, fun i t' ht => ?_⟩, ⟨M, hf.out (by omega) h6, fun i t' ht => ?_⟩, ⟨B, hf.out (by omega) h8, fun i hi => ?_⟩⟩
  · obtain ⟨t2, a1, a2, a3⟩ := key i t' ht
    rw [h5 i t2 a1, a2]
  · obtain ⟨t2, a1, a2, a3⟩ := key i t' ht
    rw [h7 i t2 a1, a3]
  · rw [h9 i (by simpa using hi), fl_len, fl_len, List.map_take, List.map_take]
    simp [hl]
theorem zS_spoil_loop {F s : Nat} {pre post : List Tab} {loose : List Row} {num lev : Int32} {C : List Row} {x3 : Int32} (todo : List Row) : ∀ (A : List Row) (w : ga_W) (n : Nat), isSh w s (pre ++ (num, lev, A ++ (todo ++ C)) :: post) loose → todo.length < n →
    ∃ w', f_S_spoilBlock_30 F s x3 (nI ((fl pre).length + A.length + todo.length)) n (nI ((fl pre).length + A.length)) w = some (.inl (some (.int (nI ((fl pre).length + A.length + todo.length) - x3))), w') ∧ isSh w' s (pre ++ (num, lev, A ++ (todo.map sp1 ++ C)) :: post) loose ∧ pu_F w w' s 10 := by
  induction todo with
  | nil =>
    intro A w n h hn
    obtain ⟨n, rfl⟩ : ∃ k, n = k + 1 := ⟨n - 1, by simp at hn; omega⟩
    refine ⟨w, ?_, by simpa using h, pu_F.rf⟩
    simp only [f_S_spoilBlock_30, List.length_nil, Nat.add_zero, Int32.le_refl, if_true]
  | cons r todo ih =>
    intro A w n h hn
    obtain ⟨n, rfl⟩ : ∃ k, n = k + 1 := ⟨n - 1, by simp at hn; omega⟩
    have hl := rS_len h
    simp only [List.length_append, List.length_cons] at hl
    have h1 : ¬ nI ((fl pre).length + A.length + (r :: todo).length) ≤ nI ((fl pre).length + A.length) := nI_ge (by simp) (by simp; omega)
    have he := rS_e3 h
    obtain ⟨w1, e1, e2, e3⟩ := zE_sp (xs := fl pre ++ A) (r := r) (ys := todo ++ (C ++ (fl post ++ loose))) (by simpa using he)
    have h2 := h.tabTo (rows' := A ++ (sp1 r :: todo ++ C)) e3 (by simp) (by simpa using e2)
    obtain ⟨w', e4, e5, e6⟩ := ih (A ++ [sp1 r]) w1 n (by simpa using h2) (by simp only [List.length_cons] at hn; omega)
    refine ⟨w', ?_, by simpa using e5, (e3.mono (by omega) (by omega)).tr e6⟩
    simp only [List.length_append] at e1
    simp only [f_S_spoilBlock_30, h1, if_false, rS_rows h, rE_s (rS_e h), e1, Option.bind_some, nI_1]
    simp only [List.length_append, List.length_cons, List.length_nil, Nat.zero_add] at e4
    have q1 : (fl pre).length + A.length + (todo.length + 1) = (fl pre).length + (A.length + 1) + todo.length := by omega
    have q2 : (fl pre).length + A.length + 1 = (fl pre).length + (A.length + 1) := by omega
    simp only [List.length_cons, q1, q2, e4]
def spR (b : Nat) (rows : List Row) : List Row := rows.take (4 * b) ++ (((rows.drop (4 * b)).take 4).map sp1 ++ rows.drop (4 * b + 4))
theorem zS_spoilBlock {F s b : Nat} {w : ga_W} {pre post : List Tab} {t : Tab} {loose : List Row} (h : isSh w s (pre ++ t :: post) loose) (hF : 1000 < F) (hb : 4 * b < t.2.2.length) :
    ∃ w', f_S_spoilBlock F s (nI pre.length) (nI b) w = some (.inl (some (.int (nI (min 4 (t.2.2.length - 4 * b))))), w') ∧ isSh w' s (pre ++ (t.1, t.2.1, spR b t.2.2) :: post) loose ∧ pu_F w w' s 10 := by
  have hl := rS_len h
  have hs : t = (t.1, t.2.1, t.2.2.take (4 * b) ++ ((t.2.2.drop (4 * b)).take 4 ++ t.2.2.drop (4 * b + 4))) := by
    have : t.2.2.take (4 * b) ++ ((t.2.2.drop (4 * b)).take 4 ++ t.2.2.drop (4 * b + 4)) = t.2.2 := by
      rw [← List.drop_drop, List.take_append_drop, List.take_append_drop]
    rw [this]
  have l1 : (t.2.2.take (4 * b)).length = 4 * b := by simp; omega
  have l2 : ((t.2.2.drop (4 * b)).take 4).length = min 4 (t.2.2.length - 4 * b) := by simp
  obtain ⟨w', e1, e2, e3⟩ := zS_spoil_loop (F := F) (x3 := nI ((fl pre).length + 4 * b)) ((t.2.2.drop (4 * b)).take 4) (t.2.2.take (4 * b)) w F (by rw [← hs]; exact h) (by rw [l2]; omega)
  refine ⟨w', ?_, e2, e3⟩
  rw [l1, l2] at e1
  simp only [f_S_spoilBlock, rS_b h, rS_b0 h, nI_1, rS_b1 h, Option.bind_some, nI_mul4, nI_add, nI_4, Nat.mul_comm b 4]
  have e4 : (if nI ((fl pre).length + t.2.2.length) < nI ((fl pre).length + 4 * b + 4) then nI ((fl pre).length + t.2.2.length) else nI ((fl pre).length + 4 * b + 4)) = nI ((fl pre).length + 4 * b + min 4 (t.2.2.length - 4 * b)) := by
    by_cases hx : (fl pre).length + t.2.2.length < (fl pre).length + 4 * b + 4
    · rw [if_pos (nI_lt hx (by omega))]; congr 1; omega
    · rw [if_neg (nI_nlt (by omega) (by omega))]; congr 1; omega
  rw [e4, e1, nI_sub (by omega), Nat.add_sub_cancel_left]
/-! memory -/
/-- Memory at the place 1: the sizes of its records, how many are synced -/
def isMh (w : ga_W) (recs : List Nat) (syn : Nat) : Prop :=
  w.1[1]? = some (.inr (2, [.ref 2, .ref 8, .int (nI recs.length), .int (nI syn)])) ∧ recs.length ≤ 8 ∧
  ∃ B : Nat → Int32, w.1[8]? = some (.inl (0, 9, .inl B)) ∧ ∀ i, i ≤ recs.length → B i = nI (recs.take i).sum
/-- .. with its rows -/
def isM (w : ga_W) (mem : List Row) (recs : List Nat) (syn : Nat) : Prop := isMh w recs syn ∧ isEl w 2 12 mem ∧ recs.sum = mem.length
theorem isMh.fr {w w' : ga_W} {recs : List Nat} {syn e k : Nat} (h : isMh w recs syn) (hf : pu_F w w' e k) (h1 : 1 < e ∨ e + k ≤ 1) (h8 : 8 < e ∨ e + k ≤ 8) : isMh w' recs syn := by
  obtain ⟨g1, g3, B, g5, g6⟩ := h
  exact ⟨hf.out (by omega) g1, g3, B, hf.out (by omega) g5, g6⟩
theorem isM.fr {w w' : ga_W} {mem : List Row} {recs : List Nat} {syn e k : Nat} (h : isM w mem recs syn) (hf : pu_F w w' e k) (he : 9 ≤ e ∨ e + k ≤ 1) : isM w' mem recs syn := ⟨h.1.fr hf (by omega) (by omega), h.2.1.fr hf (by omega), h.2.2⟩
theorem rM_rows {w : ga_W} {recs : List Nat} {syn : Nat} (h : isMh w recs syn) : ga_gr w 2 0 1 = some 2 := by
  obtain ⟨h1, -⟩ := h
  simp only [ga_gr, ga_gi, ga_get, ga_si, ga_sz, ga_sl, ga_put, ga_ai, ga_az, ga_al, ga_len, ga_is, ga_c, ga_kI, ga_kV, ga_kD, ga_up, ga_at, ga_ati, ga_jn, Option.bind_some, List.getElem?_cons_zero, List.getElem?_cons_succ, List.getElem?_set_self', List.getElem?_set_ne, List.set_cons_zero, List.set_cons_succ, List.length_cons, List.length_nil, List.length_set, ne_eq, Nat.add_right_cancel_iff, Nat.add_left_cancel_iff, if_true, if_false, and_self, true_and, and_true, not_false_eq_true, not_true_eq_false, Nat.succ_ne_zero, Nat.reduceEqDiff, Nat.add_eq_left, Nat.left_eq_add, Option.map_eq_map, Option.map_some, Nat.reduceLT, Nat.reduceAdd, Nat.lt_add_one, Function.const_apply, Nat.reduceEqDiff, reduceCtorEq, Nat.zero_lt_succ, ite_true, ite_false, Nat.add_assoc, h1]
theorem rM_ends {w : ga_W} {recs : List Nat} {syn : Nat} (h : isMh w recs syn) : ga_gr w 2 1 1 = some 8 := by
  obtain ⟨h1, -⟩ := h
  simp only [ga_gr, ga_gi, ga_get, ga_si, ga_sz, ga_sl, ga_put, ga_ai, ga_az, ga_al, ga_len, ga_is, ga_c, ga_kI, ga_kV, ga_kD, ga_up, ga_at, ga_ati, ga_jn, Option.bind_some, List.getElem?_cons_zero, List.getElem?_cons_succ, List.getElem?_set_self', List.getElem?_set_ne, List.set_cons_zero, List.set_cons_succ, List.length_cons, List.length_nil, List.length_set, ne_eq, Nat.add_right_cancel_iff, Nat.add_left_cancel_iff, if_true, if_false, and_self, true_and, and_true, not_false_eq_true, not_true_eq_false, Nat.succ_ne_zero, Nat.reduceEqDiff, Nat.add_eq_left, Nat.left_eq_add, Option.map_eq_map, Option.map_some, Nat.reduceLT, Nat.reduceAdd, Nat.lt_add_one, Function.const_apply, Nat.reduceEqDiff, reduceCtorEq, Nat.zero_lt_succ, ite_true, ite_false, Nat.add_assoc, h1]
theorem rM_recs {w : ga_W} {recs : List Nat} {syn : Nat} (h : isMh w recs syn) : ga_gi w 2 2 1 = some (nI recs.length) := by
  obtain ⟨h1, -⟩ := h
  simp only [ga_gr, ga_gi, ga_get, ga_si, ga_sz, ga_sl, ga_put, ga_ai, ga_az, ga_al, ga_len, ga_is, ga_c, ga_kI, ga_kV, ga_kD, ga_up, ga_at, ga_ati, ga_jn, Option.bind_some, List.getElem?_cons_zero, List.getElem?_cons_succ, List.getElem?_set_self', List.getElem?_set_ne, List.set_cons_zero, List.set_cons_succ, List.length_cons, List.length_nil, List.length_set, ne_eq, Nat.add_right_cancel_iff, Nat.add_left_cancel_iff, if_true, if_false, and_self, true_and, and_true, not_false_eq_true, not_true_eq_false, Nat.succ_ne_zero, Nat.reduceEqDiff, Nat.add_eq_left, Nat.left_eq_add, Option.map_eq_map, Option.map_some, Nat.reduceLT, Nat.reduceAdd, Nat.lt_add_one, Function.const_apply, Nat.reduceEqDiff, reduceCtorEq, Nat.zero_lt_succ, ite_true, ite_false, Nat.add_assoc, h1]
theorem rM_syn {w : ga_W} {recs : List Nat} {syn : Nat} (h : isMh w recs syn) : ga_gi w 2 3 1 = some (nI syn) := by
  obtain ⟨h1, -⟩ := h
  simp only [ga_gr, ga_gi, ga_get, ga_si, ga_sz, ga_sl, ga_put, ga_ai, ga_az, ga_al, ga_len, ga_is, ga_c, ga_kI, ga_kV, ga_kD, ga_up, ga_at, ga_ati, ga_jn, Option.bind_some, List.getElem?_cons_zero, List.getElem?_cons_succ, List.getElem?_set_self', List.getElem?_set_ne, List.set_cons_zero, List.set_cons_succ, List.length_cons, List.length_nil, List.length_set, ne_eq, Nat.add_right_cancel_iff, Nat.add_left_cancel_iff, if_true, if_false, and_self, true_and, and_true, not_false_eq_true, not_true_eq_false, Nat.succ_ne_zero, Nat.reduceEqDiff, Nat.add_eq_left, Nat.left_eq_add, Option.map_eq_map, Option.map_some, Nat.reduceLT, Nat.reduceAdd, Nat.lt_add_one, Function.const_apply, Nat.reduceEqDiff, reduceCtorEq, Nat.zero_lt_succ, ite_true, ite_false, Nat.add_assoc, h1]
theorem rM_is {w : ga_W} {recs : List Nat} {syn : Nat} (h : isMh w recs syn) : ga_is w 2 1 = true := by
  obtain ⟨h1, -⟩ := h
  simp [ga_is, h1]
theorem rM_end {w : ga_W} {recs : List Nat} {syn i : Nat} (h : isMh w recs syn) (hi : i ≤ recs.length) : ga_ai w 0 8 (nI i) = some (nI (recs.take i).sum) := by
  obtain ⟨h1, h2, B, h3, h4⟩ := h
  simp only [ga_gr, ga_gi, ga_get, ga_si, ga_sz, ga_sl, ga_put, ga_ai, ga_az, ga_al, ga_len, ga_is, ga_c, ga_kI, ga_kV, ga_kD, ga_up, ga_at, ga_ati, ga_jn, Option.bind_some, List.getElem?_cons_zero, List.getElem?_cons_succ, List.getElem?_set_self', List.getElem?_set_ne, List.set_cons_zero, List.set_cons_succ, List.length_cons, List.length_nil, List.length_set, ne_eq, Nat.add_right_cancel_iff, Nat.add_left_cancel_iff, if_true, if_false, and_self, true_and, and_true, not_false_eq_true, not_true_eq_false, Nat.succ_ne_zero, Nat.reduceEqDiff, Nat.add_eq_left, Nat.left_eq_add, Option.map_eq_map, Option.map_some, Nat.reduceLT, Nat.reduceAdd, Nat.lt_add_one, Function.const_apply, Nat.reduceEqDiff, reduceCtorEq, Nat.zero_lt_succ, ite_true, ite_false, Nat.add_assoc, h3, nI_clamp (n := i) (by omega), pu_in (n := i) (cap := 9) (by omega) (by omega), h4 i hi]
theorem zM_clear {F : Nat} {w : ga_W} {mem : List Row} {recs : List Nat} {syn : Nat} (h : isM w mem recs syn) : ∃ w', f_M_clear F 1 w = some (.inl none, w') ∧ isM w' [] [] 0 ∧ pu_F w w' 1 8 := by
  obtain ⟨hh, h2, h4⟩ := h
  have hr := rM_rows hh
  obtain ⟨h1, h3, B, h5, h6⟩ := hh
  obtain ⟨w1, a1, a2, a3⟩ := zE_clear h2
  have g1 := a3.out (a := 1) (by omega) h1
  simp only [f_M_clear, hr, a1, Option.bind_some]
  simp only [ga_gr, ga_gi, ga_get, ga_si, ga_sz, ga_sl, ga_put, ga_ai, ga_az, ga_al, ga_len, ga_is, ga_c, ga_kI, ga_kV, ga_kD, ga_up, ga_at, ga_ati, ga_jn, Option.bind_some, List.getElem?_cons_zero, List.getElem?_cons_succ, List.getElem?_set_self', List.getElem?_set_ne, List.set_cons_zero, List.set_cons_succ, List.length_cons, List.length_nil, List.length_set, ne_eq, Nat.add_right_cancel_iff, Nat.add_left_cancel_iff, if_true, if_false, and_self, true_and, and_true, not_false_eq_true, not_true_eq_false, Nat.succ_ne_zero, Nat.reduceEqDiff, Nat.add_eq_left, Nat.left_eq_add, Option.map_eq_map, Option.map_some, Nat.reduceLT, Nat.reduceAdd, Nat.lt_add_one, Function.const_apply, Nat.reduceEqDiff, reduceCtorEq, Nat.zero_lt_succ, ite_true, ite_false, Nat.add_assoc, g1]
  refine ⟨_, rfl, ⟨⟨by simp only [ga_gr, ga_gi, ga_get, ga_si, ga_sz, ga_sl, ga_put, ga_ai, ga_az, ga_al, ga_len, ga_is, ga_c, ga_kI, ga_kV, ga_kD, ga_up, ga_at, ga_ati, ga_jn, Option.bind_some, List.getElem?_cons_zero, List.getElem?_cons_succ, List.getElem?_set_self', List.getElem?_set_ne, List.set_cons_zero, List.set_cons_succ, List.length_cons, List.length_nil, List.length_set, ne_eq, Nat.add_right_cancel_iff, Nat.add_left_cancel_iff, if_true, if_false, and_self, true_and, and_true, not_false_eq_true, not_true_eq_false, Nat.succ_ne_zero, Nat.reduceEqDiff, Nat.add_eq_left, Nat.left_eq_add, Option.map_eq_map, Option.map_some, Nat.reduceLT, Nat.reduceAdd, Nat.lt_add_one, Function.const_apply, Nat.reduceEqDiff, reduceCtorEq, Nat.zero_lt_succ, ite_true, ite_false, Nat.add_assoc, g1]; rw [nI_0], by simp, B, ?_, fun i hi => ?_⟩, a2.kept (fun a x y => by rw [List.getElem?_set_ne (by omega), List.getElem?_set_ne (by omega)]), rfl⟩, ?_⟩
  · simp only [ga_gr, ga_gi, ga_get, ga_si, ga_sz, ga_sl, ga_put, ga_ai, ga_az, ga_al, ga_len, ga_is, ga_c, ga_kI, ga_kV, ga_kD, ga_up, ga_at, ga_ati, ga_jn, Option.bind_some, List.getElem?_cons_zero, List.getElem?_cons_succ, List.getElem?_set_self', List.getElem?_set_ne, List.set_cons_zero, List.set_cons_succ, List.length_cons, List.length_nil, List.length_set, ne_eq, Nat.add_right_cancel_iff, Nat.add_left_cancel_iff, if_true, if_false, and_self, true_and, and_true, not_false_eq_true, not_true_eq_false, Nat.succ_ne_zero, Nat.reduceEqDiff, Nat.add_eq_left, Nat.left_eq_add, Option.map_eq_map, Option.map_some, Nat.reduceLT, Nat.reduceAdd, Nat.lt_add_one, Function.const_apply, Nat.reduceEqDiff, reduceCtorEq, Nat.zero_lt_succ, ite_true, ite_false, Nat.add_assoc, a3.out (a := 8) (by omega) h5]
  · simp only [List.length_nil, Nat.le_zero] at hi
    subst hi
    rw [h6 0 (by omega)]; rfl
  · refine (a3.mono (by omega) (by omega)).tr ⟨by simp only [ga_gr, ga_gi, ga_get, ga_si, ga_sz, ga_sl, ga_put, ga_ai, ga_az, ga_al, ga_len, ga_is, ga_c, ga_kI, ga_kV, ga_kD, ga_up, ga_at, ga_ati, ga_jn, Option.bind_some, List.getElem?_cons_zero, List.getElem?_cons_succ, List.getElem?_set_self', List.getElem?_set_ne, List.set_cons_zero, List.set_cons_succ, List.length_cons, List.length_nil, List.length_set, ne_eq, Nat.add_right_cancel_iff, Nat.add_left_cancel_iff, if_true, if_false, and_self, true_and, and_true, not_false_eq_true, not_true_eq_false, Nat.succ_ne_zero, Nat.reduceEqDiff, Nat.add_eq_left, Nat.left_eq_add, Option.map_eq_map, Option.map_some, Nat.reduceLT, Nat.reduceAdd, Nat.lt_add_one, Function.const_apply, Nat.reduceEqDiff, reduceCtorEq, Nat.zero_lt_succ, ite_true, ite_false, Nat.add_assoc], rfl, fun a ha => ?_⟩
    have : ¬ 1 = a := by omega
    simp [List.getElem?_set, this]
/-- a record of the pending rows -/
def recd (lt i : Nat) : List Row → List Row
  | [] => []
  | r :: rs => (r.1, nI (lt + 1 + i), r.2.2.1, r.2.2.2.1, 0) :: recd lt (i + 1) rs
theorem recd_len (lt : Nat) (xs : List Row) : ∀ i, (recd lt i xs).length = xs.length := by
  induction xs with
  | nil => intro i; rfl
  | cons r rs ih => intro i; simp [recd, ih]
theorem zM_add_loop {F lt x1 cap2 : Nat} {recs : List Nat} {syn : Nat} {K : ga_W → ga_O} (hx : 9 ≤ x1) (todo : List Row) : ∀ (done mem : List Row) (w : ga_W) (n : Nat), isMh w recs syn → isEl w 2 12 mem → isEl w x1 cap2 (done ++ todo) → mem.length + todo.length ≤ 12 → todo.length < n →
    ∃ w1, f_M_addRecord_2 F 1 x1 (nI lt) K n (nI done.length) w = K w1 ∧ isEl w1 2 12 (mem ++ recd lt done.length todo) ∧ pu_F w w1 2 6 := by
  induction todo with
  | nil =>
    intro done mem w n hm he hp hc hn
    obtain ⟨n, rfl⟩ : ∃ k, n = k + 1 := ⟨n - 1, by simp at hn; omega⟩
    simp only [List.append_nil] at hp
    refine ⟨w, ?_, by simpa [recd] using he, pu_F.rf⟩
    simp only [f_M_addRecord_2, rE_size hp, Option.bind_some, Int32.le_refl, if_true]
  | cons r todo ih =>
    intro done mem w n hm he hp hc hn
    obtain ⟨n, rfl⟩ : ∃ k, n = k + 1 := ⟨n - 1, by simp at hn; omega⟩
    have hl := hp.1
    have hl2 := hp.2.1
    simp only [List.length_append, List.length_cons] at hl hc hn
    have h1 : ¬ nI (done ++ r :: todo).length ≤ nI done.length := nI_ge (by simp) (by simp; omega)
    have hr : (done ++ r :: todo)[done.length]? = some r := by simp
    have hok := hp.2.2.1 r (by simp)
    obtain ⟨w1, e1, e2, e3⟩ := zE_add (F := F) (k := r.1) (nu := nI (lt + 1 + done.length)) (v := r.2.2.1) (g := r.2.2.2.1) he (by omega) hok.1
    obtain ⟨w2, e4, e5, e6⟩ := ih (done ++ [r]) _ w1 n (hm.fr e3 (by omega) (by omega)) e2 (by simpa using hp.fr e3 (by omega)) (by simp; omega) (by omega)
    refine ⟨w2, ?_, by simpa [recd] using e5, e3.tr e6⟩
    simp only [f_M_addRecord_2, rE_size hp, rM_rows hm, rE_k hp, rE_key hp hr, rE_v hp, rE_val hp hr, rE_g hp, rE_gone hp hr, rE_is he, Option.bind_some, h1, if_false, if_true, nI_1, nI_add, e1, ga_c, ga_kV]
    simpa using e4
theorem zM_addRecord {F lt x1 cap2 : Nat} {recs : List Nat} {syn : Nat} {mem pend : List Row} {w : ga_W} (hF : 1000 < F) (hx : 9 ≤ x1) (h : isM w mem recs syn) (hp : isEl w x1 cap2 pend) (hc : mem.length + pend.length ≤ 12) (hr8 : recs.length < 8) :
    ∃ w1, f_M_addRecord F 1 x1 (nI lt) w = some (.inl none, w1) ∧ isM w1 (mem ++ recd lt 0 pend) (recs ++ [pend.length]) syn ∧ pu_F w w1 1 8 := by
  obtain ⟨hh, he, hsum⟩ := h
  have hp2 := hp.2.1
  have hp1 := hp.1
  unfold f_M_addRecord
  obtain ⟨w1, e1, e2, e3⟩ := zM_add_loop (F := F) (lt := lt) (K := (fun (w1 : ga_W) => ((ga_gi w1 2 2 1).bind fun v2 => ((ga_put w1 2 2 1 (.int (v2 + (1 : Int32)))).bind fun w3 => ((ga_gr w3 2 1 1).bind fun r4 => ((ga_gi w3 2 2 1).bind fun v5 => ((ga_gr w3 2 0 1).bind fun r6 => ((ga_gi w3 0 5 r6).bind fun v7 => ((ga_si w3 0 r4 v5 v7).bind fun w8 => (some (.inl none, w8)))))))))) ) hx pend [] mem w F hh he hp hc (by omega)
  rw [List.length_nil, nI_0] at e1
  rw [e1]
  have hh1 := hh.fr e3 (by omega) (by omega)
  obtain ⟨g1, g2, B, g3, g4⟩ := hh1
  obtain ⟨c1, c2, c3, R, ⟨d0, d1, d2, d3, d4, d5⟩, c5⟩ := e2
  have hi := pu_in (n := recs.length + 1) (cap := 9) (by omega) (by omega)
  have hcl := nI_clamp (n := recs.length + 1) (by omega)
  simp only [List.length_nil] at d0
  simp only [ga_gr, ga_gi, ga_get, ga_si, ga_sz, ga_sl, ga_put, ga_ai, ga_az, ga_al, ga_len, ga_is, ga_c, ga_kI, ga_kV, ga_kD, ga_up, ga_at, ga_ati, ga_jn, Option.bind_some, List.getElem?_cons_zero, List.getElem?_cons_succ, List.getElem?_set_self', List.getElem?_set_ne, List.set_cons_zero, List.set_cons_succ, List.length_cons, List.length_nil, List.length_set, ne_eq, Nat.add_right_cancel_iff, Nat.add_left_cancel_iff, if_true, if_false, and_self, true_and, and_true, not_false_eq_true, not_true_eq_false, Nat.succ_ne_zero, Nat.reduceEqDiff, Nat.add_eq_left, Nat.left_eq_add, Option.map_eq_map, Option.map_some, Nat.reduceLT, Nat.reduceAdd, Nat.lt_add_one, Function.const_apply, Nat.reduceEqDiff, reduceCtorEq, Nat.zero_lt_succ, ite_true, ite_false, Nat.add_assoc, g1, g3, nI_1, hi, hcl, d0]
  refine ⟨_, rfl, ⟨⟨by simp only [ga_gr, ga_gi, ga_get, ga_si, ga_sz, ga_sl, ga_put, ga_ai, ga_az, ga_al, ga_len, ga_is, ga_c, ga_kI, ga_kV, ga_kD, ga_up, ga_at, ga_ati, ga_jn, Option.bind_some, List.getElem?_cons_zero, List.getElem?_cons_succ, List.getElem?_set_self', List.getElem?_set_ne, List.set_cons_zero, List.set_cons_succ, List.length_cons, List.length_nil, List.length_set, ne_eq, Nat.add_right_cancel_iff, Nat.add_left_cancel_iff, if_true, if_false, and_self, true_and, and_true, not_false_eq_true, not_true_eq_false, Nat.succ_ne_zero, Nat.reduceEqDiff, Nat.add_eq_left, Nat.left_eq_add, Option.map_eq_map, Option.map_some, Nat.reduceLT, Nat.reduceAdd, Nat.lt_add_one, Function.const_apply, Nat.reduceEqDiff, reduceCtorEq, Nat.zero_lt_succ, ite_true, ite_false, Nat.add_assoc, g1, List.length_append], by simp; omega, upd B (recs.length + 1) (nI (mem ++ recd lt 0 pend).length), ?_, fun i hi => ?_⟩, ⟨c1, c2, c3, R, ⟨?_, ?_, ?_, ?_, ?_, ?_⟩, c5⟩, by simp [hsum, recd_len]⟩, ?_⟩
  · simp only [ga_gr, ga_gi, ga_get, ga_si, ga_sz, ga_sl, ga_put, ga_ai, ga_az, ga_al, ga_len, ga_is, ga_c, ga_kI, ga_kV, ga_kD, ga_up, ga_at, ga_ati, ga_jn, Option.bind_some, List.getElem?_cons_zero, List.getElem?_cons_succ, List.getElem?_set_self', List.getElem?_set_ne, List.set_cons_zero, List.set_cons_succ, List.length_cons, List.length_nil, List.length_set, ne_eq, Nat.add_right_cancel_iff, Nat.add_left_cancel_iff, if_true, if_false, and_self, true_and, and_true, not_false_eq_true, not_true_eq_false, Nat.succ_ne_zero, Nat.reduceEqDiff, Nat.add_eq_left, Nat.left_eq_add, Option.map_eq_map, Option.map_some, Nat.reduceLT, Nat.reduceAdd, Nat.lt_add_one, Function.const_apply, Nat.reduceEqDiff, reduceCtorEq, Nat.zero_lt_succ, ite_true, ite_false, Nat.add_assoc, g3, List.length_nil]
  · simp only [List.length_append, List.length_cons, List.length_nil] at hi
    by_cases hx : i = recs.length + 1
    · subst hx
      have : (recs ++ [pend.length]).take (recs.length + 1) = recs ++ [pend.length] := List.take_of_length_le (by simp)
      simp [pu_updf, this, hsum, recd_len]
    · simp only [pu_updf, hx, if_false]
      rw [g4 i (by omega), List.take_append_of_le_length (by omega)]
  · simp only [ga_gr, ga_gi, ga_get, ga_si, ga_sz, ga_sl, ga_put, ga_ai, ga_az, ga_al, ga_len, ga_is, ga_c, ga_kI, ga_kV, ga_kD, ga_up, ga_at, ga_ati, ga_jn, Option.bind_some, List.getElem?_cons_zero, List.getElem?_cons_succ, List.getElem?_set_self', List.getElem?_set_ne, List.set_cons_zero, List.set_cons_succ, List.length_cons, List.length_nil, List.length_set, ne_eq, Nat.add_right_cancel_iff, Nat.add_left_cancel_iff, if_true, if_false, and_self, true_and, and_true, not_false_eq_true, not_true_eq_false, Nat.succ_ne_zero, Nat.reduceEqDiff, Nat.add_eq_left, Nat.left_eq_add, Option.map_eq_map, Option.map_some, Nat.reduceLT, Nat.reduceAdd, Nat.lt_add_one, Function.const_apply, Nat.reduceEqDiff, reduceCtorEq, Nat.zero_lt_succ, ite_true, ite_false, Nat.add_assoc, d0, List.length_nil]
  · simp only [ga_gr, ga_gi, ga_get, ga_si, ga_sz, ga_sl, ga_put, ga_ai, ga_az, ga_al, ga_len, ga_is, ga_c, ga_kI, ga_kV, ga_kD, ga_up, ga_at, ga_ati, ga_jn, Option.bind_some, List.getElem?_cons_zero, List.getElem?_cons_succ, List.getElem?_set_self', List.getElem?_set_ne, List.set_cons_zero, List.set_cons_succ, List.length_cons, List.length_nil, List.length_set, ne_eq, Nat.add_right_cancel_iff, Nat.add_left_cancel_iff, if_true, if_false, and_self, true_and, and_true, not_false_eq_true, not_true_eq_false, Nat.succ_ne_zero, Nat.reduceEqDiff, Nat.add_eq_left, Nat.left_eq_add, Option.map_eq_map, Option.map_some, Nat.reduceLT, Nat.reduceAdd, Nat.lt_add_one, Function.const_apply, Nat.reduceEqDiff, reduceCtorEq, Nat.zero_lt_succ, ite_true, ite_false, Nat.add_assoc, d1]
  · simp only [ga_gr, ga_gi, ga_get, ga_si, ga_sz, ga_sl, ga_put, ga_ai, ga_az, ga_al, ga_len, ga_is, ga_c, ga_kI, ga_kV, ga_kD, ga_up, ga_at, ga_ati, ga_jn, Option.bind_some, List.getElem?_cons_zero, List.getElem?_cons_succ, List.getElem?_set_self', List.getElem?_set_ne, List.set_cons_zero, List.set_cons_succ, List.length_cons, List.length_nil, List.length_set, ne_eq, Nat.add_right_cancel_iff, Nat.add_left_cancel_iff, if_true, if_false, and_self, true_and, and_true, not_false_eq_true, not_true_eq_false, Nat.succ_ne_zero, Nat.reduceEqDiff, Nat.add_eq_left, Nat.left_eq_add, Option.map_eq_map, Option.map_some, Nat.reduceLT, Nat.reduceAdd, Nat.lt_add_one, Function.const_apply, Nat.reduceEqDiff, reduceCtorEq, Nat.zero_lt_succ, ite_true, ite_false, Nat.add_assoc, d2]
  · simp only [ga_gr, ga_gi, ga_get, ga_si, ga_sz, ga_sl, ga_put, ga_ai, ga_az, ga_al, ga_len, ga_is, ga_c, ga_kI, ga_kV, ga_kD, ga_up, ga_at, ga_ati, ga_jn, Option.bind_some, List.getElem?_cons_zero, List.getElem?_cons_succ, List.getElem?_set_self', List.getElem?_set_ne, List.set_cons_zero, List.set_cons_succ, List.length_cons, List.length_nil, List.length_set, ne_eq, Nat.add_right_cancel_iff, Nat.add_left_cancel_iff, if_true, if_false, and_self, true_and, and_true, not_false_eq_true, not_true_eq_false, Nat.succ_ne_zero, Nat.reduceEqDiff, Nat.add_eq_left, Nat.left_eq_add, Option.map_eq_map, Option.map_some, Nat.reduceLT, Nat.reduceAdd, Nat.lt_add_one, Function.const_apply, Nat.reduceEqDiff, reduceCtorEq, Nat.zero_lt_succ, ite_true, ite_false, Nat.add_assoc, d3]
  · simp only [ga_gr, ga_gi, ga_get, ga_si, ga_sz, ga_sl, ga_put, ga_ai, ga_az, ga_al, ga_len, ga_is, ga_c, ga_kI, ga_kV, ga_kD, ga_up, ga_at, ga_ati, ga_jn, Option.bind_some, List.getElem?_cons_zero, List.getElem?_cons_succ, List.getElem?_set_self', List.getElem?_set_ne, List.set_cons_zero, List.set_cons_succ, List.length_cons, List.length_nil, List.length_set, ne_eq, Nat.add_right_cancel_iff, Nat.add_left_cancel_iff, if_true, if_false, and_self, true_and, and_true, not_false_eq_true, not_true_eq_false, Nat.succ_ne_zero, Nat.reduceEqDiff, Nat.add_eq_left, Nat.left_eq_add, Option.map_eq_map, Option.map_some, Nat.reduceLT, Nat.reduceAdd, Nat.lt_add_one, Function.const_apply, Nat.reduceEqDiff, reduceCtorEq, Nat.zero_lt_succ, ite_true, ite_false, Nat.add_assoc, d4]
  · simp only [ga_gr, ga_gi, ga_get, ga_si, ga_sz, ga_sl, ga_put, ga_ai, ga_az, ga_al, ga_len, ga_is, ga_c, ga_kI, ga_kV, ga_kD, ga_up, ga_at, ga_ati, ga_jn, Option.bind_some, List.getElem?_cons_zero, List.getElem?_cons_succ, List.getElem?_set_self', List.getElem?_set_ne, List.set_cons_zero, List.set_cons_succ, List.length_cons, List.length_nil, List.length_set, ne_eq, Nat.add_right_cancel_iff, Nat.add_left_cancel_iff, if_true, if_false, and_self, true_and, and_true, not_false_eq_true, not_true_eq_false, Nat.succ_ne_zero, Nat.reduceEqDiff, Nat.add_eq_left, Nat.left_eq_add, Option.map_eq_map, Option.map_some, Nat.reduceLT, Nat.reduceAdd, Nat.lt_add_one, Function.const_apply, Nat.reduceEqDiff, reduceCtorEq, Nat.zero_lt_succ, ite_true, ite_false, Nat.add_assoc, d5]
  · refine (e3.mono (by omega) (by omega)).tr ⟨by simp only [ga_gr, ga_gi, ga_get, ga_si, ga_sz, ga_sl, ga_put, ga_ai, ga_az, ga_al, ga_len, ga_is, ga_c, ga_kI, ga_kV, ga_kD, ga_up, ga_at, ga_ati, ga_jn, Option.bind_some, List.getElem?_cons_zero, List.getElem?_cons_succ, List.getElem?_set_self', List.getElem?_set_ne, List.set_cons_zero, List.set_cons_succ, List.length_cons, List.length_nil, List.length_set, ne_eq, Nat.add_right_cancel_iff, Nat.add_left_cancel_iff, if_true, if_false, and_self, true_and, and_true, not_false_eq_true, not_true_eq_false, Nat.succ_ne_zero, Nat.reduceEqDiff, Nat.add_eq_left, Nat.left_eq_add, Option.map_eq_map, Option.map_some, Nat.reduceLT, Nat.reduceAdd, Nat.lt_add_one, Function.const_apply, Nat.reduceEqDiff, reduceCtorEq, Nat.zero_lt_succ, ite_true, ite_false, Nat.add_assoc], rfl, fun a ha => ?_⟩
    have : ¬ 1 = a ∧ ¬ 8 = a := by omega
    simp [List.getElem?_set, this]
theorem zM_loseAllBut {F k : Nat} {recs : List Nat} {syn : Nat} {mem : List Row} {w : ga_W} (h : isM w mem recs syn) (hk : k < 1000) :
    ∃ w1, f_M_loseAllBut F 1 (nI k) w = some (.inl none, w1) ∧ isM w1 (mem.take (recs.take k).sum) (recs.take k) (min k recs.length) ∧ pu_F w w1 1 8 := by
  obtain ⟨hh, he, hsum⟩ := h
  have hr := rM_recs hh
  have hmin : (if nI k < nI recs.length then nI k else nI recs.length) = nI (min k recs.length) := by
    have := hh.2.1
    by_cases hx : k < recs.length
    · rw [if_pos (nI_lt hx (by omega))]; congr 1; omega
    · rw [if_neg (nI_nlt (by omega) (by omega))]; congr 1; omega
  have htk : recs.take (min k recs.length) = recs.take k := by
    by_cases hx : k ≤ recs.length
    · rw [Nat.min_eq_left hx]
    · rw [Nat.min_eq_right (by omega), List.take_length, List.take_of_length_le (by omega)]
  obtain ⟨g1, g2, B, g3, g4⟩ := hh
  have hle : (recs.take k).sum ≤ mem.length := by
    rw [← hsum]
    conv => rhs; rw [← List.take_append_drop k recs, List.sum_append]
    omega
  have hi := pu_in (n := min k recs.length) (cap := 9) (by omega) (by omega)
  have hcl := nI_clamp (n := min k recs.length) (by omega)
  have hB := g4 (min k recs.length) (by omega)
  rw [htk] at hB
  obtain ⟨w1, a1, a2, a3⟩ := zE_cut (m := (recs.take k).sum) (w := (w.1.set 1 (.inr (2, [.ref 2, .ref 8, .int (nI (min k recs.length)), .int (nI syn)])), w.2)) (he.kept (fun a x y => by rw [List.getElem?_set_ne (by omega)])) hle
  have b1 : w1.1[1]? = some (.inr (2, [.ref 2, .ref 8, .int (nI (min k recs.length)), .int (nI syn)])) := a3.out (by omega) (by simp only [ga_gr, ga_gi, ga_get, ga_si, ga_sz, ga_sl, ga_put, ga_ai, ga_az, ga_al, ga_len, ga_is, ga_c, ga_kI, ga_kV, ga_kD, ga_up, ga_at, ga_ati, ga_jn, Option.bind_some, List.getElem?_cons_zero, List.getElem?_cons_succ, List.getElem?_set_self', List.getElem?_set_ne, List.set_cons_zero, List.set_cons_succ, List.length_cons, List.length_nil, List.length_set, ne_eq, Nat.add_right_cancel_iff, Nat.add_left_cancel_iff, if_true, if_false, and_self, true_and, and_true, not_false_eq_true, not_true_eq_false, Nat.succ_ne_zero, Nat.reduceEqDiff, Nat.add_eq_left, Nat.left_eq_add, Option.map_eq_map, Option.map_some, Nat.reduceLT, Nat.reduceAdd, Nat.lt_add_one, Function.const_apply, Nat.reduceEqDiff, reduceCtorEq, Nat.zero_lt_succ, ite_true, ite_false, Nat.add_assoc, g1])
  have b8 : w1.1[8]? = some (.inl (0, 9, .inl B)) := a3.out (by omega) (by simp only [ga_gr, ga_gi, ga_get, ga_si, ga_sz, ga_sl, ga_put, ga_ai, ga_az, ga_al, ga_len, ga_is, ga_c, ga_kI, ga_kV, ga_kD, ga_up, ga_at, ga_ati, ga_jn, Option.bind_some, List.getElem?_cons_zero, List.getElem?_cons_succ, List.getElem?_set_self', List.getElem?_set_ne, List.set_cons_zero, List.set_cons_succ, List.length_cons, List.length_nil, List.length_set, ne_eq, Nat.add_right_cancel_iff, Nat.add_left_cancel_iff, if_true, if_false, and_self, true_and, and_true, not_false_eq_true, not_true_eq_false, Nat.succ_ne_zero, Nat.reduceEqDiff, Nat.add_eq_left, Nat.left_eq_add, Option.map_eq_map, Option.map_some, Nat.reduceLT, Nat.reduceAdd, Nat.lt_add_one, Function.const_apply, Nat.reduceEqDiff, reduceCtorEq, Nat.zero_lt_succ, ite_true, ite_false, Nat.add_assoc, g3])
  have e0 : f_M_loseAllBut F 1 (nI k) w = some (.inl none, (w1.1.set 1 (.inr (2, [.ref 2, .ref 8, .int (nI (min k recs.length)), .int (nI (min k recs.length))])), w1.2)) := by
    simp only [f_M_loseAllBut, hr, hmin, Option.bind_some]
    have q1 : ga_put w 2 2 1 (.int (nI (min k recs.length))) = some (w.1.set 1 (.inr (2, [.ref 2, .ref 8, .int (nI (min k recs.length)), .int (nI syn)])), w.2) := by simp only [ga_gr, ga_gi, ga_get, ga_si, ga_sz, ga_sl, ga_put, ga_ai, ga_az, ga_al, ga_len, ga_is, ga_c, ga_kI, ga_kV, ga_kD, ga_up, ga_at, ga_ati, ga_jn, Option.bind_some, List.getElem?_cons_zero, List.getElem?_cons_succ, List.getElem?_set_self', List.getElem?_set_ne, List.set_cons_zero, List.set_cons_succ, List.length_cons, List.length_nil, List.length_set, ne_eq, Nat.add_right_cancel_iff, Nat.add_left_cancel_iff, if_true, if_false, and_self, true_and, and_true, not_false_eq_true, not_true_eq_false, Nat.succ_ne_zero, Nat.reduceEqDiff, Nat.add_eq_left, Nat.left_eq_add, Option.map_eq_map, Option.map_some, Nat.reduceLT, Nat.reduceAdd, Nat.lt_add_one, Function.const_apply, Nat.reduceEqDiff, reduceCtorEq, Nat.zero_lt_succ, ite_true, ite_false, Nat.add_assoc, g1]
    rw [q1]
    have q2 : ga_gr (w.1.set 1 (.inr (2, [.ref 2, .ref 8, .int (nI (min k recs.length)), .int (nI syn)])), w.2) 2 0 1 = some 2 := by simp only [ga_gr, ga_gi, ga_get, ga_si, ga_sz, ga_sl, ga_put, ga_ai, ga_az, ga_al, ga_len, ga_is, ga_c, ga_kI, ga_kV, ga_kD, ga_up, ga_at, ga_ati, ga_jn, Option.bind_some, List.getElem?_cons_zero, List.getElem?_cons_succ, List.getElem?_set_self', List.getElem?_set_ne, List.set_cons_zero, List.set_cons_succ, List.length_cons, List.length_nil, List.length_set, ne_eq, Nat.add_right_cancel_iff, Nat.add_left_cancel_iff, if_true, if_false, and_self, true_and, and_true, not_false_eq_true, not_true_eq_false, Nat.succ_ne_zero, Nat.reduceEqDiff, Nat.add_eq_left, Nat.left_eq_add, Option.map_eq_map, Option.map_some, Nat.reduceLT, Nat.reduceAdd, Nat.lt_add_one, Function.const_apply, Nat.reduceEqDiff, reduceCtorEq, Nat.zero_lt_succ, ite_true, ite_false, Nat.add_assoc, g1]
    have q3 : ga_gr (w.1.set 1 (.inr (2, [.ref 2, .ref 8, .int (nI (min k recs.length)), .int (nI syn)])), w.2) 2 1 1 = some 8 := by simp only [ga_gr, ga_gi, ga_get, ga_si, ga_sz, ga_sl, ga_put, ga_ai, ga_az, ga_al, ga_len, ga_is, ga_c, ga_kI, ga_kV, ga_kD, ga_up, ga_at, ga_ati, ga_jn, Option.bind_some, List.getElem?_cons_zero, List.getElem?_cons_succ, List.getElem?_set_self', List.getElem?_set_ne, List.set_cons_zero, List.set_cons_succ, List.length_cons, List.length_nil, List.length_set, ne_eq, Nat.add_right_cancel_iff, Nat.add_left_cancel_iff, if_true, if_false, and_self, true_and, and_true, not_false_eq_true, not_true_eq_false, Nat.succ_ne_zero, Nat.reduceEqDiff, Nat.add_eq_left, Nat.left_eq_add, Option.map_eq_map, Option.map_some, Nat.reduceLT, Nat.reduceAdd, Nat.lt_add_one, Function.const_apply, Nat.reduceEqDiff, reduceCtorEq, Nat.zero_lt_succ, ite_true, ite_false, Nat.add_assoc, g1]
    have q4 : ga_gi (w.1.set 1 (.inr (2, [.ref 2, .ref 8, .int (nI (min k recs.length)), .int (nI syn)])), w.2) 2 2 1 = some (nI (min k recs.length)) := by simp only [ga_gr, ga_gi, ga_get, ga_si, ga_sz, ga_sl, ga_put, ga_ai, ga_az, ga_al, ga_len, ga_is, ga_c, ga_kI, ga_kV, ga_kD, ga_up, ga_at, ga_ati, ga_jn, Option.bind_some, List.getElem?_cons_zero, List.getElem?_cons_succ, List.getElem?_set_self', List.getElem?_set_ne, List.set_cons_zero, List.set_cons_succ, List.length_cons, List.length_nil, List.length_set, ne_eq, Nat.add_right_cancel_iff, Nat.add_left_cancel_iff, if_true, if_false, and_self, true_and, and_true, not_false_eq_true, not_true_eq_false, Nat.succ_ne_zero, Nat.reduceEqDiff, Nat.add_eq_left, Nat.left_eq_add, Option.map_eq_map, Option.map_some, Nat.reduceLT, Nat.reduceAdd, Nat.lt_add_one, Function.const_apply, Nat.reduceEqDiff, reduceCtorEq, Nat.zero_lt_succ, ite_true, ite_false, Nat.add_assoc, g1]
    have q5 : ga_ai (w.1.set 1 (.inr (2, [.ref 2, .ref 8, .int (nI (min k recs.length)), .int (nI syn)])), w.2) 0 8 (nI (min k recs.length)) = some (nI (recs.take k).sum) := by simp only [ga_gr, ga_gi, ga_get, ga_si, ga_sz, ga_sl, ga_put, ga_ai, ga_az, ga_al, ga_len, ga_is, ga_c, ga_kI, ga_kV, ga_kD, ga_up, ga_at, ga_ati, ga_jn, Option.bind_some, List.getElem?_cons_zero, List.getElem?_cons_succ, List.getElem?_set_self', List.getElem?_set_ne, List.set_cons_zero, List.set_cons_succ, List.length_cons, List.length_nil, List.length_set, ne_eq, Nat.add_right_cancel_iff, Nat.add_left_cancel_iff, if_true, if_false, and_self, true_and, and_true, not_false_eq_true, not_true_eq_false, Nat.succ_ne_zero, Nat.reduceEqDiff, Nat.add_eq_left, Nat.left_eq_add, Option.map_eq_map, Option.map_some, Nat.reduceLT, Nat.reduceAdd, Nat.lt_add_one, Function.const_apply, Nat.reduceEqDiff, reduceCtorEq, Nat.zero_lt_succ, ite_true, ite_false, Nat.add_assoc, g3, hi, hcl, hB]
    simp only [Option.bind_some, q2, q3, q4, q5, a1]
    simp only [ga_gr, ga_gi, ga_get, ga_si, ga_sz, ga_sl, ga_put, ga_ai, ga_az, ga_al, ga_len, ga_is, ga_c, ga_kI, ga_kV, ga_kD, ga_up, ga_at, ga_ati, ga_jn, Option.bind_some, List.getElem?_cons_zero, List.getElem?_cons_succ, List.getElem?_set_self', List.getElem?_set_ne, List.set_cons_zero, List.set_cons_succ, List.length_cons, List.length_nil, List.length_set, ne_eq, Nat.add_right_cancel_iff, Nat.add_left_cancel_iff, if_true, if_false, and_self, true_and, and_true, not_false_eq_true, not_true_eq_false, Nat.succ_ne_zero, Nat.reduceEqDiff, Nat.add_eq_left, Nat.left_eq_add, Option.map_eq_map, Option.map_some, Nat.reduceLT, Nat.reduceAdd, Nat.lt_add_one, Function.const_apply, Nat.reduceEqDiff, reduceCtorEq, Nat.zero_lt_succ, ite_true, ite_false, Nat.add_assoc, b1]
  refine ⟨_, e0, ⟨⟨?_, by simp; omega, B, ?_, fun i hi => ?_⟩, a2.kept (fun a x y => by rw [List.getElem?_set_ne (by omega)]), ?_⟩, ?_⟩
  · simp only [ga_gr, ga_gi, ga_get, ga_si, ga_sz, ga_sl, ga_put, ga_ai, ga_az, ga_al, ga_len, ga_is, ga_c, ga_kI, ga_kV, ga_kD, ga_up, ga_at, ga_ati, ga_jn, Option.bind_some, List.getElem?_cons_zero, List.getElem?_cons_succ, List.getElem?_set_self', List.getElem?_set_ne, List.set_cons_zero, List.set_cons_succ, List.length_cons, List.length_nil, List.length_set, ne_eq, Nat.add_right_cancel_iff, Nat.add_left_cancel_iff, if_true, if_false, and_self, true_and, and_true, not_false_eq_true, not_true_eq_false, Nat.succ_ne_zero, Nat.reduceEqDiff, Nat.add_eq_left, Nat.left_eq_add, Option.map_eq_map, Option.map_some, Nat.reduceLT, Nat.reduceAdd, Nat.lt_add_one, Function.const_apply, Nat.reduceEqDiff, reduceCtorEq, Nat.zero_lt_succ, ite_true, ite_false, Nat.add_assoc, b1, List.length_take]
  · simp only [ga_gr, ga_gi, ga_get, ga_si, ga_sz, ga_sl, ga_put, ga_ai, ga_az, ga_al, ga_len, ga_is, ga_c, ga_kI, ga_kV, ga_kD, ga_up, ga_at, ga_ati, ga_jn, Option.bind_some, List.getElem?_cons_zero, List.getElem?_cons_succ, List.getElem?_set_self', List.getElem?_set_ne, List.set_cons_zero, List.set_cons_succ, List.length_cons, List.length_nil, List.length_set, ne_eq, Nat.add_right_cancel_iff, Nat.add_left_cancel_iff, if_true, if_false, and_self, true_and, and_true, not_false_eq_true, not_true_eq_false, Nat.succ_ne_zero, Nat.reduceEqDiff, Nat.add_eq_left, Nat.left_eq_add, Option.map_eq_map, Option.map_some, Nat.reduceLT, Nat.reduceAdd, Nat.lt_add_one, Function.const_apply, Nat.reduceEqDiff, reduceCtorEq, Nat.zero_lt_succ, ite_true, ite_false, Nat.add_assoc, b8]
  · simp only [List.length_take] at hi
    rw [g4 i (by omega), List.take_take, Nat.min_eq_left (by omega)]
  · simp; omega
  · have f1 : pu_F w (w.1.set 1 (.inr (2, [.ref 2, .ref 8, .int (nI (min k recs.length)), .int (nI syn)])), w.2) 1 8 := ⟨by simp only [ga_gr, ga_gi, ga_get, ga_si, ga_sz, ga_sl, ga_put, ga_ai, ga_az, ga_al, ga_len, ga_is, ga_c, ga_kI, ga_kV, ga_kD, ga_up, ga_at, ga_ati, ga_jn, Option.bind_some, List.getElem?_cons_zero, List.getElem?_cons_succ, List.getElem?_set_self', List.getElem?_set_ne, List.set_cons_zero, List.set_cons_succ, List.length_cons, List.length_nil, List.length_set, ne_eq, Nat.add_right_cancel_iff, Nat.add_left_cancel_iff, if_true, if_false, and_self, true_and, and_true, not_false_eq_true, not_true_eq_false, Nat.succ_ne_zero, Nat.reduceEqDiff, Nat.add_eq_left, Nat.left_eq_add, Option.map_eq_map, Option.map_some, Nat.reduceLT, Nat.reduceAdd, Nat.lt_add_one, Function.const_apply, Nat.reduceEqDiff, reduceCtorEq, Nat.zero_lt_succ, ite_true, ite_false, Nat.add_assoc], rfl, fun a ha => by
      have : ¬ 1 = a := by omega
      simp [List.getElem?_set, this]⟩
    refine (f1.tr (a3.mono (by omega) (by omega))).tr ⟨by simp only [ga_gr, ga_gi, ga_get, ga_si, ga_sz, ga_sl, ga_put, ga_ai, ga_az, ga_al, ga_len, ga_is, ga_c, ga_kI, ga_kV, ga_kD, ga_up, ga_at, ga_ati, ga_jn, Option.bind_some, List.getElem?_cons_zero, List.getElem?_cons_succ, List.getElem?_set_self', List.getElem?_set_ne, List.set_cons_zero, List.set_cons_succ, List.length_cons, List.length_nil, List.length_set, ne_eq, Nat.add_right_cancel_iff, Nat.add_left_cancel_iff, if_true, if_false, and_self, true_and, and_true, not_false_eq_true, not_true_eq_false, Nat.succ_ne_zero, Nat.reduceEqDiff, Nat.add_eq_left, Nat.left_eq_add, Option.map_eq_map, Option.map_some, Nat.reduceLT, Nat.reduceAdd, Nat.lt_add_one, Function.const_apply, Nat.reduceEqDiff, reduceCtorEq, Nat.zero_lt_succ, ite_true, ite_false, Nat.add_assoc], rfl, fun a ha => ?_⟩
    have : ¬ 1 = a := by omega
    simp [List.getElem?_set, this]
/-- the newest row of a key -/
theorem zM_rowOf_loop {F : Nat} {w : ga_W} {key upTo : Int32} {recs : List Nat} {syn : Nat} (hm : isMh w recs syn) : ∀ (k : Nat) (pre post : List Row) (n : Nat), pre.length = k → isEl w 2 12 (pre ++ post) → k < n → ∃ v, f_M_rowOf_10 F 1 key upTo n (nI k - 1) w = some (.inl (some (.int v)), w) ∧ isAt (pre ++ post) (pre.reverse.find? (pk key upTo)) v := by
  intro k
  induction k with
  | zero =>
    intro pre post n hk h hn
    obtain ⟨n, rfl⟩ : ∃ k, n = k + 1 := ⟨n - 1, by omega⟩
    have : pre = [] := List.eq_nil_of_length_eq_zero hk
    subst this
    refine ⟨-1, ?_, rfl⟩
    have : nI 0 - 1 < 0 := by decide
    simp only [f_M_rowOf_10, this, if_true]
  | succ k ih =>
    intro pre post n hk h hn
    obtain ⟨n, rfl⟩ : ∃ k, n = k + 1 := ⟨n - 1, by omega⟩
    have hne : pre ≠ [] := fun hx => by simp [hx] at hk
    obtain ⟨p, r, rfl⟩ : ∃ p r, pre = p ++ [r] := ⟨pre.dropLast, pre.getLast hne, (List.dropLast_concat_getLast hne).symm⟩
    have hpl : p.length = k := by simpa using hk
    have hl := h.1
    simp only [List.length_append] at hl
    have hr : ((p ++ [r]) ++ post)[k]? = some r := by subst hpl; simp
    obtain ⟨v, e1, e2⟩ := ih p (r :: post) n hpl (by simpa using h) (by omega)
    have hne0 : ¬ nI k < 0 := nI_pos (by omega)
    have e3 : nI k + (-1) = nI k - 1 := by rw [Int32.sub_eq_add_neg]
    simp only [f_M_rowOf_10, nI_s1 (show 1 ≤ k + 1 by omega), Nat.add_sub_cancel, hne0, if_false, rM_rows hm, rE_k h, rE_n h, rE_key h hr, rE_num h hr, Option.bind_some, e3, e1]
    rw [List.reverse_append]
    simp only [List.reverse_cons, List.reverse_nil, List.nil_append, List.singleton_append, List.append_assoc, List.find?_cons]
    by_cases a1 : r.1 = key
    · by_cases a2 : upTo < r.2.1
      · refine ⟨v, by simp [a1, a2], ?_⟩
        have : pk key upTo r = false := by simp [pk, a2]
        simpa [this] using e2
      · refine ⟨nI k, by simp [a1, a2], ?_⟩
        have : pk key upTo r = true := by simp only [pk, a1, a2]; decide
        simp only [this]
        exact ⟨k, by simp; omega, rfl, by simpa using hr⟩
    · refine ⟨v, by simp [a1], ?_⟩
      have : pk key upTo r = false := by simp [pk, a1]
      simpa [this] using e2
theorem zM_rowOf {F : Nat} {w : ga_W} {key upTo : Int32} {mem : List Row} {recs : List Nat} {syn : Nat} (h : isM w mem recs syn) (hF : 1000 < F) : ∃ v, f_M_rowOf F 1 key upTo w = some (.inl (some (.int v)), w) ∧ isAt mem (mem.reverse.find? (pk key upTo)) v := by
  have := h.2.1.1
  obtain ⟨v, e1, e2⟩ := zM_rowOf_loop (F := F) (key := key) (upTo := upTo) h.1 mem.length mem [] F rfl (by simpa using h.2.1) (by omega)
  refine ⟨v, ?_, by simpa using e2⟩
  simp only [f_M_rowOf, rM_rows h.1, rE_size h.2.1, Option.bind_some, e1]
