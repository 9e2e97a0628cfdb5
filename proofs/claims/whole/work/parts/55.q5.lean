/-! PURE, 5: the sorter -/
theorem zA_st {w : ga_W} {a N i : Nat} {f : Nat → Int32} {x : Int32} (h : w.1[a]? = some (.inl (0, N, .inl f))) (hi : i < N) (hN : N < 2 ^ 31) : ∃ w', ga_si w 0 a (nI i) x = some w' ∧ w'.1[a]? = some (.inl (0, N, .inl (upd f i x))) ∧ pu_F w w' a 1 := by
  simp only [ga_gr, ga_gi, ga_get, ga_si, ga_sz, ga_sl, ga_put, ga_ai, ga_az, ga_al, ga_len, ga_is, ga_c, ga_kI, ga_kV, ga_kD, ga_up, ga_at, ga_ati, ga_jn, Option.bind_some, List.getElem?_cons_zero, List.getElem?_cons_succ, List.getElem?_set_self', List.getElem?_set_ne, List.set_cons_zero, List.set_cons_succ, List.length_cons, List.length_nil, List.length_set, ne_eq, Nat.add_right_cancel_iff, Nat.add_left_cancel_iff, if_true, if_false, and_self, true_and, and_true, not_false_eq_true, not_true_eq_false, Nat.succ_ne_zero, Nat.reduceEqDiff, Nat.add_eq_left, Nat.left_eq_add, Option.map_eq_map, Option.map_some, Nat.reduceLT, Nat.reduceAdd, Nat.lt_add_one, Function.const_apply, Nat.reduceEqDiff, reduceCtorEq, Nat.zero_lt_succ, ite_true, ite_false, Nat.add_assoc, h, pu_in hi hN, nI_clamp (n := i) (by omega)]
  refine ⟨_, rfl, by simp only [ga_gr, ga_gi, ga_get, ga_si, ga_sz, ga_sl, ga_put, ga_ai, ga_az, ga_al, ga_len, ga_is, ga_c, ga_kI, ga_kV, ga_kD, ga_up, ga_at, ga_ati, ga_jn, Option.bind_some, List.getElem?_cons_zero, List.getElem?_cons_succ, List.getElem?_set_self', List.getElem?_set_ne, List.set_cons_zero, List.set_cons_succ, List.length_cons, List.length_nil, List.length_set, ne_eq, Nat.add_right_cancel_iff, Nat.add_left_cancel_iff, if_true, if_false, and_self, true_and, and_true, not_false_eq_true, not_true_eq_false, Nat.succ_ne_zero, Nat.reduceEqDiff, Nat.add_eq_left, Nat.left_eq_add, Option.map_eq_map, Option.map_some, Nat.reduceLT, Nat.reduceAdd, Nat.lt_add_one, Function.const_apply, Nat.reduceEqDiff, reduceCtorEq, Nat.zero_lt_succ, ite_true, ite_false, Nat.add_assoc, h], ⟨by simp only [ga_gr, ga_gi, ga_get, ga_si, ga_sz, ga_sl, ga_put, ga_ai, ga_az, ga_al, ga_len, ga_is, ga_c, ga_kI, ga_kV, ga_kD, ga_up, ga_at, ga_ati, ga_jn, Option.bind_some, List.getElem?_cons_zero, List.getElem?_cons_succ, List.getElem?_set_self', List.getElem?_set_ne, List.set_cons_zero, List.set_cons_succ, List.length_cons, List.length_nil, List.length_set, ne_eq, Nat.add_right_cancel_iff, Nat.add_left_cancel_iff, if_true, if_false, and_self, true_and, and_true, not_false_eq_true, not_true_eq_false, Nat.succ_ne_zero, Nat.reduceEqDiff, Nat.add_eq_left, Nat.left_eq_add, Option.map_eq_map, Option.map_some, Nat.reduceLT, Nat.reduceAdd, Nat.lt_add_one, Function.const_apply, Nat.reduceEqDiff, reduceCtorEq, Nat.zero_lt_succ, ite_true, ite_false, Nat.add_assoc], rfl, fun b hb => ?_⟩⟩
  have : ¬ a = b := by omega
  simp [List.getElem?_set, this]
theorem zZ_st {w : ga_W} {a N i : Nat} {f : Nat → Int32} {x : Int32} (h : w.1[a]? = some (.inl (1, N, .inl f))) (hi : i < N) (hN : N < 2 ^ 31) (hx : x = 0 ∨ x = 1) : ∃ w', ga_sz w 1 a (nI i) x = some w' ∧ w'.1[a]? = some (.inl (1, N, .inl (upd f i x))) ∧ pu_F w w' a 1 := by
  simp only [ga_gr, ga_gi, ga_get, ga_si, ga_sz, ga_sl, ga_put, ga_ai, ga_az, ga_al, ga_len, ga_is, ga_c, ga_kI, ga_kV, ga_kD, ga_up, ga_at, ga_ati, ga_jn, Option.bind_some, List.getElem?_cons_zero, List.getElem?_cons_succ, List.getElem?_set_self', List.getElem?_set_ne, List.set_cons_zero, List.set_cons_succ, List.length_cons, List.length_nil, List.length_set, ne_eq, Nat.add_right_cancel_iff, Nat.add_left_cancel_iff, if_true, if_false, and_self, true_and, and_true, not_false_eq_true, not_true_eq_false, Nat.succ_ne_zero, Nat.reduceEqDiff, Nat.add_eq_left, Nat.left_eq_add, Option.map_eq_map, Option.map_some, Nat.reduceLT, Nat.reduceAdd, Nat.lt_add_one, Function.const_apply, Nat.reduceEqDiff, reduceCtorEq, Nat.zero_lt_succ, ite_true, ite_false, Nat.add_assoc, h, pu_in hi hN, nI_clamp (n := i) (by omega), pu_nar hx]
  refine ⟨_, rfl, by simp only [ga_gr, ga_gi, ga_get, ga_si, ga_sz, ga_sl, ga_put, ga_ai, ga_az, ga_al, ga_len, ga_is, ga_c, ga_kI, ga_kV, ga_kD, ga_up, ga_at, ga_ati, ga_jn, Option.bind_some, List.getElem?_cons_zero, List.getElem?_cons_succ, List.getElem?_set_self', List.getElem?_set_ne, List.set_cons_zero, List.set_cons_succ, List.length_cons, List.length_nil, List.length_set, ne_eq, Nat.add_right_cancel_iff, Nat.add_left_cancel_iff, if_true, if_false, and_self, true_and, and_true, not_false_eq_true, not_true_eq_false, Nat.succ_ne_zero, Nat.reduceEqDiff, Nat.add_eq_left, Nat.left_eq_add, Option.map_eq_map, Option.map_some, Nat.reduceLT, Nat.reduceAdd, Nat.lt_add_one, Function.const_apply, Nat.reduceEqDiff, reduceCtorEq, Nat.zero_lt_succ, ite_true, ite_false, Nat.add_assoc, h], ⟨by simp only [ga_gr, ga_gi, ga_get, ga_si, ga_sz, ga_sl, ga_put, ga_ai, ga_az, ga_al, ga_len, ga_is, ga_c, ga_kI, ga_kV, ga_kD, ga_up, ga_at, ga_ati, ga_jn, Option.bind_some, List.getElem?_cons_zero, List.getElem?_cons_succ, List.getElem?_set_self', List.getElem?_set_ne, List.set_cons_zero, List.set_cons_succ, List.length_cons, List.length_nil, List.length_set, ne_eq, Nat.add_right_cancel_iff, Nat.add_left_cancel_iff, if_true, if_false, and_self, true_and, and_true, not_false_eq_true, not_true_eq_false, Nat.succ_ne_zero, Nat.reduceEqDiff, Nat.add_eq_left, Nat.left_eq_add, Option.map_eq_map, Option.map_some, Nat.reduceLT, Nat.reduceAdd, Nat.lt_add_one, Function.const_apply, Nat.reduceEqDiff, reduceCtorEq, Nat.zero_lt_succ, ite_true, ite_false, Nat.add_assoc], rfl, fun b hb => ?_⟩⟩
  have : ¬ a = b := by omega
  simp [List.getElem?_set, this]
theorem rA {w : ga_W} {a N i : Nat} {f : Nat → Int32} (h : w.1[a]? = some (.inl (0, N, .inl f))) (hi : i < N) (hN : N < 2 ^ 31) : ga_ai w 0 a (nI i) = some (f i) := by
  simp only [ga_gr, ga_gi, ga_get, ga_si, ga_sz, ga_sl, ga_put, ga_ai, ga_az, ga_al, ga_len, ga_is, ga_c, ga_kI, ga_kV, ga_kD, ga_up, ga_at, ga_ati, ga_jn, Option.bind_some, List.getElem?_cons_zero, List.getElem?_cons_succ, List.getElem?_set_self', List.getElem?_set_ne, List.set_cons_zero, List.set_cons_succ, List.length_cons, List.length_nil, List.length_set, ne_eq, Nat.add_right_cancel_iff, Nat.add_left_cancel_iff, if_true, if_false, and_self, true_and, and_true, not_false_eq_true, not_true_eq_false, Nat.succ_ne_zero, Nat.reduceEqDiff, Nat.add_eq_left, Nat.left_eq_add, Option.map_eq_map, Option.map_some, Nat.reduceLT, Nat.reduceAdd, Nat.lt_add_one, Function.const_apply, Nat.reduceEqDiff, reduceCtorEq, Nat.zero_lt_succ, ite_true, ite_false, Nat.add_assoc, h, pu_in hi hN, nI_clamp (n := i) (by omega)]
theorem rZ {w : ga_W} {a N i : Nat} {f : Nat → Int32} (h : w.1[a]? = some (.inl (1, N, .inl f))) (hi : i < N) (hN : N < 2 ^ 31) : ga_az w 1 a (nI i) = some (f i) := by
  simp only [ga_gr, ga_gi, ga_get, ga_si, ga_sz, ga_sl, ga_put, ga_ai, ga_az, ga_al, ga_len, ga_is, ga_c, ga_kI, ga_kV, ga_kD, ga_up, ga_at, ga_ati, ga_jn, Option.bind_some, List.getElem?_cons_zero, List.getElem?_cons_succ, List.getElem?_set_self', List.getElem?_set_ne, List.set_cons_zero, List.set_cons_succ, List.length_cons, List.length_nil, List.length_set, ne_eq, Nat.add_right_cancel_iff, Nat.add_left_cancel_iff, if_true, if_false, and_self, true_and, and_true, not_false_eq_true, not_true_eq_false, Nat.succ_ne_zero, Nat.reduceEqDiff, Nat.add_eq_left, Nat.left_eq_add, Option.map_eq_map, Option.map_some, Nat.reduceLT, Nat.reduceAdd, Nat.lt_add_one, Function.const_apply, Nat.reduceEqDiff, reduceCtorEq, Nat.zero_lt_succ, ite_true, ite_false, Nat.add_assoc, h, pu_in hi hN, nI_clamp (n := i) (by omega)]
theorem zJ_fill_loop {F a N : Nat} {x : Int32} (hN : N < 2 ^ 31) : ∀ (m i : Nat) (f : Nat → Int32) (w : ga_W) (n : Nat), i + m = N → w.1[a]? = some (.inl (0, N, .inl f)) → m < n → ∃ w', f_J_fill_5 F a x (nI N) n (nI i) w = some (.inl none, w') ∧ (∃ g : Nat → Int32, w'.1[a]? = some (.inl (0, N, .inl g)) ∧ (∀ j, i ≤ j → j < N → g j = x) ∧ (∀ j, j < i → g j = f j)) ∧ pu_F w w' a 1 := by
  intro m
  induction m with
  | zero =>
    intro i f w n hm h hn
    obtain ⟨n, rfl⟩ : ∃ k, n = k + 1 := ⟨n - 1, by omega⟩
    have : i = N := by omega
    subst this
    refine ⟨w, by simp only [f_J_fill_5, Int32.le_refl, if_true], ⟨f, h, fun j h1 h2 => by omega, fun _ _ => rfl⟩, pu_F.rf⟩
  | succ m ih =>
    intro i f w n hm h hn
    obtain ⟨n, rfl⟩ : ∃ k, n = k + 1 := ⟨n - 1, by omega⟩
    obtain ⟨w1, e1, e2, e3⟩ := zA_st (i := i) (x := x) h (by omega) hN
    obtain ⟨w2, e4, ⟨g, e5, e6, e7⟩, e8⟩ := ih (i + 1) _ w1 n (by omega) e2 (by omega)
    refine ⟨w2, ?_, ⟨g, e5, fun j h1 h2 => ?_, fun j hj => ?_⟩, e3.tr e8⟩
    · simp only [f_J_fill_5, nI_ge (show i < N by omega) hN, if_false, e1, Option.bind_some, nI_1, e4]
    · by_cases hx : j = i
      · subst hx; rw [e7 j (by omega)]; simp [upd]
      · exact e6 j (by omega) h2
    · rw [e7 j (by omega)]; simp only [upd]; rw [if_neg (by omega)]
theorem zJ_fill {F a N : Nat} {x : Int32} {f : Nat → Int32} {w : ga_W} (hN : N < 1000) (h : w.1[a]? = some (.inl (0, N, .inl f))) (hF : 1000 < F) : ∃ w', f_J_fill F a x w = some (.inl none, w') ∧ (∃ g : Nat → Int32, w'.1[a]? = some (.inl (0, N, .inl g)) ∧ ∀ j, j < N → g j = x) ∧ pu_F w w' a 1 := by
  obtain ⟨w', e1, ⟨g, e2, e3, e4⟩, e5⟩ := zJ_fill_loop (F := F) (x := x) (by omega) N 0 f w F (by omega) h (by omega)
  refine ⟨w', ?_, ⟨g, e2, fun j hj => e3 j (by omega) hj⟩, e5⟩
  have : ga_len w 0 a = some N := by simp [ga_len, h]
  simp only [f_J_fill, this, Option.bind_some]
  rw [nI_0] at e1
  exact e1
/-! counting -/
def okK (r : Row) : Prop := ∃ k, k < 64 ∧ r.1 = nI k
def isK (k : Nat) (r : Row) : Bool := decide (r.1 = nI k)
def ct (xs : List Row) (k : Nat) : Nat := (xs.filter (isK k)).length
def cL (xs : List Row) : Nat → Nat
  | 0 => 0
  | k + 1 => cL xs k + ct xs k
def srtTo (xs : List Row) : Nat → List Row
  | 0 => []
  | k + 1 => srtTo xs k ++ xs.filter (isK k)
/-- by rising keys, those of one key as they stand -/
def srt (xs : List Row) : List Row := srtTo xs 64
theorem srtTo_len (xs : List Row) (k : Nat) : (srtTo xs k).length = cL xs k := by
  induction k with
  | zero => rfl
  | succ k ih => simp [srtTo, cL, ct, ih]
theorem cL_mono (xs : List Row) {a b : Nat} (h : a ≤ b) : cL xs a ≤ cL xs b := by
  induction h with
  | refl => exact Nat.le_refl _
  | step _ ih => exact Nat.le_trans ih (Nat.le_add_right _ _)
theorem srtTo_at (xs : List Row) {k c : Nat} (hc : c < ct xs k) : ∀ m, k < m → (srtTo xs m)[cL xs k + c]? = (xs.filter (isK k))[c]? := by
  intro m
  induction m with
  | zero => intro h; omega
  | succ m ih =>
    intro h
    by_cases hk : k = m
    · subst hk
      simp only [srtTo]
      rw [List.getElem?_append_right (by rw [srtTo_len]; omega), srtTo_len, Nat.add_sub_cancel_left]
    · have h2 : cL xs k + c < cL xs m := by
        have := cL_mono xs (show k + 1 ≤ m by omega)
        simp only [cL] at this
        omega
      simp only [srtTo]
      rw [List.getElem?_append_left (by rw [srtTo_len]; exact h2)]
      exact ih (by omega)
theorem cL_find (xs : List Row) {p : Nat} : ∀ m, p < cL xs m → ∃ k c, k < m ∧ c < ct xs k ∧ p = cL xs k + c := by
  intro m
  induction m with
  | zero => intro h; simp [cL] at h
  | succ m ih =>
    intro h
    by_cases hp : p < cL xs m
    · obtain ⟨k, c, h1, h2, h3⟩ := ih hp
      exact ⟨k, c, by omega, h2, h3⟩
    · simp only [cL] at h
      exact ⟨m, p - cL xs m, by omega, by omega, by omega⟩
theorem nI_inj {a b : Nat} (ha : a < 1000) (hb : b < 1000) : nI a = nI b ↔ a = b := nI_eq (by omega) (by omega)
theorem ct_cons (r : Row) (xs : List Row) (k : Nat) : ct (r :: xs) k = ct xs k + (if r.1 = nI k then 1 else 0) := by
  by_cases h : r.1 = nI k
  · simp [ct, isK, List.filter_cons, h]
  · simp [ct, isK, List.filter_cons, h]
theorem ct_app (xs ys : List Row) (k : Nat) : ct (xs ++ ys) k = ct xs k + ct ys k := by simp [ct]
theorem cL_cons (r : Row) (xs : List Row) {j : Nat} (hj : j < 64) (hr : r.1 = nI j) : ∀ m, m ≤ 64 → cL (r :: xs) m = cL xs m + (if j < m then 1 else 0) := by
  intro m
  induction m with
  | zero => intro _; simp [cL]
  | succ m ih =>
    intro hm
    simp only [cL, ih (by omega), ct_cons, hr, nI_inj (show j < 1000 by omega) (show m < 1000 by omega)]
    split <;> split <;> split <;> omega
theorem cL_all (xs : List Row) (h : ∀ r ∈ xs, okK r) : cL xs 64 = xs.length := by
  induction xs with
  | nil => rfl
  | cons r rs ih =>
    obtain ⟨j, h1, h2⟩ := h r List.mem_cons_self
    rw [cL_cons r rs h1 h2 64 (Nat.le_refl _), ih (fun q hq => h q (List.mem_cons_of_mem _ hq)), if_pos h1]
    rfl
theorem srt_len (xs : List Row) (h : ∀ r ∈ xs, okK r) : (srt xs).length = xs.length := by
  unfold srt
  rw [srtTo_len, cL_all xs h]
/-- a Sorter at the place 30 -/
def isO (w : ga_W) (xs : List Row) (P O : Nat → Int32) : Prop :=
  w.1[30]? = some (.inr (4, [.ref 31, .ref 37, .ref 38])) ∧ isEl w 31 240 xs ∧ w.1[37]? = some (.inl (0, 65, .inl P)) ∧ w.1[38]? = some (.inl (0, 240, .inl O))
theorem rO_l {w : ga_W} {xs : List Row} {P O : Nat → Int32} (h : isO w xs P O) : ga_gr w 4 0 30 = some 31 := by
  obtain ⟨h1, -⟩ := h
  simp only [ga_gr, ga_gi, ga_get, ga_si, ga_sz, ga_sl, ga_put, ga_ai, ga_az, ga_al, ga_len, ga_is, ga_c, ga_kI, ga_kV, ga_kD, ga_up, ga_at, ga_ati, ga_jn, Option.bind_some, List.getElem?_cons_zero, List.getElem?_cons_succ, List.getElem?_set_self', List.getElem?_set_ne, List.set_cons_zero, List.set_cons_succ, List.length_cons, List.length_nil, List.length_set, ne_eq, Nat.add_right_cancel_iff, Nat.add_left_cancel_iff, if_true, if_false, and_self, true_and, and_true, not_false_eq_true, not_true_eq_false, Nat.succ_ne_zero, Nat.reduceEqDiff, Nat.add_eq_left, Nat.left_eq_add, Option.map_eq_map, Option.map_some, Nat.reduceLT, Nat.reduceAdd, Nat.lt_add_one, Function.const_apply, Nat.reduceEqDiff, reduceCtorEq, Nat.zero_lt_succ, ite_true, ite_false, Nat.add_assoc, h1]
theorem rO_p {w : ga_W} {xs : List Row} {P O : Nat → Int32} (h : isO w xs P O) : ga_gr w 4 1 30 = some 37 := by
  obtain ⟨h1, -⟩ := h
  simp only [ga_gr, ga_gi, ga_get, ga_si, ga_sz, ga_sl, ga_put, ga_ai, ga_az, ga_al, ga_len, ga_is, ga_c, ga_kI, ga_kV, ga_kD, ga_up, ga_at, ga_ati, ga_jn, Option.bind_some, List.getElem?_cons_zero, List.getElem?_cons_succ, List.getElem?_set_self', List.getElem?_set_ne, List.set_cons_zero, List.set_cons_succ, List.length_cons, List.length_nil, List.length_set, ne_eq, Nat.add_right_cancel_iff, Nat.add_left_cancel_iff, if_true, if_false, and_self, true_and, and_true, not_false_eq_true, not_true_eq_false, Nat.succ_ne_zero, Nat.reduceEqDiff, Nat.add_eq_left, Nat.left_eq_add, Option.map_eq_map, Option.map_some, Nat.reduceLT, Nat.reduceAdd, Nat.lt_add_one, Function.const_apply, Nat.reduceEqDiff, reduceCtorEq, Nat.zero_lt_succ, ite_true, ite_false, Nat.add_assoc, h1]
theorem rO_o {w : ga_W} {xs : List Row} {P O : Nat → Int32} (h : isO w xs P O) : ga_gr w 4 2 30 = some 38 := by
  obtain ⟨h1, -⟩ := h
  simp only [ga_gr, ga_gi, ga_get, ga_si, ga_sz, ga_sl, ga_put, ga_ai, ga_az, ga_al, ga_len, ga_is, ga_c, ga_kI, ga_kV, ga_kD, ga_up, ga_at, ga_ati, ga_jn, Option.bind_some, List.getElem?_cons_zero, List.getElem?_cons_succ, List.getElem?_set_self', List.getElem?_set_ne, List.set_cons_zero, List.set_cons_succ, List.length_cons, List.length_nil, List.length_set, ne_eq, Nat.add_right_cancel_iff, Nat.add_left_cancel_iff, if_true, if_false, and_self, true_and, and_true, not_false_eq_true, not_true_eq_false, Nat.succ_ne_zero, Nat.reduceEqDiff, Nat.add_eq_left, Nat.left_eq_add, Option.map_eq_map, Option.map_some, Nat.reduceLT, Nat.reduceAdd, Nat.lt_add_one, Function.const_apply, Nat.reduceEqDiff, reduceCtorEq, Nat.zero_lt_succ, ite_true, ite_false, Nat.add_assoc, h1]
theorem rO_is {w : ga_W} {xs : List Row} {P O : Nat → Int32} (h : isO w xs P O) : ga_is w 4 30 = true := by
  obtain ⟨h1, -⟩ := h
  simp [ga_is, h1]
theorem isO.fr {w w' : ga_W} {xs : List Row} {P O : Nat → Int32} {e k : Nat} (h : isO w xs P O) (hf : pu_F w w' e k) (hd : 39 ≤ e ∨ e + k ≤ 30) : isO w' xs P O :=
  ⟨hf.out (by omega) h.1, h.2.1.fr hf (by omega), hf.out (by omega) h.2.2.1, hf.out (by omega) h.2.2.2⟩
theorem isO.toP {w w' : ga_W} {xs : List Row} {P O Q : Nat → Int32} (h : isO w xs P O) (hf : pu_F w w' 37 1) (hq : w'.1[37]? = some (.inl (0, 65, .inl Q))) : isO w' xs Q O :=
  ⟨hf.out (by omega) h.1, h.2.1.fr hf (by omega), hq, hf.out (by omega) h.2.2.2⟩
theorem isO.toO {w w' : ga_W} {xs : List Row} {P O Q : Nat → Int32} (h : isO w xs P O) (hf : pu_F w w' 38 1) (hq : w'.1[38]? = some (.inl (0, 240, .inl Q))) : isO w' xs P Q :=
  ⟨hf.out (by omega) h.1, h.2.1.fr hf (by omega), hf.out (by omega) h.2.2.1, hq⟩
theorem zO_10 {F x1 : Nat} {K : ga_W → ga_O} {O : Nat → Int32} (todo : List Row) : ∀ (done : List Row) (P : Nat → Int32) (w : ga_W) (n : Nat), isO w (done ++ todo) P O → (∀ r ∈ done ++ todo, okK r) → P 0 = 0 → (∀ k, k < 64 → P (k + 1) = nI (ct done k)) → todo.length < n →
    ∃ w1 Q, f_O_addSorted_10 F 30 x1 K n (nI done.length) w = K w1 ∧ isO w1 (done ++ todo) Q O ∧ Q 0 = 0 ∧ (∀ k, k < 64 → Q (k + 1) = nI (ct (done ++ todo) k)) ∧ pu_F w w1 30 9 := by
  induction todo with
  | nil =>
    intro done P w n h hk h0 hP hn
    obtain ⟨n, rfl⟩ : ∃ k, n = k + 1 := ⟨n - 1, by simp at hn; omega⟩
    simp only [List.append_nil] at h hk ⊢
    refine ⟨w, P, ?_, h, h0, hP, pu_F.rf⟩
    simp only [f_O_addSorted_10, rO_l h, rE_size h.2.1, Option.bind_some, Int32.le_refl, if_true]
  | cons r todo ih =>
    intro done P w n h hk h0 hP hn
    obtain ⟨n, rfl⟩ : ∃ k, n = k + 1 := ⟨n - 1, by simp at hn; omega⟩
    have hl := h.2.1.1
    simp only [List.length_append, List.length_cons] at hl hn
    have h1 : ¬ nI (done ++ r :: todo).length ≤ nI done.length := nI_ge (by simp) (by simp; omega)
    have hr : (done ++ r :: todo)[done.length]? = some r := by simp
    obtain ⟨k, hk1, hk2⟩ := hk r (by simp)
    have hkey := rE_key h.2.1 hr
    rw [hk2] at hkey
    obtain ⟨w1, e1, e2, e3⟩ := zA_st (i := k + 1) (x := P (k + 1) + 1) h.2.2.1 (by omega) (by omega)
    have h2 := h.toP e3 e2
    obtain ⟨w2, Q, e4, e5, e6, e7, e8⟩ := ih (done ++ [r]) _ w1 n (by simpa using h2) (by simpa using hk) (by simpa [upd] using h0) (fun j hj => by
      simp only [upd, ct_app, ct_cons]
      by_cases hx : j = k
      · subst hx; simp [hP j hj, hk2, nI_1, ct]
      · have : ¬ nI k = nI j := fun h => hx ((nI_inj (by omega) (by omega)).mp h).symm
        simp [hx, hP j hj, hk2, this, ct]) (by omega)
    refine ⟨w2, Q, ?_, by simpa using e5, e6, by simpa using e7, (e3.mono (by omega) (by omega)).tr e8⟩
    simp only [f_O_addSorted_10, rO_l h, rO_p h, rE_size h.2.1, rE_k h.2.1, hkey, Option.bind_some, h1, if_false, nI_1, rA h.2.2.1 (show k + 1 < 65 by omega) (by omega), e1]
    simpa using e4
theorem zO_49 {F x1 : Nat} {K : ga_W → ga_O} {O : Nat → Int32} {xs : List Row} : ∀ (m k : Nat) (P : Nat → Int32) (w : ga_W) (n : Nat), k + m = 64 → isO w xs P O → (∀ j, j ≤ k → P j = nI (cL xs j)) → (∀ j, k ≤ j → j < 64 → P (j + 1) = nI (ct xs j)) → m < n →
    ∃ w1 Q, f_O_addSorted_49 F 30 x1 K n (nI k) w = K w1 ∧ isO w1 xs Q O ∧ (∀ j, j ≤ 64 → Q j = nI (cL xs j)) ∧ pu_F w w1 30 9 := by
  intro m
  induction m with
  | zero =>
    intro k P w n hm h h1 h2 hn
    obtain ⟨n, rfl⟩ : ∃ k, n = k + 1 := ⟨n - 1, by omega⟩
    have : k = 64 := by omega
    subst this
    refine ⟨w, P, ?_, h, h1, pu_F.rf⟩
    have : (64 : Int32) ≤ nI 64 := by decide
    simp only [f_O_addSorted_49, this, if_true]
  | succ m ih =>
    intro k P w n hm h h1 h2 hn
    obtain ⟨n, rfl⟩ : ∃ k, n = k + 1 := ⟨n - 1, by omega⟩
    have hk : ¬ (64 : Int32) ≤ nI k := by
      have : (64 : Int32) = nI 64 := by decide
      rw [this]; exact nI_ge (by omega) (by omega)
    obtain ⟨w1, e1, e2, e3⟩ := zA_st (i := k + 1) (x := P (k + 1) + P k) h.2.2.1 (by omega) (by omega)
    obtain ⟨w2, Q, e4, e5, e6, e7⟩ := ih (k + 1) _ w1 n (by omega) (h.toP e3 e2) (fun j hj => by
      simp only [upd]
      by_cases hx : j = k + 1
      · subst hx
        simp only [if_true, h1 k (Nat.le_refl _), h2 k (Nat.le_refl _) (by omega), nI_add, cL]
        congr 1; omega
      · simp only [hx, if_false]; exact h1 j (by omega)) (fun j hj hj2 => by
      simp only [upd]
      rw [if_neg (by omega)]
      exact h2 j (by omega) hj2) (by omega)
    refine ⟨w2, Q, ?_, e5, e6, (e3.mono (by omega) (by omega)).tr e7⟩
    simp only [f_O_addSorted_49, hk, if_false, rO_p h, Option.bind_some, nI_1, rA h.2.2.1 (show k + 1 < 65 by omega) (by omega), rA h.2.2.1 (show k < 65 by omega) (by omega), e1, e4]
theorem zO_80 {F x1 : Nat} {K : ga_W → ga_O} {xs : List Row} (hk : ∀ r ∈ xs, okK r) (todo : List Row) : ∀ (done : List Row) (P O : Nat → Int32) (w : ga_W) (n : Nat), done ++ todo = xs → isO w xs P O → (∀ k, k < 64 → P k = nI (cL xs k + ct done k)) → (∀ k c, k < 64 → c < ct done k → ∃ j r, O (cL xs k + c) = nI j ∧ xs[j]? = some r ∧ (xs.filter (isK k))[c]? = some r) → todo.length < n →
    ∃ w1 Q O', f_O_addSorted_80 F 30 x1 K n (nI done.length) w = K w1 ∧ isO w1 xs Q O' ∧ (∀ k c, k < 64 → c < ct xs k → ∃ j r, O' (cL xs k + c) = nI j ∧ xs[j]? = some r ∧ (xs.filter (isK k))[c]? = some r) ∧ pu_F w w1 30 9 := by
  induction todo with
  | nil =>
    intro done P O w n hd h hP hO hn
    obtain ⟨n, rfl⟩ : ∃ k, n = k + 1 := ⟨n - 1, by simp at hn; omega⟩
    simp only [List.append_nil] at hd
    subst hd
    refine ⟨w, P, O, ?_, h, hO, pu_F.rf⟩
    simp only [f_O_addSorted_80, rO_l h, rE_size h.2.1, Option.bind_some, Int32.le_refl, if_true]
  | cons r todo ih =>
    intro done P O w n hd h hP hO hn
    obtain ⟨n, rfl⟩ : ∃ k, n = k + 1 := ⟨n - 1, by simp at hn; omega⟩
    have hl := h.2.1.1
    have hlen : xs.length = done.length + (todo.length + 1) := by rw [← hd]; simp
    simp only [List.length_cons] at hn
    have h1 : ¬ nI xs.length ≤ nI done.length := nI_ge (by omega) (by omega)
    have hr : xs[done.length]? = some r := by rw [← hd]; simp
    obtain ⟨k, hk1, hk2⟩ := hk r (by rw [← hd]; simp)
    have hkey := rE_key h.2.1 hr
    rw [hk2] at hkey
    have hct : ct done k < ct xs k := by rw [← hd, ct_app, ct_cons, if_pos hk2]; omega
    have hpos : cL xs k + ct done k < 240 := by
      have := cL_mono xs (show k + 1 ≤ 64 by omega)
      rw [cL_all xs hk] at this
      simp only [cL] at this
      omega
    have hfil : (xs.filter (isK k))[ct done k]? = some r := by
      rw [← hd, List.filter_append, ct, List.getElem?_append_right (Nat.le_refl _), Nat.sub_self, List.filter_cons]
      have : isK k r = true := by simp [isK, hk2]
      rw [if_pos this]; rfl
    obtain ⟨w1, e1, e2, e3⟩ := zA_st (i := cL xs k + ct done k) (x := nI done.length) h.2.2.2 hpos (by omega)
    have h2 := h.toO e3 e2
    obtain ⟨w2, e4, e5, e6⟩ := zA_st (i := k) (x := P k + 1) h2.2.2.1 (by omega) (by omega)
    have h3 := h2.toP e6 e5
    obtain ⟨w3, Q, O', e7, e8, e9, e10⟩ := ih (done ++ [r]) _ _ w2 n (by simpa using hd) h3 (fun j hj => by
      simp only [upd, ct_app, ct_cons, hk2]
      by_cases hx : j = k
      · subst hx; simp [hP j hj, nI_1, ct, Nat.add_assoc]
      · have : ¬ nI k = nI j := fun h => hx ((nI_inj (by omega) (by omega)).mp h).symm
        simp [hx, hP j hj, this, ct]) (fun j c hj hc => by
      by_cases hx : j = k
      · subst hx
        simp only [ct_app, ct_cons, hk2, if_true] at hc
        simp only [ct, List.filter_nil, List.length_nil, Nat.zero_add] at hc
        by_cases hc2 : c = ct done j
        · subst hc2
          exact ⟨done.length, r, by simp [upd], hr, hfil⟩
        · obtain ⟨i, q, a1, a2, a3⟩ := hO j c hj (by simp only [ct] at hc2 ⊢; omega)
          refine ⟨i, q, ?_, a2, a3⟩
          simp only [upd]
          rw [if_neg (by omega)]
          exact a1
      · have hne : ¬ nI k = nI j := fun h => hx ((nI_inj (by omega) (by omega)).mp h).symm
        have hc' : c < ct done j := by
          simp only [ct_app, ct_cons, hk2, hne, if_false] at hc
          simpa [ct] using hc
        obtain ⟨i, q, a1, a2, a3⟩ := hO j c hj hc'
        refine ⟨i, q, ?_, a2, a3⟩
        have hcx : ct done j ≤ ct xs j := by rw [← hd, ct_app]; omega
        have hne2 : ¬ cL xs j + c = cL xs k + ct done k := by
          rcases Nat.lt_or_gt_of_ne hx with hlt | hgt
          · have := cL_mono xs (show j + 1 ≤ k by omega)
            simp only [cL] at this
            omega
          · have := cL_mono xs (show k + 1 ≤ j by omega)
            simp only [cL] at this
            omega
        simp only [upd]
        rw [if_neg hne2]
        exact a1) (by omega)
    refine ⟨w3, Q, O', ?_, e8, e9, ((e3.mono (by omega) (by omega)).tr (e6.mono (by omega) (by omega))).tr e10⟩
    have hPk := rA h.2.2.1 (show k < 65 by omega) (by omega)
    have hPk2 := rA h2.2.2.1 (show k < 65 by omega) (by omega)
    simp only [f_O_addSorted_80, rO_l h, rO_o h, rO_p h, rE_size h.2.1, rE_k h.2.1, hkey, Option.bind_some, h1, if_false, hPk, hP k hk1, e1, rO_p h2, hPk2]
    rw [hP k hk1, nI_1] at e4
    simp only [nI_1, e4, Option.bind_some]
    simpa using e7
theorem zO_131 {F e cap : Nat} {xs : List Row} {P O : Nat → Int32} (hd : 39 ≤ e ∨ e + 6 ≤ 30) (hO : ∀ p, p < xs.length → ∃ j r, O p = nI j ∧ xs[j]? = some r ∧ (srt xs)[p]? = some r) : ∀ (m p : Nat) (ys : List Row) (w : ga_W) (n : Nat), p + m = xs.length → isO w xs P O → isEl w e cap ys → ys.length + m ≤ cap → m < n →
    ∃ w1, f_O_addSorted_131 F 30 e n (nI p) w = some (.inl none, w1) ∧ isEl w1 e cap (ys ++ (srt xs).extract p (p + m)) ∧ pu_F w w1 e 6 := by
  intro m
  induction m with
  | zero =>
    intro p ys w n hm h hy hc hn
    obtain ⟨n, rfl⟩ : ∃ k, n = k + 1 := ⟨n - 1, by omega⟩
    have : p = xs.length := by omega
    subst this
    refine ⟨w, ?_, by simpa using hy, pu_F.rf⟩
    simp only [f_O_addSorted_131, rO_l h, rE_size h.2.1, Option.bind_some, Int32.le_refl, if_true]
  | succ m ih =>
    intro p ys w n hm h hy hc hn
    obtain ⟨n, rfl⟩ : ∃ k, n = k + 1 := ⟨n - 1, by omega⟩
    have hl := h.2.1.1
    have h1 : ¬ nI xs.length ≤ nI p := nI_ge (by omega) (by omega)
    obtain ⟨j, r, a1, a2, a3⟩ := hO p (by omega)
    have hOp := rA h.2.2.2 (show p < 240 by omega) (by omega)
    rw [a1] at hOp
    obtain ⟨w1, e1, e2, e3⟩ := zE_addFrom (F := F) hy (by omega) h.2.1 a2 (by omega)
    obtain ⟨w2, e4, e5, e6⟩ := ih (p + 1) (ys ++ [r]) w1 n (by omega) (h.fr e3 (by omega)) e2 (by simp; omega) (by omega)
    refine ⟨w2, ?_, ?_, e3.tr e6⟩
    · simp only [f_O_addSorted_131, rO_l h, rO_o h, rE_size h.2.1, Option.bind_some, h1, if_false, hOp, rE_is hy, if_true, e1, ga_c, ga_kV, nI_1, e4]
    · have hx : (srt xs).extract p (p + (m + 1)) = r :: (srt xs).extract (p + 1) (p + 1 + m) := by
        have hlt : p < (srt xs).length := (List.getElem?_eq_some_iff.mp a3).1
        have hg : (srt xs)[p] = r := (List.getElem?_eq_some_iff.mp a3).2
        simp only [List.extract_eq_take_drop]
        rw [show p + (m + 1) - p = m + 1 by omega, show p + 1 + m - (p + 1) = m by omega, List.drop_eq_getElem_cons hlt, List.take_succ_cons, hg]
      rw [hx]
      simpa using e5
theorem zO_addSorted {F e cap : Nat} {xs ys : List Row} {P O : Nat → Int32} {w : ga_W} (hF : 1000 < F) (hd : 39 ≤ e ∨ e + 6 ≤ 30) (h : isO w xs P O) (hk : ∀ r ∈ xs, okK r) (hy : isEl w e cap ys) (hc : ys.length + xs.length ≤ cap) :
    ∃ w1 w2 P' O', f_O_addSorted F 30 e w = some (.inl none, w2) ∧ isO w1 xs P' O' ∧ isEl w2 e cap (ys ++ srt xs) ∧ pu_F w w1 30 9 ∧ pu_F w1 w2 e 6 := by
  have hl := h.2.1.1
  obtain ⟨w1, a1, ⟨g, a2, a3⟩, a4⟩ := zJ_fill (F := F) (x := 0) (by omega) h.2.2.1 hF
  have h1 := h.toP a4 a2
  obtain ⟨w2, Q, b1, b2, b3, b4, b5⟩ := zO_10 (F := F) (x1 := e) (K := (fun (w3 : ga_W) => (f_O_addSorted_49 F 30 e (fun (w4 : ga_W) => (f_O_addSorted_80 F 30 e (fun (w5 : ga_W) => (f_O_addSorted_131 F 30 e F (0 : Int32) w5)) F (0 : Int32) w4)) F (0 : Int32) w3))) xs [] g w1 F h1 hk (a3 0 (by omega)) (fun k hk => by rw [a3 (k + 1) (by omega)]; rfl) (by omega)
  obtain ⟨w3, Q2, c1, c2, c3, c4⟩ := zO_49 (F := F) (x1 := e) (K := (fun (w4 : ga_W) => (f_O_addSorted_80 F 30 e (fun (w5 : ga_W) => (f_O_addSorted_131 F 30 e F (0 : Int32) w5)) F (0 : Int32) w4))) 64 0 Q w2 F (by omega) b2 (fun j hj => by
    have hj0 : j = 0 := by omega
    rw [hj0, b3]
    rfl) (fun j _ hj => b4 j hj) (by omega)
  obtain ⟨w4, Q3, O3, d1, d2, d3, d4⟩ := zO_80 (F := F) (x1 := e) (K := (fun (w5 : ga_W) => (f_O_addSorted_131 F 30 e F (0 : Int32) w5))) hk xs [] Q2 O w3 F rfl c2 (fun k hk => by rw [c3 k (by omega)]; rfl) (fun k c _ hc => by simp [ct] at hc) (by omega)
  have hf4 : pu_F w w4 30 9 := (((a4.mono (by omega) (by omega)).tr b5).tr c4).tr d4
  have hO : ∀ p, p < xs.length → ∃ j r, O3 p = nI j ∧ xs[j]? = some r ∧ (srt xs)[p]? = some r := by
    intro p hp
    rw [← cL_all xs hk] at hp
    obtain ⟨k, c, h1, h2, rfl⟩ := cL_find xs 64 hp
    obtain ⟨j, r, x1, x2, x3⟩ := d3 k c h1 h2
    exact ⟨j, r, x1, x2, by unfold srt; rw [srtTo_at xs h2 64 h1, x3]⟩
  obtain ⟨w5, f1, f2, f3⟩ := zO_131 (F := F) hd hO xs.length 0 ys w4 F (by omega) d2 (hy.fr hf4 (by omega)) hc (by omega)
  refine ⟨w4, w5, Q3, O3, ?_, d2, ?_, hf4, f3⟩
  · simp only [List.length_nil, nI_0] at b1 c1 d1 f1
    simp only [f_O_addSorted, rO_p h, Option.bind_some, a1, ga_c, ga_kV, b1, c1, d1, f1]
  · have : (srt xs).extract 0 (0 + xs.length) = srt xs := by
      rw [← srt_len xs hk]; simp
    rwa [this] at f2
