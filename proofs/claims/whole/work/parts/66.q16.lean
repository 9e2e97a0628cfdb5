/-! PURE, 16: the reference at the place 54 -/
def hdR (sc : Nat → Int32) : List Value := [.int (sc 0), .ref 55, .ref 56, .ref 57, .ref 58, .int (sc 5), .ref 59, .ref 60, .ref 61, .ref 62, .int (sc 10), .ref 63, .ref 64, .ref 65, .ref 66, .int (sc 15), .ref 67, .int (sc 17), .int (sc 18), .ref 68, .ref 69, .ref 70, .int (sc 22), .ref 71, .ref 72, .int (sc 25), .int (sc 26), .int (sc 27), .int (sc 28), .int (sc 29), .int (sc 30), .int (sc 31), .ref 73, .ref 74, .ref 75, .ref 76, .int (sc 36), .ref 77, .int (sc 38)]
def isRh (w : ga_W) (sc : Nat → Int32) : Prop := w.1[54]? = some (.inr (6, hdR sc))
theorem isRh.fr {w w' : ga_W} {sc : Nat → Int32} {e k : Nat} (h : isRh w sc) (hf : pu_F w w' e k) (he : 54 < e ∨ e + k ≤ 54) : isRh w' sc := hf.out (by omega) h
theorem rR {w : ga_W} {sc : Nat → Int32} (h : isRh w sc) (k : Nat) (hk : (hdR sc)[k]? = some (.int (sc k))) : ga_gi w 6 k 54 = some (sc k) := by
  unfold isRh at h
  simp only [ga_gi, ga_get, h, if_true, hk]
theorem rRr {w : ga_W} {sc : Nat → Int32} (h : isRh w sc) (k a : Nat) (hk : (hdR sc)[k]? = some (.ref a)) : ga_gr w 6 k 54 = some a := by
  unfold isRh at h
  simp only [ga_gr, ga_get, h, if_true, hk]
theorem rR_is {w : ga_W} {sc : Nat → Int32} (h : isRh w sc) : ga_is w 6 54 = true := by
  unfold isRh at h
  simp [ga_is, h]
theorem zR {w : ga_W} {sc : Nat → Int32} (h : isRh w sc) (k : Nat) (x : Int32) (hk : k < 39) (hs : (hdR sc).set k (.int x) = hdR (pu_up sc k x)) : ∃ w', ga_put w 6 k 54 (.int x) = some w' ∧ isRh w' (pu_up sc k x) ∧ pu_F w w' 54 1 := by
  unfold isRh at h
  have hl : k < (hdR sc).length := hk
  simp only [ga_put, h, hl, and_self, if_true, hs]
  exact ⟨_, rfl, by unfold isRh; simp [List.getElem?_set_self', h], pu_F1⟩
/-- rows in four arrays from the place a on; the fifth of a row is not there -/
def isA (w : ga_W) (a cap : Nat) (R : Nat → Row) : Prop :=
  w.1[a]? = some (.inl (0, cap, .inl (fun i => (R i).1))) ∧ w.1[a+1]? = some (.inl (0, cap, .inl (fun i => (R i).2.1))) ∧ w.1[a+2]? = some (.inl (0, cap, .inl (fun i => (R i).2.2.1))) ∧ w.1[a+3]? = some (.inl (1, cap, .inl (fun i => (R i).2.2.2.1))) ∧ ∀ i, (R i).2.2.2.1 = 0 ∨ (R i).2.2.2.1 = 1
theorem isA.fr {w w' : ga_W} {a cap e k : Nat} {R : Nat → Row} (h : isA w a cap R) (hf : pu_F w w' e k) (he : a + 4 ≤ e ∨ e + k ≤ a) : isA w' a cap R := ⟨hf.out (by omega) h.1, hf.out (by omega) h.2.1, hf.out (by omega) h.2.2.1, hf.out (by omega) h.2.2.2.1, h.2.2.2.2⟩
/-- a row is stored -/
theorem zA4 {w : ga_W} {a cap i : Nat} {R : Nat → Row} (x : Row) (h : isA w a cap R) (hi : i < cap) (hc : cap < 1000) (hx : x.2.2.2.1 = 0 ∨ x.2.2.2.1 = 1) :
    ∃ w1 w2 w3 w4, ga_si w 0 a (nI i) x.1 = some w1 ∧ ga_si w1 0 (a+1) (nI i) x.2.1 = some w2 ∧ ga_si w2 0 (a+2) (nI i) x.2.2.1 = some w3 ∧ ga_sz w3 1 (a+3) (nI i) x.2.2.2.1 = some w4 ∧ pu_F w w1 a 1 ∧ pu_F w1 w2 (a+1) 1 ∧ pu_F w2 w3 (a+2) 1 ∧ pu_F w3 w4 (a+3) 1 ∧ isA w4 a cap (pu_up R i x) := by
  obtain ⟨h1, h2, h3, h4, h5⟩ := h
  obtain ⟨w1, a1, a2, a3⟩ := zA_st (i := i) (x := x.1) h1 hi (by omega)
  obtain ⟨w2, b1, b2, b3⟩ := zA_st (i := i) (x := x.2.1) (a3.out (by omega) h2) hi (by omega)
  obtain ⟨w3, c1, c2, c3⟩ := zA_st (i := i) (x := x.2.2.1) (b3.out (by omega) (a3.out (by omega) h3)) hi (by omega)
  obtain ⟨w4, d1, d2, d3⟩ := zZ_st (i := i) (x := x.2.2.2.1) (c3.out (by omega) (b3.out (by omega) (a3.out (by omega) h4))) hi (by omega) hx
  refine ⟨w1, w2, w3, w4, a1, b1, c1, d1, a3, b3, c3, d3, ?_, ?_, ?_, ?_, fun j => ?_⟩
  · rw [d3.out (by omega) (c3.out (by omega) (b3.out (by omega) a2))]
    exact congrArg (fun f => some (Sum.inl (0, cap, Sum.inl f))) (pu_upd (x := x) (p := fun r => r.1))
  · rw [d3.out (by omega) (c3.out (by omega) b2)]
    exact congrArg (fun f => some (Sum.inl (0, cap, Sum.inl f))) (pu_upd (x := x) (p := fun r => r.2.1))
  · rw [d3.out (by omega) c2]
    exact congrArg (fun f => some (Sum.inl (0, cap, Sum.inl f))) (pu_upd (x := x) (p := fun r => r.2.2.1))
  · rw [d2]
    exact congrArg (fun f => some (Sum.inl (1, cap, Sum.inl f))) (pu_upd (x := x) (p := fun r => r.2.2.2.1))
  · simp only [pu_up]
    split
    · exact hx
    · exact h5 j
theorem zR_moveEntry {F : Nat} {w : ga_W} {sc : Nat → Int32} {R : Nat → Row} {i j : Nat} (h : isRh w sc) (hA : isA w 55 260 R) (hi : i < 260) (hj : j < 260) : ∃ w', f_R_moveEntry F 54 (nI i) (nI j) w = some (.inl none, w') ∧ isRh w' sc ∧ isA w' 55 260 (pu_up R i (R j)) ∧ pu_F w w' 55 4 := by
  obtain ⟨w1, w2, w3, w4, a1, a2, a3, a4, f1, f2, f3, f4, hA4⟩ := zA4 (R j) hA hi (by omega) (hA.2.2.2.2 j)
  have h1 := h.fr f1 (by omega)
  have h2 := h1.fr f2 (by omega)
  have h3 := h2.fr f3 (by omega)
  have h4 := h3.fr f4 (by omega)
  have r1 := rA hA.1 hj (by omega)
  have r2 := rA (f1.out (by omega) hA.2.1) hj (by omega)
  have r3 := rA (f2.out (by omega) (f1.out (by omega) hA.2.2.1)) hj (by omega)
  have r4 := rZ (f3.out (by omega) (f2.out (by omega) (f1.out (by omega) hA.2.2.2.1))) hj (by omega)
  refine ⟨w4, ?_, h4, hA4, (((f1.mono (by omega) (by omega)).tr (f2.mono (by omega) (by omega))).tr (f3.mono (by omega) (by omega))).tr (f4.mono (by omega) (by omega))⟩
  unfold f_R_moveEntry
  simp only [↓bd (rRr h 1 55 rfl), ↓bd r1, ↓bd a1, ↓bd (rRr h1 2 56 rfl), ↓bd r2, ↓bd a2, ↓bd (rRr h2 3 57 rfl), ↓bd r3, ↓bd a3, ↓bd (rRr h3 4 58 rfl), ↓bd r4, ↓bd a4]
theorem zR_copyWork {F : Nat} {w : ga_W} {sc : Nat → Int32} {R : Nat → Row} {i j : Nat} (h : isRh w sc) (hA : isA w 73 260 R) (hi : i < 260) (hj : j < 260) : ∃ w', f_R_copyWork F 54 (nI i) (nI j) w = some (.inl none, w') ∧ isRh w' sc ∧ isA w' 73 260 (pu_up R i (R j)) ∧ pu_F w w' 73 4 := by
  obtain ⟨w1, w2, w3, w4, a1, a2, a3, a4, f1, f2, f3, f4, hA4⟩ := zA4 (R j) hA hi (by omega) (hA.2.2.2.2 j)
  have h1 := h.fr f1 (by omega)
  have h2 := h1.fr f2 (by omega)
  have h3 := h2.fr f3 (by omega)
  have h4 := h3.fr f4 (by omega)
  have r1 := rA hA.1 hj (by omega)
  have r2 := rA (f1.out (by omega) hA.2.1) hj (by omega)
  have r3 := rA (f2.out (by omega) (f1.out (by omega) hA.2.2.1)) hj (by omega)
  have r4 := rZ (f3.out (by omega) (f2.out (by omega) (f1.out (by omega) hA.2.2.2.1))) hj (by omega)
  refine ⟨w4, ?_, h4, hA4, (((f1.mono (by omega) (by omega)).tr (f2.mono (by omega) (by omega))).tr (f3.mono (by omega) (by omega))).tr (f4.mono (by omega) (by omega))⟩
  unfold f_R_copyWork
  simp only [↓bd (rRr h 32 73 rfl), ↓bd r1, ↓bd a1, ↓bd (rRr h1 33 74 rfl), ↓bd r2, ↓bd a2, ↓bd (rRr h2 34 75 rfl), ↓bd r3, ↓bd a3, ↓bd (rRr h3 35 76 rfl), ↓bd r4, ↓bd a4]
/-! tables: number, level, size, spoiled -/
abbrev TT : Type := Int32 × Int32 × Int32 × Int64
def isT (w : ga_W) (T : Nat → TT) : Prop := w.1[59]? = some (.inl (0, 260, .inl (fun i => (T i).1))) ∧ w.1[60]? = some (.inl (0, 260, .inl (fun i => (T i).2.1))) ∧ w.1[61]? = some (.inl (0, 260, .inl (fun i => (T i).2.2.1))) ∧ w.1[62]? = some (.inl (2, 260, .inr (.inl (fun i => (T i).2.2.2))))
theorem isT.fr {w w' : ga_W} {e k : Nat} {T : Nat → TT} (h : isT w T) (hf : pu_F w w' e k) (he : 63 ≤ e ∨ e + k ≤ 59) : isT w' T := ⟨hf.out (by omega) h.1, hf.out (by omega) h.2.1, hf.out (by omega) h.2.2.1, hf.out (by omega) h.2.2.2⟩
theorem rLg {w : ga_W} {a N i : Nat} {f : Nat → Int64} (h : w.1[a]? = some (.inl (2, N, .inr (.inl f)))) (hi : i < N) (hN : N < 2 ^ 31) : ga_al w 2 a (nI i) = some (f i) := by
  simp only [ga_gr, ga_gi, ga_get, ga_si, ga_sz, ga_sl, ga_put, ga_ai, ga_az, ga_al, ga_len, ga_is, ga_c, ga_kI, ga_kV, ga_kD, ga_up, ga_at, ga_ati, ga_jn, Option.bind_some, List.getElem?_cons_zero, List.getElem?_cons_succ, List.getElem?_set_self', List.getElem?_set_ne, List.set_cons_zero, List.set_cons_succ, List.length_cons, List.length_nil, List.length_set, ne_eq, Nat.add_right_cancel_iff, Nat.add_left_cancel_iff, if_true, if_false, and_self, true_and, and_true, not_false_eq_true, not_true_eq_false, Nat.succ_ne_zero, Nat.reduceEqDiff, Nat.add_eq_left, Nat.left_eq_add, Option.map_eq_map, Option.map_some, Nat.reduceLT, Nat.reduceAdd, Nat.lt_add_one, Function.const_apply, Nat.reduceEqDiff, reduceCtorEq, Nat.zero_lt_succ, ite_true, ite_false, Nat.add_assoc, h, pu_in hi hN, nI_clamp (n := i) (by omega)]
theorem zLg_st {w : ga_W} {a N i : Nat} {f : Nat → Int64} {x : Int64} (h : w.1[a]? = some (.inl (2, N, .inr (.inl f)))) (hi : i < N) (hN : N < 2 ^ 31) : ∃ w', ga_sl w 2 a (nI i) x = some w' ∧ w'.1[a]? = some (.inl (2, N, .inr (.inl (vp_updL f i x)))) ∧ pu_F w w' a 1 := by
  simp only [ga_gr, ga_gi, ga_get, ga_si, ga_sz, ga_sl, ga_put, ga_ai, ga_az, ga_al, ga_len, ga_is, ga_c, ga_kI, ga_kV, ga_kD, ga_up, ga_at, ga_ati, ga_jn, Option.bind_some, List.getElem?_cons_zero, List.getElem?_cons_succ, List.getElem?_set_self', List.getElem?_set_ne, List.set_cons_zero, List.set_cons_succ, List.length_cons, List.length_nil, List.length_set, ne_eq, Nat.add_right_cancel_iff, Nat.add_left_cancel_iff, if_true, if_false, and_self, true_and, and_true, not_false_eq_true, not_true_eq_false, Nat.succ_ne_zero, Nat.reduceEqDiff, Nat.add_eq_left, Nat.left_eq_add, Option.map_eq_map, Option.map_some, Nat.reduceLT, Nat.reduceAdd, Nat.lt_add_one, Function.const_apply, Nat.reduceEqDiff, reduceCtorEq, Nat.zero_lt_succ, ite_true, ite_false, Nat.add_assoc, h, pu_in hi hN, nI_clamp (n := i) (by omega)]
  exact ⟨_, rfl, by simp only [ga_gr, ga_gi, ga_get, ga_si, ga_sz, ga_sl, ga_put, ga_ai, ga_az, ga_al, ga_len, ga_is, ga_c, ga_kI, ga_kV, ga_kD, ga_up, ga_at, ga_ati, ga_jn, Option.bind_some, List.getElem?_cons_zero, List.getElem?_cons_succ, List.getElem?_set_self', List.getElem?_set_ne, List.set_cons_zero, List.set_cons_succ, List.length_cons, List.length_nil, List.length_set, ne_eq, Nat.add_right_cancel_iff, Nat.add_left_cancel_iff, if_true, if_false, and_self, true_and, and_true, not_false_eq_true, not_true_eq_false, Nat.succ_ne_zero, Nat.reduceEqDiff, Nat.add_eq_left, Nat.left_eq_add, Option.map_eq_map, Option.map_some, Nat.reduceLT, Nat.reduceAdd, Nat.lt_add_one, Function.const_apply, Nat.reduceEqDiff, reduceCtorEq, Nat.zero_lt_succ, ite_true, ite_false, Nat.add_assoc, h], pu_F1⟩
theorem pu_updL {T : Nat → TT} {n : Nat} {x : TT} : vp_updL (fun i => (T i).2.2.2) n x.2.2.2 = fun i => (pu_up T n x i).2.2.2 := by
  funext j; simp only [vp_updL, pu_up]; split <;> rfl
/-- a table's four numbers are stored -/
theorem zT4 {w : ga_W} {i : Nat} {T : Nat → TT} (x : TT) (h : isT w T) (hi : i < 260) :
    ∃ w1 w2 w3 w4, ga_si w 0 59 (nI i) x.1 = some w1 ∧ ga_si w1 0 60 (nI i) x.2.1 = some w2 ∧ ga_si w2 0 61 (nI i) x.2.2.1 = some w3 ∧ ga_sl w3 2 62 (nI i) x.2.2.2 = some w4 ∧ pu_F w w1 59 1 ∧ pu_F w1 w2 60 1 ∧ pu_F w2 w3 61 1 ∧ pu_F w3 w4 62 1 ∧ isT w4 (pu_up T i x) := by
  obtain ⟨h1, h2, h3, h4⟩ := h
  obtain ⟨w1, a1, a2, a3⟩ := zA_st (i := i) (x := x.1) h1 hi (by omega)
  obtain ⟨w2, b1, b2, b3⟩ := zA_st (i := i) (x := x.2.1) (a3.out (by omega) h2) hi (by omega)
  obtain ⟨w3, c1, c2, c3⟩ := zA_st (i := i) (x := x.2.2.1) (b3.out (by omega) (a3.out (by omega) h3)) hi (by omega)
  obtain ⟨w4, d1, d2, d3⟩ := zLg_st (i := i) (x := x.2.2.2) (c3.out (by omega) (b3.out (by omega) (a3.out (by omega) h4))) hi (by omega)
  refine ⟨w1, w2, w3, w4, a1, b1, c1, d1, a3, b3, c3, d3, ?_, ?_, ?_, ?_⟩
  · rw [d3.out (by omega) (c3.out (by omega) (b3.out (by omega) a2))]
    exact congrArg (fun f => some (Sum.inl (0, 260, Sum.inl f))) (pu_upd (x := x) (p := fun r => r.1))
  · rw [d3.out (by omega) (c3.out (by omega) b2)]
    exact congrArg (fun f => some (Sum.inl (0, 260, Sum.inl f))) (pu_upd (x := x) (p := fun r => r.2.1))
  · rw [d3.out (by omega) c2]
    exact congrArg (fun f => some (Sum.inl (0, 260, Sum.inl f))) (pu_upd (x := x) (p := fun r => r.2.2.1))
  · rw [d2]
    exact congrArg (fun f => some (Sum.inl (2, 260, Sum.inr (Sum.inl f)))) pu_updL
theorem zR_moveTable {F : Nat} {w : ga_W} {sc : Nat → Int32} {T : Nat → TT} {i j : Nat} (h : isRh w sc) (hT : isT w T) (hi : i < 260) (hj : j < 260) : ∃ w', f_R_moveTable F 54 (nI i) (nI j) w = some (.inl none, w') ∧ isRh w' sc ∧ isT w' (pu_up T i (T j)) ∧ pu_F w w' 59 4 := by
  obtain ⟨w1, w2, w3, w4, a1, a2, a3, a4, f1, f2, f3, f4, hT4⟩ := zT4 (T j) hT hi
  have h1 := h.fr f1 (by omega)
  have h2 := h1.fr f2 (by omega)
  have h3 := h2.fr f3 (by omega)
  have h4 := h3.fr f4 (by omega)
  have r1 := rA hT.1 hj (by omega)
  have r2 := rA (f1.out (by omega) hT.2.1) hj (by omega)
  have r3 := rA (f2.out (by omega) (f1.out (by omega) hT.2.2.1)) hj (by omega)
  have r4 := rLg (f3.out (by omega) (f2.out (by omega) (f1.out (by omega) hT.2.2.2))) hj (by omega)
  refine ⟨w4, ?_, h4, hT4, (((f1.mono (by omega) (by omega)).tr (f2.mono (by omega) (by omega))).tr (f3.mono (by omega) (by omega))).tr (f4.mono (by omega) (by omega))⟩
  unfold f_R_moveTable
  simp only [↓bd (rRr h 6 59 rfl), ↓bd r1, ↓bd a1, ↓bd (rRr h1 7 60 rfl), ↓bd r2, ↓bd a2, ↓bd (rRr h2 8 61 rfl), ↓bd r3, ↓bd a3, ↓bd (rRr h3 9 62 rfl), ↓bd r4, ↓bd a4]
/-! the mask of the spoiled blocks -/
def bL (x : Int64) (b : Nat) : Bool := x.toBitVec.getLsbD b
theorem bL_ext {x y : Int64} (h : ∀ b, b < 64 → bL x b = bL y b) : x = y := Int64.toBitVec_inj.mp (BitVec.eq_of_getLsbD_eq (fun i hi => h i hi))
theorem bL_c : ∀ k, k < 64 → (((nI k).toInt64 &&& 63).toBitVec.smod 64).toNat = k := by decide +kernel
theorem bL_1 : ∀ k, k < 64 → ((1 : Int64) <<< ((nI k).toInt64 &&& 63)).toBitVec = BitVec.twoPow 64 k := by decide +kernel
theorem bL_zero (b : Nat) : bL 0 b = false := BitVec.getLsbD_zero
/-- the bit that the code asks for -/
theorem bit_ok {x : Int64} {b : Nat} (hb : b < 64) : lg_cmp ((x >>> (Int32.toInt64 (nI b) &&& 63)) &&& (1 : Int64)) (0 : Int64) = 0 ↔ bL x b = false := by
  rw [lg_cmp_eq]
  have h1 : ((x >>> (Int32.toInt64 (nI b) &&& 63)) &&& (1 : Int64)).toBitVec = x.toBitVec.sshiftRight b &&& 1#64 := by
    rw [Int64.toBitVec_and, Int64.toBitVec_shiftRight]
    show (BitVec.sshiftRight x.toBitVec _) &&& 1#64 = _
    rw [bL_c b hb]
  constructor
  · intro h
    have h2 := congrArg (fun z : Int64 => z.toBitVec.getLsbD 0) h
    simp only [h1, BitVec.getLsbD_and, BitVec.getLsbD_sshiftRight] at h2
    simpa [hb, bL] using h2
  · intro h
    apply Int64.toBitVec_inj.mp
    rw [h1]
    apply BitVec.eq_of_getLsbD_eq
    intro i hi
    rw [BitVec.getLsbD_and, BitVec.getLsbD_sshiftRight]
    by_cases hi0 : i = 0
    · subst hi0
      have h : x.toBitVec.getLsbD b = false := h
      simpa [hb] using h
    · have : (1#64).getLsbD i = false := by
        rw [BitVec.getLsbD_one]; simp [hi0]
      rw [this, Bool.and_false]
      exact (BitVec.getLsbD_zero).symm
theorem bL_or {x : Int64} {b c : Nat} (hb : b < 64) (hc : c < 64) : bL (x ||| ((1 : Int64) <<< (Int32.toInt64 (nI c) &&& 63))) b = (bL x b || decide (c = b)) := by
  unfold bL
  rw [Int64.toBitVec_or, BitVec.getLsbD_or, bL_1 c hc, BitVec.getLsbD_twoPow]
  simp [hc]
def mskB (rows : List Row) : Nat → BitVec 64
  | 0 => 0#64
  | n + 1 => mskB rows n ||| (if sb rows n then BitVec.twoPow 64 n else 0#64)
def msk (rows : List Row) : Int64 := Int64.ofBitVec (mskB rows 64)
theorem mskB_bit (rows : List Row) {b : Nat} (hb : b < 64) : ∀ n, n ≤ 64 → (mskB rows n).getLsbD b = (decide (b < n) && sb rows b) := by
  intro n
  induction n with
  | zero => intro _; simp [mskB]
  | succ n ih =>
    intro hn
    rw [mskB, BitVec.getLsbD_or, ih (by omega)]
    by_cases hbn : b = n
    · subst hbn
      cases hs : sb rows b <;> simp [hs, BitVec.getLsbD_twoPow, hb]
    · have h1 : (if sb rows n then BitVec.twoPow 64 n else 0#64).getLsbD b = false := by
        split
        · rw [BitVec.getLsbD_twoPow]; simp; omega
        · exact BitVec.getLsbD_zero
      rw [h1, Bool.or_false]
      have : decide (b < n + 1) = decide (b < n) := by
        by_cases h : b < n
        · simp [h]; omega
        · simp [h]; omega
      rw [this]
theorem msk_bit (rows : List Row) {b : Nat} (hb : b < 64) : bL (msk rows) b = sb rows b := by
  unfold bL msk
  rw [Int64.toBitVec_ofBitVec, mskB_bit rows hb 64 (Nat.le_refl _)]
  simp [hb]
theorem sb_big {rows : List Row} {b : Nat} (h : rows.length ≤ 4 * b) : sb rows b = false := by
  unfold sb
  rw [List.getElem?_eq_none h]
theorem msk_zero {rows : List Row} (h : ∀ r ∈ rows, r.2.2.2.2 = 0) : msk rows = 0 := bL_ext fun b hb => by
  rw [msk_bit rows hb, bL_zero]
  unfold sb
  split
  · rename_i r hr
    simp [h r (List.mem_of_getElem? hr)]
  · rfl
theorem nsb_zero {rows : List Row} : nsb rows = 0 ↔ ∀ b, sb rows b = false := by
  unfold nsb
  rw [List.countP_eq_zero]
  constructor
  · intro h b
    by_cases hb : b < nb rows.length
    · have := h b (by simp; omega)
      simpa using this
    · exact sb_big (by unfold nb at hb; omega)
  · intro h b _
    simp [h b]
theorem msk_nsb {rows : List Row} (hl : rows.length ≤ 240) : msk rows = 0 ↔ nsb rows = 0 := by
  rw [nsb_zero]
  constructor
  · intro h b
    by_cases hb : b < 64
    · rw [← msk_bit rows hb, h, bL_zero]
    · exact sb_big (by omega)
  · intro h
    exact bL_ext fun b hb => by rw [msk_bit rows hb, bL_zero, h b]
theorem sb_spR {rows : List Row} {c b : Nat} (hc : 4 * c < rows.length) : sb (spR c rows) b = (sb rows b || decide (c = b)) := by
  have l1 : (rows.take (4 * c)).length = 4 * c := by simp; omega
  have l2 : (((rows.drop (4 * c)).take 4).map sp1).length = min 4 (rows.length - 4 * c) := by simp
  unfold sb spR
  by_cases h1 : b < c
  · have : ¬ c = b := by omega
    rw [List.getElem?_append_left (by rw [l1]; omega), List.getElem?_take, if_pos (by omega)]
    simp [this]
  · by_cases h2 : b = c
    · subst h2
      rw [List.getElem?_append_right (by rw [l1]; omega), l1, Nat.sub_self, List.getElem?_append_left (by rw [l2]; omega), List.getElem?_map, List.getElem?_take, if_pos (by omega), List.getElem?_drop, Nat.add_zero, List.getElem?_eq_getElem hc]
      simp [sp1]
    · have : ¬ c = b := by omega
      rw [List.getElem?_append_right (by rw [l1]; omega), l1]
      by_cases h3 : 4 * c + 4 ≤ rows.length
      · rw [List.getElem?_append_right (by rw [l2]; omega), l2, List.getElem?_drop]
        have : 4 * c + 4 + (4 * b - 4 * c - min 4 (rows.length - 4 * c)) = 4 * b := by omega
        rw [this]
        rename_i hne
        simp [hne]
      · have e1 : ∀ x : List Row, (((rows.drop (4 * c)).take 4).map sp1 ++ rows.drop (4 * c + 4))[4 * b - 4 * c]? = none := fun _ => by
          rw [List.getElem?_eq_none]
          simp only [List.length_append, l2, List.length_drop]
          omega
        rw [e1 [], List.getElem?_eq_none (show rows.length ≤ 4 * b by omega)]
        simp [this]
theorem msk_spR {rows : List Row} {c : Nat} (hc : 4 * c < rows.length) (hc6 : c < 64) : msk (spR c rows) = (msk rows ||| ((1 : Int64) <<< (Int32.toInt64 (nI c) &&& 63))) := bL_ext fun b hb => by
  rw [msk_bit _ hb, bL_or hb hc6, msk_bit _ hb, sb_spR hc]
/-! the tables of the reference -/
def rt (t : Tab) : TT := (t.1, t.2.1, nI t.2.2.length, msk t.2.2)
def isRt (w : ga_W) (sc : Nat → Int32) (tabs : List Tab) : Prop := isRh w sc ∧ sc 5 = nI (fl tabs).length ∧ sc 10 = nI tabs.length ∧ (fl tabs).length ≤ 240 ∧ tabs.length ≤ 240 ∧ (∃ R, isA w 55 260 R ∧ pu_ag R (fl tabs)) ∧ (∃ T, isT w T ∧ pu_ag T (tabs.map rt))
theorem isRt.fr {w w' : ga_W} {sc : Nat → Int32} {tabs : List Tab} {e k : Nat} (h : isRt w sc tabs) (hf : pu_F w w' e k) (he : 63 ≤ e ∨ e + k ≤ 54) : isRt w' sc tabs := by
  obtain ⟨h1, h2, h3, h4, h5, ⟨R, h6, h7⟩, ⟨T, h8, h9⟩⟩ := h
  exact ⟨h1.fr hf (by omega), h2, h3, h4, h5, ⟨R, h6.fr hf (by omega), h7⟩, ⟨T, h8.fr hf (by omega), h9⟩⟩
/-- another number of the head -/
theorem isRt.sc {w w' : ga_W} {sc sc' : Nat → Int32} {tabs : List Tab} (h : isRt w sc tabs) (hf : pu_F w w' 54 1) (hh : isRh w' sc') (h5 : sc' 5 = sc 5) (h10 : sc' 10 = sc 10) : isRt w' sc' tabs := by
  obtain ⟨h1, h2, h3, h4, h5', ⟨R, h6, h7⟩, ⟨T, h8, h9⟩⟩ := h
  exact ⟨hh, h5.trans h2, h10.trans h3, h4, h5', ⟨R, h6.fr hf (by omega), h7⟩, ⟨T, h8.fr hf (by omega), h9⟩⟩
theorem rT_at {w : ga_W} {sc : Nat → Int32} {tabs : List Tab} {i : Nat} {t : Tab} (h : isRt w sc tabs) (ht : tabs[i]? = some t) : ga_ai w 0 59 (nI i) = some t.1 ∧ ga_ai w 0 60 (nI i) = some t.2.1 ∧ ga_ai w 0 61 (nI i) = some (nI t.2.2.length) ∧ ga_al w 2 62 (nI i) = some (msk t.2.2) := by
  obtain ⟨h1, h2, h3, h4, h5, -, ⟨T, h8, h9⟩⟩ := h
  have hl : i < tabs.length := (List.getElem?_eq_some_iff.mp ht).1
  have hT : T i = rt t := h9.at (by rw [List.getElem?_map, ht]; rfl)
  have r1 := rA h8.1 (show i < 260 by omega) (by omega)
  have r2 := rA h8.2.1 (show i < 260 by omega) (by omega)
  have r3 := rA h8.2.2.1 (show i < 260 by omega) (by omega)
  have r4 := rLg h8.2.2.2 (show i < 260 by omega) (by omega)
  rw [hT] at r1 r2 r3 r4
  exact ⟨r1, r2, r3, r4⟩
theorem rRow {w : ga_W} {sc : Nat → Int32} {tabs : List Tab} {i : Nat} {r : Row} (h : isRt w sc tabs) (hr : (fl tabs)[i]? = some r) : ga_ai w 0 55 (nI i) = some r.1 ∧ ga_ai w 0 56 (nI i) = some r.2.1 ∧ ga_ai w 0 57 (nI i) = some r.2.2.1 ∧ ga_az w 1 58 (nI i) = some r.2.2.2.1 := by
  obtain ⟨h1, h2, h3, h4, h5, ⟨R, h6, h7⟩, -⟩ := h
  have hl : i < (fl tabs).length := (List.getElem?_eq_some_iff.mp hr).1
  have hR : R i = r := h7.at hr
  have r1 := rA h6.1 (show i < 260 by omega) (by omega)
  have r2 := rA h6.2.1 (show i < 260 by omega) (by omega)
  have r3 := rA h6.2.2.1 (show i < 260 by omega) (by omega)
  have r4 := rZ h6.2.2.2.1 (show i < 260 by omega) (by omega)
  rw [hR] at r1 r2 r3 r4
  exact ⟨r1, r2, r3, r4⟩
theorem zR_start_loop {F : Nat} {w : ga_W} {sc : Nat → Int32} {tabs : List Tab} (h : isRt w sc tabs) {p : Nat} (hp : p ≤ tabs.length) : ∀ (m i n : Nat), i + m = p → m < n → f_R_start_4 F 54 (nI p) n (nI (fl (tabs.take i)).length) (nI i) w = some (.inl (some (.int (nI (fl (tabs.take p)).length))), w) := by
  have hl := h.2.2.2.2.1
  intro m
  induction m with
  | zero =>
    intro i n hm hn
    obtain ⟨n, rfl⟩ : ∃ k, n = k + 1 := ⟨n - 1, by omega⟩
    have : i = p := by omega
    subst this
    rw [f_R_start_4]
    simp only [↓ip (Int32.le_refl _)]
  | succ m ih =>
    intro i n hm hn
    obtain ⟨n, rfl⟩ : ∃ k, n = k + 1 := ⟨n - 1, by omega⟩
    have h1 : ¬ nI p ≤ nI i := nI_ge (by omega) (by omega)
    have hlt : i < tabs.length := by omega
    obtain ⟨t, ht⟩ : ∃ t, tabs[i]? = some t := ⟨_, List.getElem?_eq_getElem hlt⟩
    have hsz := (rT_at h ht).2.2.1
    rw [f_R_start_4]
    simp only [↓iN h1, ↓bd (rRr h.1 8 61 rfl), ↓bd hsz]
    rw [nI_add, nI_1]
    have e1 : (fl (tabs.take i)).length + t.2.2.length = (fl (tabs.take (i + 1))).length := by
      rw [List.take_add_one, ht, fl_app]
      simp [fl_cons, fl_nil]
    rw [e1]
    exact ih (i + 1) n (by omega) (by omega)
theorem zR_start {F : Nat} {w : ga_W} {sc : Nat → Int32} {tabs : List Tab} {p : Nat} (hF : 1000 < F) (h : isRt w sc tabs) (hp : p ≤ tabs.length) : f_R_start F 54 (nI p) w = some (.inl (some (.int (nI (fl (tabs.take p)).length))), w) := by
  have hl := h.2.2.2.2.1
  unfold f_R_start
  have := zR_start_loop (F := F) h hp p 0 F (by omega) (by omega)
  simpa [nI_0, fl_nil] using this
theorem zR_start' {F : Nat} {w : ga_W} {sc : Nat → Int32} {pre post : List Tab} (hF : 1000 < F) (h : isRt w sc (pre ++ post)) : f_R_start F 54 (nI pre.length) w = some (.inl (some (.int (nI (fl pre).length))), w) := by
  have := zR_start (F := F) (p := pre.length) hF h (by simp)
  rwa [List.take_left] at this
theorem rR_len {w : ga_W} {sc : Nat → Int32} {pre post : List Tab} {t : Tab} (h : isRt w sc (pre ++ t :: post)) : (fl pre).length + t.2.2.length + (fl post).length ≤ 240 ∧ pre.length + post.length < 240 := by
  have h1 := h.2.2.2.1
  have h2 := h.2.2.2.2.1
  simp only [fl_app, fl_cons, List.length_append, List.length_cons] at h1 h2
  omega
theorem fl3 (pre post : List Tab) (t : Tab) : fl (pre ++ t :: post) = fl pre ++ (t.2.2 ++ fl post) := by simp [fl_app, fl_cons]
theorem zR_low {F : Nat} {w : ga_W} {sc : Nat → Int32} {pre post : List Tab} {t : Tab} (hF : 1000 < F) (h : isRt w sc (pre ++ t :: post)) (ht : t.2.2 ≠ []) : f_R_low F 54 (nI pre.length) w = some (.inl (some (.int (lo t))), w) := by
  obtain ⟨r, h1, h2⟩ := lo_at ht
  have hr : (fl (pre ++ t :: post))[(fl pre).length]? = some r := by rw [fl3]; exact at30 h1
  have hk := (rRow h hr).1
  rw [h2] at hk
  unfold f_R_low
  simp only [↓bd (rRr h.1 1 55 rfl), ↓ip (rR_is h.1), ↓gcI (zR_start' hF h), ↓bd hk]
theorem zR_high {F : Nat} {w : ga_W} {sc : Nat → Int32} {pre post : List Tab} {t : Tab} (hF : 1000 < F) (h : isRt w sc (pre ++ t :: post)) (ht : t.2.2 ≠ []) : f_R_high F 54 (nI pre.length) w = some (.inl (some (.int (hi t))), w) := by
  obtain ⟨r, h1, h2⟩ := hi_at ht
  have h4 : 1 ≤ t.2.2.length := List.length_pos_iff.mpr ht
  have hr : (fl (pre ++ t :: post))[(fl pre).length + (t.2.2.length - 1)]? = some r := by rw [fl3]; exact at3 h1
  have hk := (rRow h hr).1
  rw [h2] at hk
  have hsz := (rT_at h (show (pre ++ t :: post)[pre.length]? = some t by simp)).2.2.1
  unfold f_R_high
  simp only [↓bd (rRr h.1 1 55 rfl), ↓ip (rR_is h.1), ↓gcI (zR_start' hF h), ↓bd (rRr h.1 8 61 rfl), ↓bd hsz]
  rw [nI_add, nI_s1 (by omega), Nat.add_sub_assoc h4]
  simp only [↓bd hk]
theorem rR5 {w : ga_W} {sc : Nat → Int32} {tabs : List Tab} (h : isRt w sc tabs) : ga_gi w 6 5 54 = some (nI (fl tabs).length) := by rw [rR h.1 5 rfl, h.2.1]
theorem rR10 {w : ga_W} {sc : Nat → Int32} {tabs : List Tab} (h : isRt w sc tabs) : ga_gi w 6 10 54 = some (nI tabs.length) := by rw [rR h.1 10 rfl, h.2.2.1]
theorem zR_onLevel_loop {F : Nat} {w : ga_W} {sc : Nat → Int32} {lev : Int32} (post : List Tab) : ∀ (pre : List Tab) (n c : Nat), isRt w sc (pre ++ post) → post.length < n → f_R_onLevel_4 F 54 lev n (nI c) (nI pre.length) w = some (.inl (some (.int (nI (c + cl lev post)))), w) := by
  induction post with
  | nil =>
    intro pre n c h hn
    obtain ⟨n, rfl⟩ : ∃ k, n = k + 1 := ⟨n - 1, by simp at hn; omega⟩
    simp only [List.append_nil] at h
    rw [f_R_onLevel_4]
    simp only [↓bd (rR10 h), ↓ip (Int32.le_refl _), cl, List.countP_nil, Nat.add_zero]
  | cons t post ih =>
    intro pre n c h hn
    obtain ⟨n, rfl⟩ : ∃ k, n = k + 1 := ⟨n - 1, by simp at hn; omega⟩
    have hl := rR_len h
    simp only [List.length_cons] at hn
    have h1 : ¬ nI (pre ++ t :: post).length ≤ nI pre.length := nI_ge (by simp) (by simp; omega)
    have hlv := (rT_at h (show (pre ++ t :: post)[pre.length]? = some t by simp)).2.1
    have e1 := fun c => ih (pre ++ [t]) n c (by simpa using h) (by omega)
    simp only [List.length_append, List.length_cons, List.length_nil, Nat.zero_add] at e1
    rw [f_R_onLevel_4]
    simp only [↓bd (rR10 h), ↓iN h1, ↓bd (rRr h.1 7 60 rfl), ↓bd hlv]
    by_cases hx : t.2.1 = lev
    · simp only [↓ip hx]
      rw [nI_1, nI_1, e1]
      simp [hx, cl, List.countP_cons, Nat.add_comm, Nat.add_left_comm, Nat.add_assoc]
    · simp only [↓iN hx]
      rw [nI_1, e1]
      simp [hx, cl, List.countP_cons]
theorem zR_onLevel {F : Nat} {w : ga_W} {sc : Nat → Int32} {lev : Int32} {tabs : List Tab} (hF : 1000 < F) (h : isRt w sc tabs) : f_R_onLevel F 54 lev w = some (.inl (some (.int (nI (cl lev tabs)))), w) := by
  have hl := h.2.2.2.2.1
  unfold f_R_onLevel
  have := zR_onLevel_loop (F := F) (lev := lev) tabs [] F 0 (by simpa using h) (by omega)
  simpa [nI_0] using this
theorem zR_in {F : Nat} {x a b : Int32} {w : ga_W} : f_R_in F x a b w = some (.inl (some (.int (if a ≤ x ∧ x ≤ b then 1 else 0))), w) := by
  unfold f_R_in
  by_cases h1 : x < a
  · have : ¬ (a ≤ x ∧ x ≤ b) := fun h => absurd h1 (Int32.not_lt.mpr h.1)
    rw [if_pos h1, if_neg this]
  · by_cases h2 : b < x
    · have : ¬ (a ≤ x ∧ x ≤ b) := fun h => absurd h2 (Int32.not_lt.mpr h.2)
      rw [if_neg h1, if_pos h2, if_neg this]
    · rw [if_neg h1, if_neg h2, if_pos ⟨Int32.not_lt.mp h1, Int32.not_lt.mp h2⟩]
theorem zR_inT {F : Nat} {x a b : Int32} {w : ga_W} (h : a ≤ x ∧ x ≤ b) : f_R_in F x a b w = some (.inl (some (.int 1)), w) := by rw [zR_in, if_pos h]
theorem zR_inF {F : Nat} {x a b : Int32} {w : ga_W} (h : ¬ (a ≤ x ∧ x ≤ b)) : f_R_in F x a b w = some (.inl (some (.int 0)), w) := by rw [zR_in, if_neg h]
theorem zR_raise {F : Nat} {w : ga_W} {sc : Nat → Int32} {x : Int32} (h : isRh w sc) : ∃ w', f_R_raise F 54 x w = some (.inl (some (.int 0)), w') ∧ isRh w' (pu_up sc 0 x) ∧ pu_F w w' 54 1 := by
  obtain ⟨w1, a1, a2, a3⟩ := zR h 0 x (by omega) rfl
  refine ⟨w1, ?_, a2, a3⟩
  unfold f_R_raise
  simp only [↓bd a1]
