/-! PURE, 14: the class looks -/
theorem split1 {α : Type} {xs : List α} {i : Nat} {x : α} (h : xs[i]? = some x) : xs = xs.take i ++ x :: xs.drop (i + 1) ∧ (xs.take i).length = i := by
  obtain ⟨h1, h2⟩ := List.getElem?_eq_some_iff.mp h
  refine ⟨?_, by simp; omega⟩
  rw [← h2, List.getElem_cons_drop, List.take_append_drop]
theorem in59 {x M : Int32} {m : Nat} (hM : M.toInt = m) (h : 0 ≤ x ∧ x ≤ M) : ∃ i, i ≤ m ∧ x = nI i := nI_of2 hM (Int32.not_lt.mpr h.1) h.2
theorem isVs.tabTo {w w' : ga_W} {lv : LV} {sh sp : Nat} {tabs' : List Tab} (h : isVs w lv) (hv : isVh w sh sp lv.2.1 lv.2.2.1 lv.2.2.2.1) (hf : pu_F w w' sh 10) (hs : isSh w' sh tabs' []) : isVs w' (tabs', lv.2) := by
  obtain ⟨sh1, sp1, h1, h2, ⟨T, l, h3⟩, ⟨xs, P, O, h4⟩, ⟨ms, h5⟩, ⟨J, h6⟩, ⟨Q, h7, h8⟩⟩ := h
  have e1 : sh1 = sh := by have a := rV_sh h1; rw [rV_sh hv] at a; exact (Option.some.inj a).symm
  have e2 : sp1 = sp := by have a := rV_sp h1; rw [rV_sp hv] at a; exact (Option.some.inj a).symm
  subst e1
  subst e2
  have hd := h1.d
  exact ⟨sh1, sp1, h1.fr hf (by omega), hs, ⟨T, l, h3.fr hf (by omega)⟩, ⟨xs, P, O, h4.fr hf (by omega)⟩, ⟨ms, h5.fr hf (by omega)⟩, ⟨J, hf.out (by omega) h6⟩, ⟨Q, hf.out (by omega) h7, h8⟩⟩
theorem zL_spoil {F : Nat} {w : ga_W} {lv : LV} {mem : List Row} {recs : List Nat} {syn : Nat} {bt : Option (List Row)} {sn : Nat → Int32} {lt : Nat} {rd ms gt x y : Int32} (hF : 1000 < F) (h : isL w lv mem recs syn bt sn lt rd ms gt) :
    (¬ ((0 ≤ x ∧ x ≤ 59) ∧ (0 ≤ y ∧ y ≤ 59)) → f_L_spoil F 0 x y w = some (.inr 0, xw w)) ∧
    (∀ i b, i ≤ 59 → b ≤ 59 → x = nI i → y = nI b → (lv.1[i]? = none ∨ ∃ t, lv.1[i]? = some t ∧ t.2.2.length ≤ 4 * b) → f_L_spoil F 0 x y w = some (.inr 4, xw w)) ∧
    (∀ i b t, i ≤ 59 → b ≤ 59 → x = nI i → y = nI b → lv.1[i]? = some t → 4 * b < t.2.2.length → ∃ w', f_L_spoil F 0 x y w = some (.inl (some (.int (nI (min 4 (t.2.2.length - 4 * b))))), w') ∧ isL w' (lv.1.take i ++ (t.1, t.2.1, spR b t.2.2) :: lv.1.drop (i + 1), lv.2) mem recs syn bt sn lt rd ms gt ∧ pu_L w w') := by
  obtain ⟨h0, h1, h2, ⟨pd, h3, h4⟩, h5⟩ := h
  obtain ⟨sh, sp, hv, hs, -⟩ := id h2
  have hd := hv.d
  have htl := hs.2.1
  have inn : ∀ i, i ≤ 59 → 0 ≤ nI i ∧ nI i ≤ 59 := fun i hi => ⟨nI_pos' (by omega), by rw [show (59 : Int32) = nI 59 by decide]; exact nI_le (by omega) (by omega)⟩
  refine ⟨fun hx => ?_, fun i b hi hb hx hy hor => ?_, fun i b t hi hb hx hy ht hlt => ?_⟩
  · unfold f_L_spoil
    by_cases h1 : 0 ≤ x ∧ x ≤ 59
    · have h2 : ¬ (0 ≤ y ∧ y ≤ 59) := fun h2 => hx ⟨h1, h2⟩
      simp only [↓gcV (zL_in h1), ↓gcX (zL_out h2)]
      rfl
    · simp only [↓gcX (zL_out h1)]
      rfl
  · subst hx
    subst hy
    unfold f_L_spoil
    simp only [↓gcV (zL_in (inn i hi)), ↓gcV (zL_in (inn b hb)), ↓bd (rL_v h0), ↓bd (rV_sh hv), ↓bd (rS_tables hs)]
    rcases hor with hn | ⟨t, ht, hl⟩
    · have : lv.1.length ≤ i := List.getElem?_eq_none_iff.mp hn
      simp only [↓ip (nI_le this (by omega))]
      rfl
    · obtain ⟨hsp, hln⟩ := split1 ht
      have hlt : i < lv.1.length := (List.getElem?_eq_some_iff.mp ht).1
      have hs2 := hs
      rw [hsp] at hs2
      have hbo := zS_blocksOf (F := F) hs2
      rw [hln] at hbo
      have hrl := rS_len hs2
      have c2 : ¬ nI b < nI (nb t.2.2.length) := nI_nlt (by unfold nb; omega) (by omega)
      simp only [↓iN (nI_ge hlt (by omega)), ↓bd (rL_v h0), ↓bd (rV_sh hv), ↓ip (rS_is hs), ↓gcI hbo, ↓iN c2]
      rfl
  · subst hx
    subst hy
    obtain ⟨hsp, hln⟩ := split1 ht
    have hlt2 : i < lv.1.length := (List.getElem?_eq_some_iff.mp ht).1
    have hs2 := hs
    rw [hsp] at hs2
    have hbo := zS_blocksOf (F := F) hs2
    obtain ⟨w1, e1, e2, e3⟩ := zS_spoilBlock (F := F) hs2 hF hlt
    rw [hln] at hbo e1
    have hrl := rS_len hs2
    have c2 : nI b < nI (nb t.2.2.length) := nI_lt (by unfold nb; omega) (by unfold nb; omega)
    refine ⟨w1, ?_, ⟨h0.fr e3 (by omega), h1.fr e3 (by omega), isVs.tabTo h2 hv e3 e2, ⟨pd, h3.fr e3 (by omega), h4⟩, h5.fr e3 (by omega)⟩, e3.L (by omega)⟩
    unfold f_L_spoil
    simp only [↓gcV (zL_in (inn i hi)), ↓gcV (zL_in (inn b hb)), ↓bd (rL_v h0), ↓bd (rV_sh hv), ↓bd (rS_tables hs), ↓iN (nI_ge hlt2 (by omega)), ↓ip (rS_is hs), ↓gcI hbo, ↓ip c2, ↓gcI e1]
/-- what table(i, what) answers -/
def tbV (t : Tab) (q : Nat) : Int32 := if q = 0 then t.1 else if q = 1 then t.2.1 else if q = 2 then nI t.2.2.length else if q = 3 then lo t else if q = 4 then hi t else if q = 5 then nI (nsb t.2.2) else (match t.2.2[q - 6]? with | some r => r.2.1 | none => 0)
theorem zL_table {F : Nat} {w : ga_W} {lv : LV} {mem : List Row} {recs : List Nat} {syn : Nat} {bt : Option (List Row)} {sn : Nat → Int32} {lt : Nat} {rd ms gt x y : Int32} (hF : 1000 < F) (h : isL w lv mem recs syn bt sn lt rd ms gt) (hne : ∀ t ∈ lv.1, t.2.2 ≠ []) :
    (¬ ((0 ≤ x ∧ x ≤ 59) ∧ (0 ≤ y ∧ y ≤ 15)) → f_L_table F 0 x y w = some (.inr 0, xw w)) ∧
    (∀ i q, i ≤ 59 → q ≤ 15 → x = nI i → y = nI q → lv.1[i]? = none → f_L_table F 0 x y w = some (.inr 4, xw w)) ∧
    (∀ i q t, i ≤ 59 → q ≤ 15 → x = nI i → y = nI q → lv.1[i]? = some t → f_L_table F 0 x y w = some (.inl (some (.int (tbV t q))), w)) := by
  obtain ⟨h0, h1, h2, ⟨pd, h3, h4⟩, h5⟩ := h
  obtain ⟨sh, sp, hv, hs, -⟩ := id h2
  have htl := hs.2.1
  have inn : ∀ i, i ≤ 59 → 0 ≤ nI i ∧ nI i ≤ 59 := fun i hi => ⟨nI_pos' (by omega), by rw [show (59 : Int32) = nI 59 by decide]; exact nI_le (by omega) (by omega)⟩
  have inq : ∀ i, i ≤ 15 → 0 ≤ nI i ∧ nI i ≤ 15 := fun i hi => ⟨nI_pos' (by omega), by rw [show (15 : Int32) = nI 15 by decide]; exact nI_le (by omega) (by omega)⟩
  refine ⟨fun hx => ?_, fun i q hi hq hx hy hn => ?_, fun i q t hi hq hx hy ht => ?_⟩
  · unfold f_L_table
    by_cases h1 : 0 ≤ x ∧ x ≤ 59
    · have h2 : ¬ (0 ≤ y ∧ y ≤ 15) := fun h2 => hx ⟨h1, h2⟩
      simp only [↓gcV (zL_in h1), ↓gcX (zL_out h2)]
      rfl
    · simp only [↓gcX (zL_out h1)]
      rfl
  · subst hx
    subst hy
    have hle : lv.1.length ≤ i := List.getElem?_eq_none_iff.mp hn
    unfold f_L_table
    simp only [↓gcV (zL_in (inn i hi)), ↓gcV (zL_in (inq q hq)), ↓bd (rL_v h0), ↓bd (rV_sh hv), ↓bd (rS_tables hs), ↓iN (nI_nlt hle (by omega))]
    rfl
  · subst hx
    subst hy
    have hlt : i < lv.1.length := (List.getElem?_eq_some_iff.mp ht).1
    obtain ⟨hsp, hln⟩ := split1 ht
    have hnt := hne t (List.mem_of_getElem? ht)
    have hs2 := hs
    rw [hsp] at hs2
    have g2 := zS_sizeOf (F := F) hs2
    have g3 := zS_leastKey (F := F) hs2 hnt
    have g4 := zS_greatestKey (F := F) hs2 hnt
    have g5 := zS_spoiledBlocksOf (F := F) hs2 hF
    have g6 := fun e he => zS_entryNumber (F := F) (e := e) hs2 he
    rw [hln] at g2 g3 g4 g5
    simp only [hln] at g6
    unfold f_L_table
    simp only [↓gcV (zL_in (inn i hi)), ↓gcV (zL_in (inq q hq)), ↓bd (rL_v h0), ↓bd (rV_sh hv), ↓bd (rS_tables hs), ↓ip (nI_lt hlt (by omega))]
    have l0 : (0 : Int32) = nI 0 := by decide
    have l1 : (1 : Int32) = nI 1 := by decide
    have l2 : (2 : Int32) = nI 2 := by decide
    have l3 : (3 : Int32) = nI 3 := by decide
    have l4 : (4 : Int32) = nI 4 := by decide
    have l5 : (5 : Int32) = nI 5 := by decide
    have l6 : (6 : Int32) = nI 6 := by decide
    have eqn : ∀ a b, a < 100 → b < 100 → (nI a = nI b ↔ a = b) := fun a b ha hb => nI_inj (by omega) (by omega)
    unfold tbV
    by_cases q0 : q = 0
    · subst q0; rw [if_pos (by decide), if_pos rfl]; simp only [↓bd (rS_n hs), ↓bd (rS_num hs ht)]
    · rw [if_neg (by rw [l0, eqn q 0 (by omega) (by omega)]; exact q0), if_neg q0]
      by_cases q1 : q = 1
      · subst q1; rw [if_pos (by decide), if_pos rfl]; simp only [↓bd (rS_l hs), ↓bd (rS_lev hs ht)]
      · rw [if_neg (by rw [l1, eqn q 1 (by omega) (by omega)]; exact q1), if_neg q1]
        by_cases q2 : q = 2
        · subst q2; rw [if_pos (by decide), if_pos rfl]; simp only [↓ip (rS_is hs), ↓gcI g2]
        · rw [if_neg (by rw [l2, eqn q 2 (by omega) (by omega)]; exact q2), if_neg q2]
          by_cases q3 : q = 3
          · subst q3; rw [if_pos (by decide), if_pos rfl]; simp only [↓ip (rS_is hs), ↓gcI g3]
          · rw [if_neg (by rw [l3, eqn q 3 (by omega) (by omega)]; exact q3), if_neg q3]
            by_cases q4 : q = 4
            · subst q4; rw [if_pos (by decide), if_pos rfl]; simp only [↓ip (rS_is hs), ↓gcI g4]
            · rw [if_neg (by rw [l4, eqn q 4 (by omega) (by omega)]; exact q4), if_neg q4]
              by_cases q5 : q = 5
              · subst q5; rw [if_pos (by decide), if_pos rfl]; simp only [↓ip (rS_is hs), ↓gcI g5]
              · rw [if_neg (by rw [l5, eqn q 5 (by omega) (by omega)]; exact q5), if_neg q5]
                rw [l6, nI_sub (show 6 ≤ q by omega)]
                simp only [↓ip (rS_is hs), ↓gcI (g6 (q - 6) (by omega))]
                rfl
/-- what count(what) answers -/
def cnV (lv : LV) (mem : List Row) (recs : List Nat) (syn lt : Nat) (rd ms gt : Int32) (q : Nat) : Int32 := if q = 0 then nI lt else if q = 1 then nI mem.length else if q = 2 then nI recs.length else if q = 3 then nI syn else if q = 4 then nI lv.1.length else if q = 5 then (if lv.2.1 = 0 then 0 else 1) else if q = 6 then rd else if q = 7 then ms else if q = 8 then gt else if q = 9 then lv.2.2.1 else if q = 10 then lv.2.2.2.1 else if q = 15 then lv.2.2.2.2.1 else if q = 16 then lv.2.2.2.2.2 else nI (cl (nI (q - 11)) lv.1)
theorem zL_count {F : Nat} {w : ga_W} {lv : LV} {mem : List Row} {recs : List Nat} {syn : Nat} {bt : Option (List Row)} {sn : Nat → Int32} {lt : Nat} {rd ms gt x : Int32} (hF : 1000 < F) (h : isL w lv mem recs syn bt sn lt rd ms gt) :
    (¬ (0 ≤ x ∧ x ≤ 16) → f_L_count F 0 x w = some (.inr 0, xw w)) ∧ (∀ q, q ≤ 16 → x = nI q → f_L_count F 0 x w = some (.inl (some (.int (cnV lv mem recs syn lt rd ms gt q))), w)) := by
  obtain ⟨h0, h1, h2, ⟨pd, h3, h4⟩, h5⟩ := h
  obtain ⟨sh, sp, hv, hs, -, -, -, -, ⟨Q, hq1, hq2, hq3⟩⟩ := id h2
  refine ⟨fun hx => ?_, fun q hq hx => ?_⟩
  · unfold f_L_count
    simp only [↓gcX (zL_out hx)]
    rfl
  · have hx0 : 0 ≤ x ∧ x ≤ 16 := by
      subst hx
      exact ⟨nI_pos' (by omega), by rw [show (16 : Int32) = nI 16 by decide]; exact nI_le (by omega) (by omega)⟩
    subst hx
    have t1 := zS_tablesOn (F := F) (lev := nI (q - 11)) hs hF
    have r1 := rA (i := 1) hq1 (by omega) (by omega)
    have r2 := rA (i := 2) hq1 (by omega) (by omega)
    rw [hq2] at r1
    rw [hq3] at r2
    have r1 : ga_ai w 0 46 (1 : Int32) = some lv.2.2.2.2.1 := r1
    have r2 : ga_ai w 0 46 (2 : Int32) = some lv.2.2.2.2.2 := r2
    unfold f_L_count
    simp only [↓gcV (zL_in hx0), ↓jn]
    have eqn : ∀ a, a < 100 → (nI q = nI a ↔ q = a) := fun a ha => nI_inj (by omega) (by omega)
    have n11 : (11 : Int32) = nI 11 := by decide
    rcases (show q = 0 ∨ q = 1 ∨ q = 2 ∨ q = 3 ∨ q = 4 ∨ q = 5 ∨ q = 6 ∨ q = 7 ∨ q = 8 ∨ q = 9 ∨ q = 10 ∨ q = 11 ∨ q = 12 ∨ q = 13 ∨ q = 14 ∨ q = 15 ∨ q = 16 by omega) with rfl | rfl | rfl | rfl | rfl | rfl | rfl | rfl | rfl | rfl | rfl | rfl | rfl | rfl | rfl | rfl | rfl
    · simp only [show (nI 0 = 0) = True from eq_true (by decide), if_true, if_false, ↓bd (rL_lt h0)]; rfl
    · simp only [show (nI 1 = 0) = False from eq_false (by decide), show (nI 1 = 1) = True from eq_true (by decide), if_true, if_false, ↓bd (rL_m h0), ↓bd (rM_rows h1.1), ↓bd (rE_size h1.2.1)]; rfl
    · simp only [show (nI 2 = 0) = False from eq_false (by decide), show (nI 2 = 1) = False from eq_false (by decide), show (nI 2 = 2) = True from eq_true (by decide), if_true, if_false, ↓bd (rL_m h0), ↓bd (rM_recs h1.1)]; rfl
    · simp only [show (nI 3 = 0) = False from eq_false (by decide), show (nI 3 = 1) = False from eq_false (by decide), show (nI 3 = 2) = False from eq_false (by decide), show (nI 3 = 3) = True from eq_true (by decide), if_true, if_false, ↓bd (rL_m h0), ↓bd (rM_syn h1.1)]; rfl
    · simp only [show (nI 4 = 0) = False from eq_false (by decide), show (nI 4 = 1) = False from eq_false (by decide), show (nI 4 = 2) = False from eq_false (by decide), show (nI 4 = 3) = False from eq_false (by decide), show (nI 4 = 4) = True from eq_true (by decide), if_true, if_false, ↓bd (rL_v h0), ↓bd (rV_sh hv), ↓bd (rS_tables hs)]; rfl
    · simp only [show (nI 5 = 0) = False from eq_false (by decide), show (nI 5 = 1) = False from eq_false (by decide), show (nI 5 = 2) = False from eq_false (by decide), show (nI 5 = 3) = False from eq_false (by decide), show (nI 5 = 4) = False from eq_false (by decide), show (nI 5 = 5) = True from eq_true (by decide), if_true, if_false, ↓bd (rL_v h0), ↓bd (rV_st hv)]
      show _ = some (Sum.inl (some (Value.int (if lv.2.1 = 0 then 0 else 1))), w)
      split <;> rfl
    · simp only [show (nI 6 = 0) = False from eq_false (by decide), show (nI 6 = 1) = False from eq_false (by decide), show (nI 6 = 2) = False from eq_false (by decide), show (nI 6 = 3) = False from eq_false (by decide), show (nI 6 = 4) = False from eq_false (by decide), show (nI 6 = 5) = False from eq_false (by decide), show (nI 6 = 6) = True from eq_true (by decide), if_true, if_false, ↓bd (rL_rd h0)]; rfl
    · simp only [show (nI 7 = 0) = False from eq_false (by decide), show (nI 7 = 1) = False from eq_false (by decide), show (nI 7 = 2) = False from eq_false (by decide), show (nI 7 = 3) = False from eq_false (by decide), show (nI 7 = 4) = False from eq_false (by decide), show (nI 7 = 5) = False from eq_false (by decide), show (nI 7 = 6) = False from eq_false (by decide), show (nI 7 = 7) = True from eq_true (by decide), if_true, if_false, ↓bd (rL_ms h0)]; rfl
    · simp only [show (nI 8 = 0) = False from eq_false (by decide), show (nI 8 = 1) = False from eq_false (by decide), show (nI 8 = 2) = False from eq_false (by decide), show (nI 8 = 3) = False from eq_false (by decide), show (nI 8 = 4) = False from eq_false (by decide), show (nI 8 = 5) = False from eq_false (by decide), show (nI 8 = 6) = False from eq_false (by decide), show (nI 8 = 7) = False from eq_false (by decide), show (nI 8 = 8) = True from eq_true (by decide), if_true, if_false, ↓bd (rL_gt h0)]; rfl
    · simp only [show (nI 9 = 0) = False from eq_false (by decide), show (nI 9 = 1) = False from eq_false (by decide), show (nI 9 = 2) = False from eq_false (by decide), show (nI 9 = 3) = False from eq_false (by decide), show (nI 9 = 4) = False from eq_false (by decide), show (nI 9 = 5) = False from eq_false (by decide), show (nI 9 = 6) = False from eq_false (by decide), show (nI 9 = 7) = False from eq_false (by decide), show (nI 9 = 8) = False from eq_false (by decide), show (nI 9 = 9) = True from eq_true (by decide), if_true, if_false, ↓bd (rL_v h0), ↓bd (rV_mk hv)]; rfl
    · simp only [show (nI 10 = 0) = False from eq_false (by decide), show (nI 10 = 1) = False from eq_false (by decide), show (nI 10 = 2) = False from eq_false (by decide), show (nI 10 = 3) = False from eq_false (by decide), show (nI 10 = 4) = False from eq_false (by decide), show (nI 10 = 5) = False from eq_false (by decide), show (nI 10 = 6) = False from eq_false (by decide), show (nI 10 = 7) = False from eq_false (by decide), show (nI 10 = 8) = False from eq_false (by decide), show (nI 10 = 9) = False from eq_false (by decide), show (nI 10 = 10) = True from eq_true (by decide), if_true, if_false, ↓bd (rL_v h0), ↓bd (rV_dr hv)]; rfl
    · have e11 : nI 11 - 11 = nI (11 - 11) := by decide
      simp only [show (nI 11 = 0) = False from eq_false (by decide), show (nI 11 = 1) = False from eq_false (by decide), show (nI 11 = 2) = False from eq_false (by decide), show (nI 11 = 3) = False from eq_false (by decide), show (nI 11 = 4) = False from eq_false (by decide), show (nI 11 = 5) = False from eq_false (by decide), show (nI 11 = 6) = False from eq_false (by decide), show (nI 11 = 7) = False from eq_false (by decide), show (nI 11 = 8) = False from eq_false (by decide), show (nI 11 = 9) = False from eq_false (by decide), show (nI 11 = 10) = False from eq_false (by decide), show (nI 11 = 11) = True from eq_true (by decide), if_true, if_false, e11, ↓bd (rL_v h0), ↓bd (rV_sh hv), ↓ip (rS_is hs), ↓gcI t1]; rfl
    · have e11 : nI 12 - 11 = nI (12 - 11) := by decide
      simp only [show (nI 12 = 0) = False from eq_false (by decide), show (nI 12 = 1) = False from eq_false (by decide), show (nI 12 = 2) = False from eq_false (by decide), show (nI 12 = 3) = False from eq_false (by decide), show (nI 12 = 4) = False from eq_false (by decide), show (nI 12 = 5) = False from eq_false (by decide), show (nI 12 = 6) = False from eq_false (by decide), show (nI 12 = 7) = False from eq_false (by decide), show (nI 12 = 8) = False from eq_false (by decide), show (nI 12 = 9) = False from eq_false (by decide), show (nI 12 = 10) = False from eq_false (by decide), show (nI 12 = 11) = False from eq_false (by decide), show (nI 12 = 12) = True from eq_true (by decide), if_true, if_false, e11, ↓bd (rL_v h0), ↓bd (rV_sh hv), ↓ip (rS_is hs), ↓gcI t1]; rfl
    · have e11 : nI 13 - 11 = nI (13 - 11) := by decide
      simp only [show (nI 13 = 0) = False from eq_false (by decide), show (nI 13 = 1) = False from eq_false (by decide), show (nI 13 = 2) = False from eq_false (by decide), show (nI 13 = 3) = False from eq_false (by decide), show (nI 13 = 4) = False from eq_false (by decide), show (nI 13 = 5) = False from eq_false (by decide), show (nI 13 = 6) = False from eq_false (by decide), show (nI 13 = 7) = False from eq_false (by decide), show (nI 13 = 8) = False from eq_false (by decide), show (nI 13 = 9) = False from eq_false (by decide), show (nI 13 = 10) = False from eq_false (by decide), show (nI 13 = 11) = False from eq_false (by decide), show (nI 13 = 12) = False from eq_false (by decide), show (nI 13 = 13) = True from eq_true (by decide), if_true, if_false, e11, ↓bd (rL_v h0), ↓bd (rV_sh hv), ↓ip (rS_is hs), ↓gcI t1]; rfl
    · have e11 : nI 14 - 11 = nI (14 - 11) := by decide
      simp only [show (nI 14 = 0) = False from eq_false (by decide), show (nI 14 = 1) = False from eq_false (by decide), show (nI 14 = 2) = False from eq_false (by decide), show (nI 14 = 3) = False from eq_false (by decide), show (nI 14 = 4) = False from eq_false (by decide), show (nI 14 = 5) = False from eq_false (by decide), show (nI 14 = 6) = False from eq_false (by decide), show (nI 14 = 7) = False from eq_false (by decide), show (nI 14 = 8) = False from eq_false (by decide), show (nI 14 = 9) = False from eq_false (by decide), show (nI 14 = 10) = False from eq_false (by decide), show (nI 14 = 11) = False from eq_false (by decide), show (nI 14 = 12) = False from eq_false (by decide), show (nI 14 = 13) = False from eq_false (by decide), show (nI 14 = 14) = True from eq_true (by decide), if_true, if_false, e11, ↓bd (rL_v h0), ↓bd (rV_sh hv), ↓ip (rS_is hs), ↓gcI t1]; rfl
    · simp only [show (nI 15 = 0) = False from eq_false (by decide), show (nI 15 = 1) = False from eq_false (by decide), show (nI 15 = 2) = False from eq_false (by decide), show (nI 15 = 3) = False from eq_false (by decide), show (nI 15 = 4) = False from eq_false (by decide), show (nI 15 = 5) = False from eq_false (by decide), show (nI 15 = 6) = False from eq_false (by decide), show (nI 15 = 7) = False from eq_false (by decide), show (nI 15 = 8) = False from eq_false (by decide), show (nI 15 = 9) = False from eq_false (by decide), show (nI 15 = 10) = False from eq_false (by decide), show (nI 15 = 11) = False from eq_false (by decide), show (nI 15 = 12) = False from eq_false (by decide), show (nI 15 = 13) = False from eq_false (by decide), show (nI 15 = 14) = False from eq_false (by decide), show (nI 15 = 15) = True from eq_true (by decide), if_true, if_false, ↓bd (rL_v h0), ↓bd (rV_po hv), ↓bd r1]; rfl
    · simp only [show (nI 16 = 0) = False from eq_false (by decide), show (nI 16 = 1) = False from eq_false (by decide), show (nI 16 = 2) = False from eq_false (by decide), show (nI 16 = 3) = False from eq_false (by decide), show (nI 16 = 4) = False from eq_false (by decide), show (nI 16 = 5) = False from eq_false (by decide), show (nI 16 = 6) = False from eq_false (by decide), show (nI 16 = 7) = False from eq_false (by decide), show (nI 16 = 8) = False from eq_false (by decide), show (nI 16 = 9) = False from eq_false (by decide), show (nI 16 = 10) = False from eq_false (by decide), show (nI 16 = 11) = False from eq_false (by decide), show (nI 16 = 12) = False from eq_false (by decide), show (nI 16 = 13) = False from eq_false (by decide), show (nI 16 = 14) = False from eq_false (by decide), show (nI 16 = 15) = False from eq_false (by decide), show (nI 16 = 16) = True from eq_true (by decide), if_true, if_false, ↓bd (rL_v h0), ↓bd (rV_po hv), ↓bd r2]; rfl
theorem zL_effort {F : Nat} {w : ga_W} {lv : LV} {mem : List Row} {recs : List Nat} {syn : Nat} {bt : Option (List Row)} {sn : Nat → Int32} {lt : Nat} {rd ms gt : Int32} (h : isL w lv mem recs syn bt sn lt rd ms gt) :
    (gt = 0 → f_L_effort F 0 w = some (.inr 5, xw w)) ∧ (¬ gt = 0 → FP.ddiv (FP.i2d rd) (FP.i2d gt) &&& 0x7fffffffffffffff ≤ 0x7ff0000000000000 → f_L_effort F 0 w = some (.inl (some (.double (FP.ddiv (FP.i2d rd) (FP.i2d gt)))), w)) := by
  obtain ⟨h0, -⟩ := h
  refine ⟨fun hg => ?_, fun hg hd => ?_⟩
  · unfold f_L_effort
    simp only [↓bd (rL_gt h0), ↓ip hg]
    rfl
  · unfold f_L_effort
    simp only [↓bd (rL_gt h0), ↓iN hg, ↓bd (rL_rd h0), ↓ip hd]
/-! a row is looked for in the blocks of a table: how many are read, and what comes of it (none: a spoiled block) -/
def blk (key up : Int32) : Nat → List Row → Nat × Option (Option Row)
  | 0, _ => (0, some none)
  | _ + 1, [] => (0, some none)
  | n + 1, r :: rs => if r.2.2.2.2 = 0 then (match ((r :: rs).take 4).find? (pk key up) with
      | some q => (1, some (some q))
      | none => if (((r :: rs).take 4).getLastD zr).1 ≤ key then ((blk key up n ((r :: rs).drop 4)).1 + 1, (blk key up n ((r :: rs).drop 4)).2) else (1, some none)) else (1, none)
def ans (xs : List Row) (f : ga_O) (w' : ga_W) (o : Option (Option Row)) : Prop := match o with
  | none => f = some (.inr 1, xw w')
  | some q => ∃ v, f = some (.inl (some (.int v)), w') ∧ isAt xs q v
theorem take4 {r : Row} {rs : List Row} : (r :: rs).take 4 = ((r :: rs).take 4).dropLast ++ [((r :: rs).take 4).getLastD zr] := by
  have hne : (r :: rs).take 4 ≠ [] := by simp
  rw [List.getLastD_eq_getLast?, List.getLast?_eq_some_getLast hne]
  exact (List.dropLast_concat_getLast hne).symm
set_option maxHeartbeats 1000000 in
theorem zL_look51 {F : Nat} {sh : Nat} {bo lt ms gt key up : Int32} {pre post : List Tab} {t : Tab} (hF : 1000 < F) (hsh : 1 ≤ sh) : ∀ (m : Nat) (todo done : List Row) (rd : Int32) (w : ga_W) (n : Nat), t.2.2 = done ++ todo → todo.length ≤ m → isLh w bo lt rd ms gt → isSh w sh (pre ++ t :: post) [] → m < n →
    ∃ w', ans (fl pre ++ (t.2.2 ++ (fl post ++ []))) (f_L_lookInTable_51 F 0 key up sh (nI ((fl pre).length + t.2.2.length)) n (nI ((fl pre).length + done.length)) w) w' (blk key up m todo).2 ∧ isLh w' bo lt (rd + nI (blk key up m todo).1) ms gt ∧ pu_F w w' 0 1 := by
  have stop0 : ∀ (done : List Row) (w : ga_W) (n : Nat), t.2.2 = done → f_L_lookInTable_51 F 0 key up sh (nI ((fl pre).length + t.2.2.length)) (n + 1) (nI ((fl pre).length + done.length)) w = some (.inl (some (.int (-1))), w) := by
    intro done w n hd
    rw [f_L_lookInTable_51, hd]
    simp only [↓ip (Int32.le_refl _)]
  intro m
  induction m with
  | zero =>
    intro todo done rd w n hd hm h0 hs hn
    obtain ⟨n, rfl⟩ : ∃ k, n = k + 1 := ⟨n - 1, by omega⟩
    have : todo = [] := List.eq_nil_of_length_eq_zero (by omega)
    subst this
    simp only [List.append_nil] at hd
    exact ⟨w, ⟨-1, stop0 done w n hd, rfl⟩, by simpa [blk, nI_0] using h0, pu_F.rf⟩
  | succ m ih =>
    intro todo done rd w n hd hm h0 hs hn
    obtain ⟨n, rfl⟩ : ∃ k, n = k + 1 := ⟨n - 1, by omega⟩
    match todo, hd, hm with
    | [], hd, hm =>
      simp only [List.append_nil] at hd
      exact ⟨w, ⟨-1, stop0 done w n hd, rfl⟩, by simpa [blk, nI_0] using h0, pu_F.rf⟩
    | r :: rs, hd, hm =>
      have hl := rS_len hs
      have hlen : t.2.2.length = done.length + (rs.length + 1) := by rw [hd]; simp
      have h1 : ¬ nI ((fl pre).length + t.2.2.length) ≤ nI ((fl pre).length + done.length) := nI_ge (by omega) (by omega)
      have hr : (fl pre ++ (t.2.2 ++ (fl post ++ [])))[(fl pre).length + done.length]? = some r := at3 (by rw [hd]; simp)
      obtain ⟨w1, a1, a2, a3⟩ := zL_rd (x := rd + 1) h0
      have hs1 := hs.fr a3 (by omega)
      have hend : (if nI ((fl pre).length + t.2.2.length) < nI ((fl pre).length + done.length) + 4 then nI ((fl pre).length + t.2.2.length) else nI ((fl pre).length + done.length) + 4) = nI ((fl pre).length + done.length + ((r :: rs).take 4).length) := by
        rw [nI_4]
        by_cases hx : (fl pre).length + t.2.2.length < (fl pre).length + done.length + 4
        · rw [if_pos (nI_lt hx (by omega))]; congr 1; simp; omega
        · rw [if_neg (nI_nlt (by omega) (by omega))]; congr 1; simp; omega
      have hee : fl pre ++ (t.2.2 ++ (fl post ++ [])) = (fl pre ++ done) ++ ((r :: rs).take 4 ++ ((r :: rs).drop 4 ++ (fl post ++ []))) := by
        rw [hd]
        conv => lhs; rw [← List.take_append_drop 4 (r :: rs)]
        simp only [List.append_assoc]
      have hee2 := rS_e3 hs1
      rw [hee] at hee2
      obtain ⟨v, e1, e2⟩ := zE_rowOf (F := F) (key := key) (upTo := up) hee2 hF
      simp only [List.length_append (as := fl pre)] at e1
      rw [← hee] at e2
      have hlast : (fl pre ++ (t.2.2 ++ (fl post ++ [])))[(fl pre).length + done.length + ((r :: rs).take 4).length - 1]? = some (((r :: rs).take 4).getLastD zr) := by
        rw [hee]
        have hne : 0 < ((r :: rs).take 4).length := by simp
        have q1 : (fl pre).length + done.length + ((r :: rs).take 4).length - 1 = (fl pre ++ done).length + (((r :: rs).take 4).length - 1) := by rw [List.length_append]; omega
        rw [q1]
        apply at3
        rw [List.getLastD_eq_getLast?, ← List.getLast?_eq_getElem?]
        rw [List.getLast?_eq_some_getLast (List.length_pos_iff.mp hne)]
        rfl
      have hge : 1 ≤ (fl pre).length + done.length + ((r :: rs).take 4).length := by simp; omega
      by_cases hsp : r.2.2.2.2 = 0
      · cases hf : ((r :: rs).take 4).find? (pk key up) with
        | some q =>
          rw [hf] at e2
          obtain ⟨j, j1, j2, j3⟩ := id e2
          have hv1 : ¬ v = -1 := by
            rw [j2]
            have := (rS_e3 hs).1
            intro hc
            exact absurd (by rw [hc]; decide : nI j < 0) (nI_pos (by omega))
          have hb : blk key up (m + 1) (r :: rs) = (1, some (some q)) := by simp only [blk, hsp, hf, if_true]
          rw [hb]
          refine ⟨w1, ?_, a2, a3⟩
          refine ⟨v, ?_, e2⟩
          rw [f_L_lookInTable_51]
          simp only [↓iN h1, ↓bd (rL_rd h0), ↓bd a1, ↓bd (rS_rows hs1), ↓bd (rE_s (rS_e hs1)), ↓bd (rE_sp (rS_e3 hs1) hr), ↓ip hsp, ↓ip (rE_is (rS_e hs1))]
          rw [hend]
          simp only [↓gcI e1, ↓iN hv1]
        | none =>
          rw [hf] at e2
          have e2 : v = -1 := e2
          by_cases hgo : (((r :: rs).take 4).getLastD zr).1 ≤ key
          · have hlen4 : ((r :: rs).take 4).length = min 4 (rs.length + 1) := by simp; omega
            obtain ⟨w2, f1, f2, f3⟩ := ih ((r :: rs).drop 4) (done ++ (r :: rs).take 4) (rd + 1) w1 n (by rw [List.append_assoc, List.take_append_drop]; exact hd) (by simp at hm ⊢; omega) a2 hs1 (by omega)
            have hkey : nI ((fl pre).length + done.length) + 4 = nI ((fl pre).length + (done ++ (r :: rs).take 4).length) ∨ (r :: rs).drop 4 = [] := by
              by_cases h4 : 4 ≤ rs.length + 1
              · left
                rw [nI_4]; congr 1; simp; omega
              · right
                exact List.drop_of_length_le (by simp; omega)
            refine ⟨w2, ?_, ?_, a3.tr f3⟩
            · simp only [blk, hsp, hf, hgo, if_true]
              have step : f_L_lookInTable_51 F 0 key up sh (nI ((fl pre).length + t.2.2.length)) (n + 1) (nI ((fl pre).length + done.length)) w = f_L_lookInTable_51 F 0 key up sh (nI ((fl pre).length + t.2.2.length)) n (nI ((fl pre).length + done.length) + 4) w1 := by
                rw [f_L_lookInTable_51]
                simp only [↓iN h1, ↓bd (rL_rd h0), ↓bd a1, ↓bd (rS_rows hs1), ↓bd (rE_s (rS_e hs1)), ↓bd (rE_sp (rS_e3 hs1) hr), ↓ip hsp, ↓ip (rE_is (rS_e hs1))]
                rw [hend]
                rw [e2] at e1
                simp only [↓gcI e1, if_true, ↓bd (rS_rows hs1), ↓bd (rE_k (rS_e hs1))]
                rw [nI_s1 hge]
                simp only [↓bd (rE_key (rS_e3 hs1) hlast), ↓ip hgo]
              rw [step]
              rcases hkey with hkey | hnil
              · rw [hkey]; exact f1
              · -- the last block: what follows starts behind the end
                rw [hnil] at f1 ⊢
                have hb0 : (blk key up m ([] : List Row)).2 = some none := by cases m <;> rfl
                rw [hb0] at f1 ⊢
                obtain ⟨v2, g1, g2⟩ := f1
                obtain ⟨n, rfl⟩ : ∃ k, n = k + 1 := ⟨n - 1, by omega⟩
                refine ⟨-1, ?_, rfl⟩
                have hb1 : (blk key up m ([] : List Row)).1 = 0 := by cases m <;> rfl
                have hge2 : nI ((fl pre).length + t.2.2.length) ≤ nI ((fl pre).length + done.length) + 4 := by
                  rw [nI_4]
                  have : (r :: rs).length ≤ 4 := by
                    have := List.drop_eq_nil_iff.mp hnil
                    exact this
                  simp at this
                  exact nI_le (by omega) (by omega)
                have hsame : f_L_lookInTable_51 F 0 key up sh (nI ((fl pre).length + t.2.2.length)) (n + 1) (nI ((fl pre).length + done.length) + 4) w1 = some (.inl (some (.int (-1))), w1) := by
                  rw [f_L_lookInTable_51]
                  simp only [↓ip hge2]
                have hw : w2 = w1 := by
                  have hd2 : t.2.2 = done ++ (r :: rs).take 4 := by
                    have h9 := List.take_append_drop 4 (r :: rs)
                    rw [hnil, List.append_nil] at h9
                    rw [h9]; exact hd
                  have := stop0 (done ++ (r :: rs).take 4) w1 n hd2
                  rw [this] at g1
                  injection g1 with g1
                  exact (congrArg Prod.snd g1).symm
                rw [hw]
                exact hsame
            · simp only [blk, hsp, hf, hgo, if_true]
              rw [← nI_1, Int32.add_comm (nI _) 1, ← Int32.add_assoc]
              exact f2
          · have hb : blk key up (m + 1) (r :: rs) = (1, some none) := by simp only [blk, hsp, hf, hgo, if_true, if_false]
            rw [hb]
            refine ⟨w1, ?_, a2, a3⟩
            refine ⟨-1, ?_, rfl⟩
            rw [f_L_lookInTable_51]
            simp only [↓iN h1, ↓bd (rL_rd h0), ↓bd a1, ↓bd (rS_rows hs1), ↓bd (rE_s (rS_e hs1)), ↓bd (rE_sp (rS_e3 hs1) hr), ↓ip hsp, ↓ip (rE_is (rS_e hs1))]
            rw [hend]
            rw [e2] at e1
            simp only [↓gcI e1, if_true, ↓bd (rS_rows hs1), ↓bd (rE_k (rS_e hs1))]
            rw [nI_s1 hge]
            simp only [↓bd (rE_key (rS_e3 hs1) hlast), ↓iN hgo]
      · have hb : blk key up (m + 1) (r :: rs) = (1, none) := by simp only [blk, hsp, if_false]
        rw [hb]
        refine ⟨w1, ?_, a2, a3⟩
        show _ = _
        rw [f_L_lookInTable_51]
        simp only [↓iN h1, ↓bd (rL_rd h0), ↓bd a1, ↓bd (rS_rows hs1), ↓bd (rE_s (rS_e hs1)), ↓bd (rE_sp (rS_e3 hs1) hr), ↓iN hsp]
        rfl
/-- in one table -/
def lk1 (key up : Int32) (t : Tab) : Nat × Option (Option Row) := blk key up t.2.2.length (t.2.2.drop (4 * fb key t.2.2))
theorem fb_le (key : Int32) (rows : List Row) : 4 * fb key rows ≤ rows.length := by
  unfold fb
  have : (rows.takeWhile (fun r => decide (r.1 < key))).length ≤ rows.length := by
    have := (List.takeWhile_prefix (p := fun r : Row => decide (r.1 < key)) (l := rows)).length_le
    exact this
  omega
/-- in all tables: reads, misses, what comes of it -/
def lkT (key up : Int32) : List Tab → Nat × Nat × Option (Option Row)
  | [] => (0, 0, some none)
  | t :: ts => if lo t ≤ key ∧ key ≤ hi t then (if pas key t.2.2 then (match (lk1 key up t).2 with
      | none => ((lk1 key up t).1, 0, none)
      | some (some q) => ((lk1 key up t).1, 0, some (some q))
      | some none => ((lk1 key up t).1 + (lkT key up ts).1, (lkT key up ts).2.1, (lkT key up ts).2.2)) else ((lkT key up ts).1, (lkT key up ts).2.1 + 1, (lkT key up ts).2.2)) else lkT key up ts
theorem zL_lookInTable {F : Nat} {sh sp : Nat} {st mk dr : Int32} {bo lt rd ms gt key up : Int32} {pre post : List Tab} {t : Tab} {w : ga_W} (hF : 1000 < F) (h0 : isLh w bo lt rd ms gt) (hv : isVh w sh sp st mk dr) (hs : isSh w sh (pre ++ t :: post) []) :
    (pas key t.2.2 = true → ∃ w', ans (fl pre ++ (t.2.2 ++ (fl post ++ []))) (f_L_lookInTable F 0 (nI pre.length) key up w) w' (lk1 key up t).2 ∧ isLh w' bo lt (rd + nI (lk1 key up t).1) ms gt ∧ pu_F w w' 0 1) ∧
    (pas key t.2.2 = false → ∃ w', f_L_lookInTable F 0 (nI pre.length) key up w = some (.inl (some (.int (-1))), w') ∧ isLh w' bo lt rd (ms + 1) gt ∧ pu_F w w' 0 1) := by
  have hd := hv.d
  have hl := rS_len hs
  refine ⟨fun hp => ?_, fun hp => ?_⟩
  · have hle := fb_le key t.2.2
    obtain ⟨w', e1, e2, e3⟩ := zL_look51 (F := F) (key := key) (up := up) hF (by omega) t.2.2.length (t.2.2.drop (4 * fb key t.2.2)) (t.2.2.take (4 * fb key t.2.2)) rd w F (by rw [List.take_append_drop]) (by simp) h0 hs (by omega)
    have hlen : (t.2.2.take (4 * fb key t.2.2)).length = 4 * fb key t.2.2 := by simp; omega
    rw [hlen] at e1
    have hz : ¬ bI (pas key t.2.2) = 0 := by rw [hp]; decide
    have step : f_L_lookInTable F 0 (nI pre.length) key up w = f_L_lookInTable_51 F 0 key up sh (nI ((fl pre).length + t.2.2.length)) F (nI ((fl pre).length + 4 * fb key t.2.2)) w := by
      unfold f_L_lookInTable
      simp only [↓bd (rL_v h0), ↓bd (rV_sh hv), ↓ip (rS_is hs), ↓gcI (zS_passes hs hF), ↓iN hz, ↓bd (rS_b hs)]
      rw [nI_1]
      simp only [↓bd (rS_b1 hs), ↓gcI (zS_firstBlockFor hs hF)]
    rw [step]
    exact ⟨w', e1, e2, e3⟩
  · have hz : bI (pas key t.2.2) = 0 := by rw [hp]; rfl
    obtain ⟨w1, a1, a2, a3⟩ := zL_ms (x := ms + 1) h0
    refine ⟨w1, ?_, a2, a3⟩
    unfold f_L_lookInTable
    simp only [↓bd (rL_v h0), ↓bd (rV_sh hv), ↓ip (rS_is hs), ↓gcI (zS_passes hs hF), ↓ip hz, ↓bd (rL_ms h0), ↓bd a1]
theorem isAt_m1 {xs : List Row} {q : Option Row} {v : Int32} (h : isAt xs q v) (hl : xs.length ≤ 1000) : (v = -1 ↔ q = none) := by
  cases q with
  | none => exact ⟨fun _ => rfl, fun _ => h⟩
  | some r =>
    obtain ⟨j, h1, h2, h3⟩ := h
    refine ⟨fun hv => ?_, fun hq => by cases hq⟩
    rw [hv] at h2
    exact absurd (by rw [← h2]; decide : nI j < 0) (nI_pos (by omega))
theorem zL_look_loop {F : Nat} {sh sp : Nat} {st mk dr : Int32} {bo lt gt key up : Int32} (hF : 1000 < F) (post : List Tab) : ∀ (pre : List Tab) (rd ms : Int32) (w : ga_W) (n : Nat), isLh w bo lt rd ms gt → isVh w sh sp st mk dr → isSh w sh (pre ++ post) [] → (∀ t ∈ post, t.2.2 ≠ []) → post.length < n →
    ∃ w', ans (fl (pre ++ post)) (f_L_lookInTables_2 F 0 key up n (nI pre.length) w) w' (lkT key up post).2.2 ∧ isLh w' bo lt (rd + nI (lkT key up post).1) (ms + nI (lkT key up post).2.1) gt ∧ pu_F w w' 0 1 := by
  induction post with
  | nil =>
    intro pre rd ms w n h0 hv hs ha hn
    obtain ⟨n, rfl⟩ : ∃ k, n = k + 1 := ⟨n - 1, by simp at hn; omega⟩
    simp only [List.append_nil] at hs
    refine ⟨w, ⟨-1, ?_, rfl⟩, by simpa [lkT, nI_0] using h0, pu_F.rf⟩
    rw [f_L_lookInTables_2]
    simp only [↓bd (rL_v h0), ↓bd (rV_sh hv), ↓bd (rS_tables hs), ↓ip (Int32.le_refl _)]
  | cons t post ih =>
    intro pre rd ms w n h0 hv hs ha hn
    obtain ⟨n, rfl⟩ : ∃ k, n = k + 1 := ⟨n - 1, by simp at hn; omega⟩
    have hd := hv.d
    have hl := rS_len hs
    simp only [List.length_cons] at hn
    have h1 : ¬ nI (pre ++ t :: post).length ≤ nI pre.length := nI_ge (by simp) (by simp; omega)
    have q2 : nI (pre.length + 1) = nI (pre ++ [t]).length := by simp
    have ht := ha t List.mem_cons_self
    have ha2 : ∀ t ∈ post, t.2.2 ≠ [] := fun t h => ha t (List.mem_cons_of_mem _ h)
    have hfl : fl (pre ++ t :: post) = fl pre ++ (t.2.2 ++ (fl post ++ [])) := by simp [fl_app, fl_cons]
    have happ : pre ++ [t] ++ post = pre ++ t :: post := by simp
    have hlen : (fl (pre ++ t :: post)).length ≤ 1000 := by rw [hfl]; simp; omega
    by_cases hsp : lo t ≤ key ∧ key ≤ hi t
    · have hz : ¬ (if lo t ≤ key ∧ key ≤ hi t then (1 : Int32) else 0) = 0 := by rw [if_pos hsp]; decide
      obtain ⟨p1, p2⟩ := zL_lookInTable (F := F) (key := key) (up := up) hF h0 hv hs
      cases hp : pas key t.2.2 with
      | true =>
        obtain ⟨w1, e1, e2, e3⟩ := p1 hp
        rw [← hfl] at e1
        cases ho : (lk1 key up t).2 with
        | none =>
          rw [ho] at e1
          have e1 : f_L_lookInTable F 0 (nI pre.length) key up w = some (.inr 1, xw w1) := e1
          have hb : lkT key up (t :: post) = ((lk1 key up t).1, 0, none) := by simp only [lkT, hsp, hp, ho, if_true, and_self]
          rw [hb]
          refine ⟨w1, ?_, by simpa [nI_0] using e2, e3⟩
          show _ = _
          rw [f_L_lookInTables_2]
          simp only [↓bd (rL_v h0), ↓bd (rV_sh hv), ↓bd (rS_tables hs), ↓iN h1, ↓ip (rS_is hs), ↓gcI (zS_spans hs ht), ↓iN hz, ↓ip (rL_is h0), ↓gcX e1]
          rfl
        | some q =>
          rw [ho] at e1
          obtain ⟨v, f1, f2⟩ := e1
          cases q with
          | some r =>
            have hv1 : ¬ v = -1 := fun h => by cases (isAt_m1 f2 hlen).mp h
            have hb : lkT key up (t :: post) = ((lk1 key up t).1, 0, some (some r)) := by simp only [lkT, hsp, hp, ho, if_true, and_self]
            rw [hb]
            refine ⟨w1, ⟨v, ?_, f2⟩, by simpa [nI_0] using e2, e3⟩
            rw [f_L_lookInTables_2]
            simp only [↓bd (rL_v h0), ↓bd (rV_sh hv), ↓bd (rS_tables hs), ↓iN h1, ↓ip (rS_is hs), ↓gcI (zS_spans hs ht), ↓iN hz, ↓ip (rL_is h0), ↓gcI f1, ↓iN hv1]
          | none =>
            have hv1 : v = -1 := (isAt_m1 f2 hlen).mpr rfl
            have hb : lkT key up (t :: post) = ((lk1 key up t).1 + (lkT key up post).1, (lkT key up post).2.1, (lkT key up post).2.2) := by simp only [lkT, hsp, hp, ho, if_true, and_self]
            rw [hb]
            obtain ⟨w2, g1, g2, g3⟩ := ih (pre ++ [t]) _ _ w1 n e2 (hv.fr e3 (by omega)) (by rw [happ]; exact hs.fr e3 (by omega)) ha2 (by omega)
            rw [happ] at g1
            refine ⟨w2, ?_, by rw [← nI_add, ← Int32.add_assoc]; exact g2, e3.tr g3⟩
            have step : f_L_lookInTables_2 F 0 key up (n + 1) (nI pre.length) w = f_L_lookInTables_2 F 0 key up n (nI (pre ++ [t]).length) w1 := by
              rw [f_L_lookInTables_2]
              simp only [↓bd (rL_v h0), ↓bd (rV_sh hv), ↓bd (rS_tables hs), ↓iN h1, ↓ip (rS_is hs), ↓gcI (zS_spans hs ht), ↓iN hz, ↓ip (rL_is h0), ↓gcI f1, ↓ip hv1]
              rw [nI_1, q2]
            rw [step]
            exact g1
      | false =>
        obtain ⟨w1, e1, e2, e3⟩ := p2 hp
        have hb : lkT key up (t :: post) = ((lkT key up post).1, (lkT key up post).2.1 + 1, (lkT key up post).2.2) := by simp only [lkT, hsp, hp, if_true, and_self, if_false, Bool.false_eq_true]
        rw [hb]
        obtain ⟨w2, g1, g2, g3⟩ := ih (pre ++ [t]) _ _ w1 n e2 (hv.fr e3 (by omega)) (by rw [happ]; exact hs.fr e3 (by omega)) ha2 (by omega)
        rw [happ] at g1
        refine ⟨w2, ?_, by rw [← nI_1, Int32.add_comm (nI _) 1, ← Int32.add_assoc]; exact g2, e3.tr g3⟩
        have step : f_L_lookInTables_2 F 0 key up (n + 1) (nI pre.length) w = f_L_lookInTables_2 F 0 key up n (nI (pre ++ [t]).length) w1 := by
          rw [f_L_lookInTables_2]
          simp only [↓bd (rL_v h0), ↓bd (rV_sh hv), ↓bd (rS_tables hs), ↓iN h1, ↓ip (rS_is hs), ↓gcI (zS_spans hs ht), ↓iN hz, ↓ip (rL_is h0), ↓gcI e1, if_true]
          rw [nI_1, q2]
        rw [step]
        exact g1
    · have hz : (if lo t ≤ key ∧ key ≤ hi t then (1 : Int32) else 0) = 0 := by rw [if_neg hsp]
      have hb : lkT key up (t :: post) = lkT key up post := by simp only [lkT, hsp, if_false]
      rw [hb]
      obtain ⟨w2, g1, g2, g3⟩ := ih (pre ++ [t]) rd ms w n h0 hv (by rw [happ]; exact hs) ha2 (by omega)
      rw [happ] at g1
      refine ⟨w2, ?_, g2, g3⟩
      have step : f_L_lookInTables_2 F 0 key up (n + 1) (nI pre.length) w = f_L_lookInTables_2 F 0 key up n (nI (pre ++ [t]).length) w := by
        rw [f_L_lookInTables_2]
        simp only [↓bd (rL_v h0), ↓bd (rV_sh hv), ↓bd (rS_tables hs), ↓iN h1, ↓ip (rS_is hs), ↓gcI (zS_spans hs ht), ↓ip hz]
        rw [nI_1, q2]
      rw [step]
      exact g1
