/-! PURE, 30: the reference: table, count, spoil -/
variable {F : Nat} {w w' w2 : ga_W} {sc sc' : Nat → Int32} {thr : Int32} {lv : LV} {mem : List Row} {recs : List Nat} {syn : Nat} {bt : Option (List Row)} {sn : Nat → Int32} {lt : Nat} {rd ms gt : Int32}
theorem zR_ones_loop {x : Int64} : ∀ (m k c n : Nat), k + m = 64 → m < n → f_R_ones_4 F x n (nI c) (nI k) w = some (.inl (some (.int (nI (c + (List.range' k m).countP (bL x))))), w) := by
  have c64 : (64 : Int32) = nI 64 := by decide
  intro m
  induction m with
  | zero =>
    intro k c n hm hn
    obtain ⟨n, rfl⟩ : ∃ k, n = k + 1 := ⟨n - 1, by omega⟩
    have : k = 64 := by omega
    subst this
    rw [f_R_ones_4, c64]
    simp only [↓ip (Int32.le_refl _), List.range'_zero, List.countP_nil, Nat.add_zero]
  | succ m ih =>
    intro k c n hm hn
    obtain ⟨n, rfl⟩ : ∃ k, n = k + 1 := ⟨n - 1, by omega⟩
    have hle : ¬ (64 : Int32) ≤ nI k := by rw [c64]; exact nI_ge (by omega) (by omega)
    have hb := bit_ok (x := x) (b := k) (by omega)
    rw [f_R_ones_4]
    simp only [↓iN hle]
    cases hx : bL x k
    · simp only [↓ip (hb.mpr hx)]
      rw [nI_1, ih (k + 1) c n (by omega) (by omega)]
      simp [List.range'_succ, List.countP_cons, hx]
    · have hne : ¬ lg_cmp ((x >>> (Int32.toInt64 (nI k) &&& 63)) &&& (1 : Int64)) (0 : Int64) = 0 := fun h9 => by rw [hb.mp h9] at hx; cases hx
      simp only [↓iN hne]
      rw [nI_1, nI_1, ih (k + 1) (c + 1) n (by omega) (by omega)]
      simp [List.range'_succ, List.countP_cons, hx, Nat.add_comm, Nat.add_left_comm, Nat.add_assoc]
theorem zR_ones {rows : List Row} (hF : 1000 < F) (hl : rows.length ≤ 240) : f_R_ones F (msk rows) w = some (.inl (some (.int (nI (nsb rows)))), w) := by
  unfold f_R_ones
  have h1 := zR_ones_loop (F := F) (w := w) (x := msk rows) 64 0 0 F (by omega) (by omega)
  rw [nI_0] at h1
  rw [h1]
  have h2 : (List.range' 0 64).countP (bL (msk rows)) = nsb rows := by
    have e1 : (List.range' 0 64).countP (bL (msk rows)) = (List.range' 0 64).countP (sb rows) := List.countP_congr (fun b hb => by
      rw [msk_bit rows (by simp at hb; omega)])
    have hnb : nb rows.length ≤ 64 := by unfold nb; omega
    have e2 : List.range' 0 64 = List.range' 0 (nb rows.length) ++ List.range' (nb rows.length) (64 - nb rows.length) := by
      have := (List.range'_append (s := 0) (m := nb rows.length) (n := 64 - nb rows.length) (step := 1)).symm
      rw [Nat.one_mul, Nat.zero_add, Nat.add_sub_cancel' hnb] at this
      exact this
    rw [e1, e2, List.countP_append]
    have e3 : (List.range' (nb rows.length) (64 - nb rows.length)).countP (sb rows) = 0 := by
      rw [List.countP_eq_zero]
      intro b hb
      simp at hb
      rw [sb_big (by unfold nb at hb; omega)]
      simp
    rw [e3]
    rfl
  rw [h2, Nat.zero_add]
theorem zR_table {x y : Int32} (hF : 1000 < F) (h : isR w thr lv mem recs syn bt sn lt rd ms gt) (hne : ∀ t ∈ lv.1, t.2.2 ≠ []) :
    (¬ ((0 ≤ x ∧ x ≤ 59) ∧ (0 ≤ y ∧ y ≤ 15)) → ∃ w' v, f_R_table F 54 x y w = some (.inl (some (.int v)), w') ∧ isR w' 1 lv mem recs syn bt sn lt rd ms gt ∧ pu_R w w') ∧
    (∀ i q, i ≤ 59 → q ≤ 15 → x = nI i → y = nI q → lv.1[i]? = none → ∃ w' v, f_R_table F 54 x y w = some (.inl (some (.int v)), w') ∧ isR w' 2 lv mem recs syn bt sn lt rd ms gt ∧ pu_R w w') ∧
    (∀ i q t, i ≤ 59 → q ≤ 15 → x = nI i → y = nI q → lv.1[i]? = some t → ∃ w', f_R_table F 54 x y w = some (.inl (some (.int (tbV t q))), w') ∧ isR w' 0 lv mem recs syn bt sn lt rd ms gt ∧ pu_R w w') := by
  obtain ⟨sc, h1, h2⟩ := h
  obtain ⟨w1, a1, a2, a3⟩ := zR_set0 0 h1
  generalize hsc : pu_up sc 0 0 = s1 at *
  have hs10 : s1 0 = 0 := by rw [← hsc]; rfl
  have hrt := a2.1.1
  have htl := hrt.2.2.2.2.1
  have c10 : ¬ (1 : Int32) = 0 := by decide
  have inn : ∀ i, i ≤ 59 → 0 ≤ nI i ∧ nI i ≤ 59 := fun i hi => ⟨nI_nn (by omega), by rw [show (59 : Int32) = nI 59 by decide]; exact nI_le (by omega) (by omega)⟩
  have inq : ∀ i, i ≤ 15 → 0 ≤ nI i ∧ nI i ≤ 15 := fun i hi => ⟨nI_nn (by omega), by rw [show (15 : Int32) = nI 15 by decide]; exact nI_le (by omega) (by omega)⟩
  refine ⟨fun hx => ?_, fun i q hi hq hx hy hn => ?_, fun i q t hi hq hx hy ht => ?_⟩
  · obtain ⟨w3, c1, c2, c3⟩ := zR_throw (F := F) 1 a2
    refine ⟨w3, 0, ?_, c2, a3.tr c3⟩
    unfold f_R_table
    by_cases h1 : 0 ≤ x ∧ x ≤ 59
    · have h2 : ¬ (0 ≤ y ∧ y ≤ 15) := fun h2 => hx ⟨h1, h2⟩
      simp only [↓bd a1, ↓gcI (zR_inT h1), ↓iN c10, ↓gcI (zR_inF h2), ↓ip trivial, if_true, ↓ip (rR_is a2.h), ↓gcI c1]
    · simp only [↓bd a1, ↓gcI (zR_inF h1), ↓ip trivial, if_true, ↓ip (rR_is a2.h), ↓gcI c1]
  · subst hx
    subst hy
    obtain ⟨w3, c1, c2, c3⟩ := zR_throw (F := F) 2 a2
    refine ⟨w3, 0, ?_, c2, a3.tr c3⟩
    have hle : lv.1.length ≤ i := List.getElem?_eq_none_iff.mp hn
    unfold f_R_table
    simp only [↓bd a1, ↓gcI (zR_inT (inn i hi)), ↓gcI (zR_inT (inq q hq)), ↓iN c10, ↓bd (rR10 hrt), ↓iN (nI_nlt hle (by omega)), ↓ip (rR_is a2.h), ↓gcI c1]
  · subst hx
    subst hy
    refine ⟨w1, ?_, ⟨s1, a2, hs10⟩, a3⟩
    have hlt : i < lv.1.length := (List.getElem?_eq_some_iff.mp ht).1
    obtain ⟨hsp, hln⟩ := split1 ht
    have hnt := hne t (List.mem_of_getElem? ht)
    obtain ⟨t1, t2, t3, t4⟩ := rT_at hrt ht
    have hs2 := hrt
    rw [hsp] at hs2
    have g3 := zR_low (F := F) hF hs2 hnt
    have g4 := zR_high (F := F) hF hs2 hnt
    have gs := zR_start' (F := F) hF hs2
    have hrl := rR_len hs2
    rw [hln] at g3 g4 gs
    have g5 := zR_ones (F := F) (w := w1) (rows := t.2.2) hF (by omega)
    unfold f_R_table
    simp only [↓bd a1, ↓gcI (zR_inT (inn i hi)), ↓gcI (zR_inT (inq q hq)), ↓iN c10, ↓bd (rR10 hrt), ↓ip (nI_lt hlt (by omega))]
    have l0 : (0 : Int32) = nI 0 := by decide
    have l1 : (1 : Int32) = nI 1 := by decide
    have l2 : (2 : Int32) = nI 2 := by decide
    have l3 : (3 : Int32) = nI 3 := by decide
    have l4 : (4 : Int32) = nI 4 := by decide
    have l5 : (5 : Int32) = nI 5 := by decide
    have l6 : (6 : Int32) = nI 6 := by decide
    have eqn : ∀ a b, a < 100 → b < 100 → (nI a = nI b ↔ a = b) := fun a b ha hb => nI_inj (by omega) (by omega)
    unfold tbV
    by_cases q0 : q = 0
    · subst q0; rw [if_pos (by decide), if_pos rfl]; simp only [↓bd (rRr a2.h 6 59 rfl), ↓bd t1]
    · rw [if_neg (by rw [l0, eqn q 0 (by omega) (by omega)]; exact q0), if_neg q0]
      by_cases q1 : q = 1
      · subst q1; rw [if_pos (by decide), if_pos rfl]; simp only [↓bd (rRr a2.h 7 60 rfl), ↓bd t2]
      · rw [if_neg (by rw [l1, eqn q 1 (by omega) (by omega)]; exact q1), if_neg q1]
        by_cases q2 : q = 2
        · subst q2; rw [if_pos (by decide), if_pos rfl]; simp only [↓bd (rRr a2.h 8 61 rfl), ↓bd t3]
        · rw [if_neg (by rw [l2, eqn q 2 (by omega) (by omega)]; exact q2), if_neg q2]
          by_cases q3 : q = 3
          · subst q3; rw [if_pos (by decide), if_pos rfl]; simp only [↓ip (rR_is a2.h), ↓gcI g3]
          · rw [if_neg (by rw [l3, eqn q 3 (by omega) (by omega)]; exact q3), if_neg q3]
            by_cases q4 : q = 4
            · subst q4; rw [if_pos (by decide), if_pos rfl]; simp only [↓ip (rR_is a2.h), ↓gcI g4]
            · rw [if_neg (by rw [l4, eqn q 4 (by omega) (by omega)]; exact q4), if_neg q4]
              by_cases q5 : q = 5
              · subst q5; rw [if_pos (by decide), if_pos rfl]; simp only [↓bd (rRr a2.h 9 62 rfl), ↓bd t4, ↓gcI g5]
              · rw [if_neg (by rw [l5, eqn q 5 (by omega) (by omega)]; exact q5), if_neg q5]
                simp only [↓bd (rRr a2.h 8 61 rfl), ↓bd t3]
                rw [l6, nI_sub (show 6 ≤ q by omega)]
                by_cases hz : t.2.2.length ≤ q - 6
                · rw [if_pos (nI_le hz (by omega)), List.getElem?_eq_none hz]
                · rw [if_neg (nI_ge (by omega) (by omega))]
                  simp only [↓bd (rRr a2.h 2 56 rfl), ↓ip (rR_is a2.h), ↓gcI gs]
                  rw [nI_add, nI_sub (by omega)]
                  have hat : t.2.2[q - 6]? = some t.2.2[q - 6] := List.getElem?_eq_getElem (by omega)
                  have hr := (rRow hrt (show (fl lv.1)[(fl (lv.1.take i)).length + (q - 6)]? = some t.2.2[q - 6] by
                    rw [hsp, List.take_left' hln, fl3]; exact at3 hat)).2.1
                  rw [show (fl (lv.1.take i)).length + q - 6 = (fl (lv.1.take i)).length + (q - 6) by omega, hat]
                  simp only [↓bd hr]
set_option maxHeartbeats 2000000 in
theorem zR_count {x : Int32} (hF : 1000 < F) (h : isR w thr lv mem recs syn bt sn lt rd ms gt) :
    (¬ (0 ≤ x ∧ x ≤ 16) → ∃ w' v, f_R_count F 54 x w = some (.inl (some (.int v)), w') ∧ isR w' 1 lv mem recs syn bt sn lt rd ms gt ∧ pu_R w w') ∧ (∀ q, q ≤ 16 → x = nI q → ∃ w', f_R_count F 54 x w = some (.inl (some (.int (cnV lv mem recs syn lt rd ms gt q))), w') ∧ isR w' 0 lv mem recs syn bt sn lt rd ms gt ∧ pu_R w w') := by
  obtain ⟨sc, h1, h2⟩ := h
  obtain ⟨w1, a1, a2, a3⟩ := zR_set0 0 h1
  generalize hsc : pu_up sc 0 0 = s1 at *
  have hs10 : s1 0 = 0 := by rw [← hsc]; rfl
  have hrt := a2.1.1
  have c10 : ¬ (1 : Int32) = 0 := by decide
  obtain ⟨⟨-, v26, v30, v31, ⟨pt, p0, p1, p2⟩, -⟩, ⟨-, m15, -⟩, ⟨-, r17, -, r18⟩, -, -, -, g25, g27, g28, g29⟩ := id a2
  refine ⟨fun hx => ?_, fun q hq hx => ?_⟩
  · obtain ⟨w3, c1, c2, c3⟩ := zR_throw (F := F) 1 a2
    refine ⟨w3, 0, ?_, c2, a3.tr c3⟩
    have hno : ∀ k : Int32, 0 ≤ k → k ≤ 16 → ¬ x = k := fun k h1 h2 h3 => hx (by rw [h3]; exact ⟨h1, h2⟩)
    have hin : ¬ (11 ≤ x ∧ x ≤ 14) := fun h9 => hx ⟨by
      have h8 := h9.1
      rw [Int32.le_iff_toInt_le] at h8 ⊢
      exact Int.le_trans (by decide) h8, by
      have h8 := h9.2
      rw [Int32.le_iff_toInt_le] at h8 ⊢
      exact Int.le_trans h8 (by decide)⟩
    unfold f_R_count
    simp only [↓bd a1, ↓gcI (zR_inF hin), ↓ip trivial, if_true, ↓jn, ↓iN (hno 0 (by decide) (by decide)), ↓iN (hno 1 (by decide) (by decide)), ↓iN (hno 2 (by decide) (by decide)), ↓iN (hno 3 (by decide) (by decide)), ↓iN (hno 4 (by decide) (by decide)), ↓iN (hno 5 (by decide) (by decide)), ↓iN (hno 6 (by decide) (by decide)), ↓iN (hno 7 (by decide) (by decide)), ↓iN (hno 8 (by decide) (by decide)), ↓iN (hno 9 (by decide) (by decide)), ↓iN (hno 10 (by decide) (by decide)), ↓iN (hno 11 (by decide) (by decide)), ↓iN (hno 12 (by decide) (by decide)), ↓iN (hno 13 (by decide) (by decide)), ↓iN (hno 14 (by decide) (by decide)), ↓iN (hno 15 (by decide) (by decide)), ↓iN (hno 16 (by decide) (by decide)), ↓ip (rR_is a2.h), ↓gcI c1]
  · subst hx
    refine ⟨w1, ?_, ⟨s1, a2, hs10⟩, a3⟩
    have t1 := zR_onLevel (F := F) (lev := nI (q - 11)) hF hrt
    have q1 := rN p0 (show 1 < 4 by omega)
    have q2 := rN p0 (show 2 < 4 by omega)
    rw [p1] at q1
    rw [p2] at q2
    unfold f_R_count
    simp only [↓bd a1]
    rcases (show q = 0 ∨ q = 1 ∨ q = 2 ∨ q = 3 ∨ q = 4 ∨ q = 5 ∨ q = 6 ∨ q = 7 ∨ q = 8 ∨ q = 9 ∨ q = 10 ∨ q = 11 ∨ q = 12 ∨ q = 13 ∨ q = 14 ∨ q = 15 ∨ q = 16 by omega) with rfl | rfl | rfl | rfl | rfl | rfl | rfl | rfl | rfl | rfl | rfl | rfl | rfl | rfl | rfl | rfl | rfl
    · simp only [↓gcI (zR_inF (show ¬ (11 ≤ nI 0 ∧ nI 0 ≤ 14) by decide)), ↓ip trivial, if_true, if_false, ↓jn, show (nI 0 = 0) = True from eq_true (by decide), ↓bd (rR a2.h 25 rfl), g25]; rfl
    · simp only [↓gcI (zR_inF (show ¬ (11 ≤ nI 1 ∧ nI 1 ≤ 14) by decide)), ↓ip trivial, if_true, if_false, ↓jn, show (nI 1 = 0) = False from eq_false (by decide), show (nI 1 = 1) = True from eq_true (by decide), ↓bd (rR a2.h 15 rfl), m15]; rfl
    · simp only [↓gcI (zR_inF (show ¬ (11 ≤ nI 2 ∧ nI 2 ≤ 14) by decide)), ↓ip trivial, if_true, if_false, ↓jn, show (nI 2 = 0) = False from eq_false (by decide), show (nI 2 = 1) = False from eq_false (by decide), show (nI 2 = 2) = True from eq_true (by decide), ↓bd (rR a2.h 17 rfl), r17]; rfl
    · simp only [↓gcI (zR_inF (show ¬ (11 ≤ nI 3 ∧ nI 3 ≤ 14) by decide)), ↓ip trivial, if_true, if_false, ↓jn, show (nI 3 = 0) = False from eq_false (by decide), show (nI 3 = 1) = False from eq_false (by decide), show (nI 3 = 2) = False from eq_false (by decide), show (nI 3 = 3) = True from eq_true (by decide), ↓bd (rR a2.h 18 rfl), r18]; rfl
    · simp only [↓gcI (zR_inF (show ¬ (11 ≤ nI 4 ∧ nI 4 ≤ 14) by decide)), ↓ip trivial, if_true, if_false, ↓jn, show (nI 4 = 0) = False from eq_false (by decide), show (nI 4 = 1) = False from eq_false (by decide), show (nI 4 = 2) = False from eq_false (by decide), show (nI 4 = 3) = False from eq_false (by decide), show (nI 4 = 4) = True from eq_true (by decide), ↓bd (rR10 hrt)]; rfl
    · simp only [↓gcI (zR_inF (show ¬ (11 ≤ nI 5 ∧ nI 5 ≤ 14) by decide)), ↓ip trivial, if_true, if_false, ↓jn, show (nI 5 = 0) = False from eq_false (by decide), show (nI 5 = 1) = False from eq_false (by decide), show (nI 5 = 2) = False from eq_false (by decide), show (nI 5 = 3) = False from eq_false (by decide), show (nI 5 = 4) = False from eq_false (by decide), show (nI 5 = 5) = True from eq_true (by decide), ↓bd (rR a2.h 26 rfl), v26]
      show _ = some (Sum.inl (some (Value.int (if lv.2.1 = 0 then 0 else 1))), w1)
      split <;> rfl
    · simp only [↓gcI (zR_inF (show ¬ (11 ≤ nI 6 ∧ nI 6 ≤ 14) by decide)), ↓ip trivial, if_true, if_false, ↓jn, show (nI 6 = 0) = False from eq_false (by decide), show (nI 6 = 1) = False from eq_false (by decide), show (nI 6 = 2) = False from eq_false (by decide), show (nI 6 = 3) = False from eq_false (by decide), show (nI 6 = 4) = False from eq_false (by decide), show (nI 6 = 5) = False from eq_false (by decide), show (nI 6 = 6) = True from eq_true (by decide), ↓bd (rR a2.h 27 rfl), g27]; rfl
    · simp only [↓gcI (zR_inF (show ¬ (11 ≤ nI 7 ∧ nI 7 ≤ 14) by decide)), ↓ip trivial, if_true, if_false, ↓jn, show (nI 7 = 0) = False from eq_false (by decide), show (nI 7 = 1) = False from eq_false (by decide), show (nI 7 = 2) = False from eq_false (by decide), show (nI 7 = 3) = False from eq_false (by decide), show (nI 7 = 4) = False from eq_false (by decide), show (nI 7 = 5) = False from eq_false (by decide), show (nI 7 = 6) = False from eq_false (by decide), show (nI 7 = 7) = True from eq_true (by decide), ↓bd (rR a2.h 28 rfl), g28]; rfl
    · simp only [↓gcI (zR_inF (show ¬ (11 ≤ nI 8 ∧ nI 8 ≤ 14) by decide)), ↓ip trivial, if_true, if_false, ↓jn, show (nI 8 = 0) = False from eq_false (by decide), show (nI 8 = 1) = False from eq_false (by decide), show (nI 8 = 2) = False from eq_false (by decide), show (nI 8 = 3) = False from eq_false (by decide), show (nI 8 = 4) = False from eq_false (by decide), show (nI 8 = 5) = False from eq_false (by decide), show (nI 8 = 6) = False from eq_false (by decide), show (nI 8 = 7) = False from eq_false (by decide), show (nI 8 = 8) = True from eq_true (by decide), ↓bd (rR a2.h 29 rfl), g29]; rfl
    · simp only [↓gcI (zR_inF (show ¬ (11 ≤ nI 9 ∧ nI 9 ≤ 14) by decide)), ↓ip trivial, if_true, if_false, ↓jn, show (nI 9 = 0) = False from eq_false (by decide), show (nI 9 = 1) = False from eq_false (by decide), show (nI 9 = 2) = False from eq_false (by decide), show (nI 9 = 3) = False from eq_false (by decide), show (nI 9 = 4) = False from eq_false (by decide), show (nI 9 = 5) = False from eq_false (by decide), show (nI 9 = 6) = False from eq_false (by decide), show (nI 9 = 7) = False from eq_false (by decide), show (nI 9 = 8) = False from eq_false (by decide), show (nI 9 = 9) = True from eq_true (by decide), ↓bd (rR a2.h 30 rfl), v30]; rfl
    · simp only [↓gcI (zR_inF (show ¬ (11 ≤ nI 10 ∧ nI 10 ≤ 14) by decide)), ↓ip trivial, if_true, if_false, ↓jn, show (nI 10 = 0) = False from eq_false (by decide), show (nI 10 = 1) = False from eq_false (by decide), show (nI 10 = 2) = False from eq_false (by decide), show (nI 10 = 3) = False from eq_false (by decide), show (nI 10 = 4) = False from eq_false (by decide), show (nI 10 = 5) = False from eq_false (by decide), show (nI 10 = 6) = False from eq_false (by decide), show (nI 10 = 7) = False from eq_false (by decide), show (nI 10 = 8) = False from eq_false (by decide), show (nI 10 = 9) = False from eq_false (by decide), show (nI 10 = 10) = True from eq_true (by decide), ↓bd (rR a2.h 31 rfl), v31]; rfl
    · have e11 : nI 11 - 11 = nI (11 - 11) := by decide
      simp only [↓gcI (zR_inT (show 11 ≤ nI 11 ∧ nI 11 ≤ 14 by decide)), ↓iN c10, e11, ↓ip (rR_is a2.h), ↓gcI t1]; rfl
    · have e11 : nI 12 - 11 = nI (12 - 11) := by decide
      simp only [↓gcI (zR_inT (show 11 ≤ nI 12 ∧ nI 12 ≤ 14 by decide)), ↓iN c10, e11, ↓ip (rR_is a2.h), ↓gcI t1]; rfl
    · have e11 : nI 13 - 11 = nI (13 - 11) := by decide
      simp only [↓gcI (zR_inT (show 11 ≤ nI 13 ∧ nI 13 ≤ 14 by decide)), ↓iN c10, e11, ↓ip (rR_is a2.h), ↓gcI t1]; rfl
    · have e11 : nI 14 - 11 = nI (14 - 11) := by decide
      simp only [↓gcI (zR_inT (show 11 ≤ nI 14 ∧ nI 14 ≤ 14 by decide)), ↓iN c10, e11, ↓ip (rR_is a2.h), ↓gcI t1]; rfl
    · have e14 : nI 15 - 14 = nI 1 := by decide
      simp only [↓gcI (zR_inF (show ¬ (11 ≤ nI 15 ∧ nI 15 ≤ 14) by decide)), ↓ip trivial, if_true, if_false, ↓jn, show (nI 15 = 0) = False from eq_false (by decide), show (nI 15 = 1) = False from eq_false (by decide), show (nI 15 = 2) = False from eq_false (by decide), show (nI 15 = 3) = False from eq_false (by decide), show (nI 15 = 4) = False from eq_false (by decide), show (nI 15 = 5) = False from eq_false (by decide), show (nI 15 = 6) = False from eq_false (by decide), show (nI 15 = 7) = False from eq_false (by decide), show (nI 15 = 8) = False from eq_false (by decide), show (nI 15 = 9) = False from eq_false (by decide), show (nI 15 = 10) = False from eq_false (by decide), show (nI 15 = 11) = False from eq_false (by decide), show (nI 15 = 12) = False from eq_false (by decide), show (nI 15 = 13) = False from eq_false (by decide), show (nI 15 = 14) = False from eq_false (by decide), show (nI 15 = 15) = True from eq_true (by decide), e14, ↓bd (rRr a2.h 24 72 rfl), ↓bd q1]; rfl
    · have e14 : nI 16 - 14 = nI 2 := by decide
      simp only [↓gcI (zR_inF (show ¬ (11 ≤ nI 16 ∧ nI 16 ≤ 14) by decide)), ↓ip trivial, if_true, if_false, ↓jn, show (nI 16 = 0) = False from eq_false (by decide), show (nI 16 = 1) = False from eq_false (by decide), show (nI 16 = 2) = False from eq_false (by decide), show (nI 16 = 3) = False from eq_false (by decide), show (nI 16 = 4) = False from eq_false (by decide), show (nI 16 = 5) = False from eq_false (by decide), show (nI 16 = 6) = False from eq_false (by decide), show (nI 16 = 7) = False from eq_false (by decide), show (nI 16 = 8) = False from eq_false (by decide), show (nI 16 = 9) = False from eq_false (by decide), show (nI 16 = 10) = False from eq_false (by decide), show (nI 16 = 11) = False from eq_false (by decide), show (nI 16 = 12) = False from eq_false (by decide), show (nI 16 = 13) = False from eq_false (by decide), show (nI 16 = 14) = False from eq_false (by decide), show (nI 16 = 15) = False from eq_false (by decide), show (nI 16 = 16) = True from eq_true (by decide), e14, ↓bd (rRr a2.h 24 72 rfl), ↓bd q2]; rfl
/-! the flags of rows are not in the reference's arrays -/
def c4 (r : Row) : Int32 × Int32 × Int32 × Int32 := (r.1, r.2.1, r.2.2.1, r.2.2.2.1)
theorem isA_flag {a cap : Nat} {R : Nat → Row} {xs ys : List Row} (h : isA w a cap R) (hag : pu_ag R xs) (he : xs.map c4 = ys.map c4) : ∃ R', isA w a cap R' ∧ pu_ag R' ys := by
  refine ⟨fun i => ((R i).1, (R i).2.1, (R i).2.2.1, (R i).2.2.2.1, (ys.getD i zr).2.2.2.2), h, fun i hi => ?_⟩
  have hl : xs.length = ys.length := by simpa using congrArg List.length he
  have h1 := hag i (by omega)
  have h2 : ys[i]? = some ys[i] := List.getElem?_eq_getElem hi
  have h3 := congrArg (fun l => l[i]?) he
  simp only [List.getElem?_map, h1, h2, Option.map_some, Option.some.injEq, c4, Prod.mk.injEq] at h3
  obtain ⟨e1, e2, e3, e4⟩ := h3
  rw [h2]
  have h4 : ys.getD i zr = ys[i] := by simp [List.getD, h2]
  simp only [e1, e2, e3, e4, h4]
theorem spR_c4 (b : Nat) (rows : List Row) : (spR b rows).map c4 = rows.map c4 := by
  unfold spR
  conv => rhs; rw [← List.take_append_drop (4 * b) rows]
  rw [List.map_append, List.map_append, List.map_append, List.map_map]
  have e1 : c4 ∘ sp1 = c4 := rfl
  rw [e1, ← List.map_append]
  congr 2
  have : rows.drop (4 * b + 4) = (rows.drop (4 * b)).drop 4 := by rw [List.drop_drop]
  rw [this, List.take_append_drop]
theorem spR_len {b : Nat} {rows : List Row} : (spR b rows).length = rows.length := by
  have := congrArg List.length (spR_c4 b rows)
  simpa using this
theorem isRx.tabs {s : LV} (h : isRx w sc lv mem recs syn bt sn lt rd ms gt) (hv : isRV w2 sc' s) {X : List (Nat × Nat)} (hf : pu_K w w2 X) (hd : ∀ q ∈ X, 72 ≤ q.1 ∨ q.1 + q.2 ≤ 63) (hs : scF sc sc' sT) : isRx w2 sc' s mem recs syn bt sn lt rd ms gt := by
  obtain ⟨-, h2, h3, h4, h5, h6, h7, h8, h9, h10⟩ := h
  exact ⟨hv, h2.frK hf (fun q hq => by have := hd q hq; omega) (hs 15 (by simp)), h3.frK hf (fun q hq => by have := hd q hq; omega) (hs 17 (by simp)) (hs 18 (by simp)), h4, h5.frK hf (fun q hq => by have := hd q hq; omega) (hs 22 (by simp)), h6.frK hf (fun q hq => by have := hd q hq; omega), (hs 25 (by simp)).trans h7, (hs 27 (by simp)).trans h8, (hs 28 (by simp)).trans h9, (hs 29 (by simp)).trans h10⟩
theorem zR_spoil {x y : Int32} (hF : 1000 < F) (h : isR w thr lv mem recs syn bt sn lt rd ms gt) :
    (¬ ((0 ≤ x ∧ x ≤ 59) ∧ (0 ≤ y ∧ y ≤ 59)) → ∃ w' v, f_R_spoil F 54 x y w = some (.inl (some (.int v)), w') ∧ isR w' 1 lv mem recs syn bt sn lt rd ms gt ∧ pu_R w w') ∧
    (∀ i b, i ≤ 59 → b ≤ 59 → x = nI i → y = nI b → (lv.1[i]? = none ∨ ∃ t, lv.1[i]? = some t ∧ t.2.2.length ≤ 4 * b) → ∃ w' v, f_R_spoil F 54 x y w = some (.inl (some (.int v)), w') ∧ isR w' 2 lv mem recs syn bt sn lt rd ms gt ∧ pu_R w w') ∧
    (∀ i b t, i ≤ 59 → b ≤ 59 → x = nI i → y = nI b → lv.1[i]? = some t → 4 * b < t.2.2.length → ∃ w', f_R_spoil F 54 x y w = some (.inl (some (.int (nI (min 4 (t.2.2.length - 4 * b))))), w') ∧ isR w' 0 (lv.1.take i ++ (t.1, t.2.1, spR b t.2.2) :: lv.1.drop (i + 1), lv.2) mem recs syn bt sn lt rd ms gt ∧ pu_R w w') := by
  obtain ⟨sc, h1, h2⟩ := h
  obtain ⟨w1, a1, a2, a3⟩ := zR_set0 0 h1
  generalize hsc : pu_up sc 0 0 = s1 at *
  have hs10 : s1 0 = 0 := by rw [← hsc]; rfl
  have hrt := a2.1.1
  have htl := hrt.2.2.2.2.1
  have c10 : ¬ (1 : Int32) = 0 := by decide
  have inn : ∀ i, i ≤ 59 → 0 ≤ nI i ∧ nI i ≤ 59 := fun i hi => ⟨nI_nn (by omega), by rw [show (59 : Int32) = nI 59 by decide]; exact nI_le (by omega) (by omega)⟩
  have e4 : ∀ b : Nat, (4 : Int32) * nI b = nI (4 * b) := fun b => nI_mul 4 b
  refine ⟨fun hx => ?_, fun i b hi hb hx hy hor => ?_, fun i b t hi hb hx hy ht hlt => ?_⟩
  · obtain ⟨w3, c1, c2, c3⟩ := zR_throw (F := F) 1 a2
    refine ⟨w3, 0, ?_, c2, a3.tr c3⟩
    unfold f_R_spoil
    by_cases h1 : 0 ≤ x ∧ x ≤ 59
    · have h2 : ¬ (0 ≤ y ∧ y ≤ 59) := fun h2 => hx ⟨h1, h2⟩
      simp only [↓bd a1, ↓gcI (zR_inT h1), ↓iN c10, ↓gcI (zR_inF h2), ↓ip trivial, if_true, ↓ip (rR_is a2.h), ↓gcI c1]
    · simp only [↓bd a1, ↓gcI (zR_inF h1), ↓ip trivial, if_true, ↓ip (rR_is a2.h), ↓gcI c1]
  · subst hx
    subst hy
    obtain ⟨w3, c1, c2, c3⟩ := zR_throw (F := F) 2 a2
    refine ⟨w3, 0, ?_, c2, a3.tr c3⟩
    unfold f_R_spoil
    simp only [↓bd a1, ↓gcI (zR_inT (inn i hi)), ↓gcI (zR_inT (inn b hb)), ↓iN c10, ↓bd (rR10 hrt)]
    rcases hor with hn | ⟨t, ht, hl⟩
    · have hle : lv.1.length ≤ i := List.getElem?_eq_none_iff.mp hn
      simp only [↓ip (nI_le hle (by omega)), ↓ip (rR_is a2.h), ↓gcI c1]
    · have hlt : i < lv.1.length := (List.getElem?_eq_some_iff.mp ht).1
      simp only [↓iN (nI_ge hlt (by omega)), ↓bd (rRr a2.h 8 61 rfl), ↓bd (rT_at hrt ht).2.2.1]
      rw [e4]
      simp only [↓iN (nI_nlt hl (by omega)), ↓ip (rR_is a2.h), ↓gcI c1]
  · subst hx
    subst hy
    obtain ⟨hsp, hln⟩ := split1 ht
    have hil : i < lv.1.length := (List.getElem?_eq_some_iff.mp ht).1
    obtain ⟨t1, t2, t3, t4⟩ := rT_at hrt ht
    have hs2 := hrt
    rw [hsp] at hs2
    have hrl := rR_len hs2
    obtain ⟨g1, g2, g3, g4, g5, ⟨R, g6, g7⟩, ⟨T, g8, g9⟩⟩ := id hrt
    obtain ⟨w3, d1, d2, d3⟩ := zLg_st (i := i) (x := msk t.2.2 ||| ((1 : Int64) <<< (Int32.toInt64 (nI b) &&& 63))) g8.2.2.2 (by omega) (by omega)
    have hT : T i = rt t := g9.at (by rw [List.getElem?_map, ht]; rfl)
    have hfl : (fl (lv.1.take i ++ (t.1, t.2.1, spR b t.2.2) :: lv.1.drop (i + 1))).map c4 = (fl lv.1).map c4 := by
      conv => rhs; rw [hsp]
      rw [fl3, fl3]
      simp only [List.map_append, spR_c4]
    have hfll : (fl (lv.1.take i ++ (t.1, t.2.1, spR b t.2.2) :: lv.1.drop (i + 1))).length = (fl lv.1).length := by
      have := congrArg List.length hfl
      simpa using this
    have htll : (lv.1.take i ++ (t.1, t.2.1, spR b t.2.2) :: lv.1.drop (i + 1)).length = lv.1.length := by
      conv => rhs; rw [hsp]
      simp
    obtain ⟨R', r1, r2⟩ := isA_flag (g6.fr d3 (by omega)) g7 hfl.symm
    have hrt3 : isRt w3 s1 (lv.1.take i ++ (t.1, t.2.1, spR b t.2.2) :: lv.1.drop (i + 1)) := by
      refine ⟨g1.fr d3 (by omega), by rw [hfll]; exact g2, by rw [htll]; exact g3, by omega, by omega, ⟨R', r1, r2⟩, ⟨pu_up T i (t.1, t.2.1, nI t.2.2.length, msk t.2.2 ||| ((1 : Int64) <<< (Int32.toInt64 (nI b) &&& 63))), ⟨?_, ?_, ?_, ?_⟩, fun j hj => ?_⟩⟩
      · rw [d3.out (by omega) g8.1]
        congr 5; funext j; simp only [pu_up]; split
        · rename_i h9; subst h9; rw [hT]; rfl
        · rfl
      · rw [d3.out (by omega) g8.2.1]
        congr 5; funext j; simp only [pu_up]; split
        · rename_i h9; subst h9; rw [hT]; rfl
        · rfl
      · rw [d3.out (by omega) g8.2.2.1]
        congr 5; funext j; simp only [pu_up]; split
        · rename_i h9; subst h9; rw [hT]; rfl
        · rfl
      · rw [d2]
        exact congrArg (fun f => some (Sum.inl (2, 260, Sum.inr (Sum.inl f)))) (pu_updL (T := T) (n := i) (x := (t.1, t.2.1, nI t.2.2.length, msk t.2.2 ||| ((1 : Int64) <<< (Int32.toInt64 (nI b) &&& 63)))))
      · simp only [List.length_map] at hj
        rw [htll] at hj
        have h9 := g9 j (by simpa using hj)
        simp only [pu_up]
        by_cases hji : j = i
        · subst hji
          rw [if_pos rfl, List.getElem?_map, List.getElem?_append_right (by omega), hln, Nat.sub_self]
          simp only [List.getElem?_cons_zero, Option.map_some, rt, spR_len, msk_spR hlt (by omega)]
        · rw [if_neg hji, ← h9]
          conv => rhs; rw [hsp]
          rw [List.map_append, List.map_append, List.map_cons, List.map_cons]
          by_cases hlt9 : j < i
          · rw [List.getElem?_append_left (by simp; omega), List.getElem?_append_left (by simp; omega)]
          · rw [List.getElem?_append_right (by simp; omega), List.getElem?_append_right (by simp; omega)]
            obtain ⟨m, hm⟩ : ∃ m, j - ((lv.1.take i).map rt).length = m + 1 := ⟨j - i - 1, by simp; omega⟩
            rw [hm, List.getElem?_cons_succ, List.getElem?_cons_succ]
    obtain ⟨-, v2, v3, v4, ⟨pt, p0, p1⟩, ⟨W, pW⟩, ⟨G, pG⟩⟩ := a2.1
    have hrv3 : isRV w3 s1 (lv.1.take i ++ (t.1, t.2.1, spR b t.2.2) :: lv.1.drop (i + 1), lv.2) := ⟨hrt3, v2, v3, v4, ⟨pt, p0.fr d3 (by omega), p1⟩, ⟨W, pW.fr d3 (by omega)⟩, ⟨G, pG.fr d3 (by omega)⟩⟩
    refine ⟨w3, ?_, ⟨s1, a2.tabs hrv3 (X := [(62, 1)]) (d3.K (by simp)) (by decide) scF.rf, hs10⟩, a3.tr (d3.R (by omega) (by omega))⟩
    have t3' := (rT_at hrt3 (show (lv.1.take i ++ (t.1, t.2.1, spR b t.2.2) :: lv.1.drop (i + 1))[i]? = some (t.1, t.2.1, spR b t.2.2) by rw [List.getElem?_append_right (by omega), hln, Nat.sub_self]; rfl)).2.2.1
    have hbs : f_R_blockSize F 54 (nI i) (nI b) w3 = some (.inl (some (.int (nI (min 4 (t.2.2.length - 4 * b))))), w3) := by
      unfold f_R_blockSize
      simp only [↓bd (rRr hrt3.1 8 61 rfl), ↓bd t3']
      rw [e4, show (nI ((t.1, t.2.1, spR b t.2.2) : Tab).2.2.length) = nI t.2.2.length by show nI (spR b t.2.2).length = _; rw [spR_len], nI_sub (by omega)]
      have l4 : (4 : Int32) = nI 4 := by decide
      by_cases hx : 4 ≤ t.2.2.length - 4 * b
      · rw [l4, if_pos (nI_le hx (by omega)), Nat.min_eq_left hx]
      · rw [l4, if_neg (nI_ge (by omega) (by omega)), Nat.min_eq_right (by omega)]
    unfold f_R_spoil
    simp only [↓bd a1, ↓gcI (zR_inT (inn i hi)), ↓gcI (zR_inT (inn b hb)), ↓iN c10, ↓bd (rR10 hrt), ↓iN (nI_ge hil (by omega)), ↓bd (rRr a2.h 8 61 rfl), ↓bd t3]
    rw [e4]
    simp only [↓ip (nI_lt hlt (by omega)), ↓bd (rRr a2.h 9 62 rfl), ↓bd t4, ↓bd d1, ↓ip (rR_is hrt3.1), ↓gcI hbs]
