/-! PURE, 29: the reference crashes; effort, table, count -/
variable {F : Nat} {w w' w2 : ga_W} {sc sc' : Nat → Int32} {thr : Int32} {lv : LV} {mem : List Row} {recs : List Nat} {syn : Nat} {bt : Option (List Row)} {sn : Nat → Int32} {lt : Nat} {rd ms gt : Int32}
theorem mxN_cons (m : Int32) (r : Row) (xs : List Row) : mxN m (r :: xs) = mxN (if m < r.2.1 then r.2.1 else m) xs := rfl
theorem mxN_ge (xs : List Row) : ∀ m : Int32, m ≤ mxN m xs := by
  induction xs with
  | nil => intro m; exact Int32.le_refl _
  | cons r xs ih =>
    intro m
    rw [mxN_cons]
    have := ih (if m < r.2.1 then r.2.1 else m)
    rw [Int32.le_iff_toInt_le] at this ⊢
    by_cases h : m < r.2.1
    · rw [if_pos h] at this ⊢
      rw [Int32.lt_iff_toInt_lt] at h
      omega
    · rw [if_neg h] at this ⊢
      omega
theorem mxN_max (xs : List Row) : ∀ m n : Int32, n ≤ m → mxN m xs = if m < mxN n xs then mxN n xs else m := by
  induction xs with
  | nil =>
    intro m n h
    show m = if m < n then n else m
    rw [if_neg (Int32.not_lt.mpr h)]
  | cons r xs ih =>
    intro m n h
    rw [mxN_cons, mxN_cons]
    have h2 : (if n < r.2.1 then r.2.1 else n) ≤ (if m < r.2.1 then r.2.1 else m) := by
      rw [Int32.le_iff_toInt_le] at h ⊢
      by_cases h1 : n < r.2.1 <;> by_cases h2 : m < r.2.1
      · rw [if_pos h1, if_pos h2]; omega
      · rw [if_pos h1, if_neg h2]
        rw [Int32.lt_iff_toInt_lt] at h1 h2; omega
      · rw [if_neg h1, if_pos h2]
        rw [Int32.lt_iff_toInt_lt] at h1 h2; omega
      · rw [if_neg h1, if_neg h2]; omega
    rw [ih _ _ h2]
    have h3 := mxN_ge xs (if n < r.2.1 then r.2.1 else n)
    generalize mxN (if n < r.2.1 then r.2.1 else n) xs = X at *
    by_cases h1 : n < r.2.1
    · rw [if_pos h1] at h3
      by_cases h4 : m < r.2.1
      · rw [if_pos h4]
        have h5 : m < X := by rw [Int32.lt_iff_toInt_lt] at h4 ⊢; rw [Int32.le_iff_toInt_le] at h3; omega
        rw [if_pos h5]
        by_cases h6 : r.2.1 < X
        · rw [if_pos h6]
        · rw [if_neg h6]
          apply Int32.toInt_inj.mp
          rw [Int32.lt_iff_toInt_lt] at h6
          rw [Int32.le_iff_toInt_le] at h3
          omega
      · rw [if_neg h4]
    · rw [if_neg h1] at h3
      have h4 : ¬ m < r.2.1 := by rw [Int32.lt_iff_toInt_lt] at h1 ⊢; rw [Int32.le_iff_toInt_le] at h; omega
      rw [if_neg h4]
theorem zR_c84 {recs : List Nat} {R : Nat} {Z : Nat → Int32} (hR : R ≤ recs.length) (hR16 : R ≤ 12) (hz : ∀ i x, recs[i]? = some x → Z i = nI x) : ∀ (m i : Nat) (sc : Nat → Int32) (w : ga_W) (n : Nat), i + m = R → isRh w sc → w.1[67]? = some (.inl (0, 16, .inl Z)) → sc 17 = nI R → sc 15 = nI (recs.take i).sum → m < n →
    ∃ w1 sc1, (∀ K, f_R_crash_84 F 54 K n (nI i) w = K w1) ∧ isRh w1 sc1 ∧ sc1 15 = nI (recs.take R).sum ∧ scF sc sc1 [15] ∧ pu_F w w1 54 1 := by
  intro m
  induction m with
  | zero =>
    intro i sc w n hm h h67 h17 h15 hn
    obtain ⟨n, rfl⟩ : ∃ k, n = k + 1 := ⟨n - 1, by omega⟩
    have : i = R := by omega
    subst this
    refine ⟨w, sc, fun K => ?_, h, h15, scF.rf, pu_F.rf⟩
    have hle : sc 17 ≤ nI i := by rw [h17]; exact Int32.le_refl _
    rw [f_R_crash_84]
    simp only [↓bd (rR h 17 rfl), ↓ip hle]
  | succ m ih =>
    intro i sc w n hm h h67 h17 h15 hn
    obtain ⟨n, rfl⟩ : ∃ k, n = k + 1 := ⟨n - 1, by omega⟩
    have hle : ¬ sc 17 ≤ nI i := by rw [h17]; exact nI_ge (by omega) (by omega)
    have hil : i < recs.length := by omega
    have hZ := hz i _ (List.getElem?_eq_getElem hil)
    have hr := rA h67 (show i < 16 by omega) (by omega)
    rw [hZ] at hr
    obtain ⟨w3, c1, c2, c3⟩ := zR h 15 (nI (recs.take (i + 1)).sum) (by omega) rfl
    obtain ⟨w4, s4, d1, d2, d3, d4, d5⟩ := ih (i + 1) _ w3 n (by omega) c2 (c3.out (by omega) h67) h17 rfl (by omega)
    refine ⟨w4, s4, fun K => ?_, d2, d3, (scF.up (by simp)).tr d4, c3.tr d5⟩
    rw [f_R_crash_84]
    simp only [↓bd (rR h 17 rfl), ↓iN hle, ↓bd (rR h 15 rfl), ↓bd (rRr h 16 67 rfl), ↓bd hr]
    have e1 : sc 15 + nI recs[i] = nI (recs.take (i + 1)).sum := by
      rw [h15, nI_add, List.take_add_one, List.getElem?_eq_getElem hil]
      simp only [Option.toList_some, List.sum_append, List.sum_cons, List.sum_nil, Nat.add_zero]
    rw [e1]
    simp only [↓bd c1]
    rw [nI_1]
    exact d1 K
theorem zR_c120 (todo : List Row) : ∀ (done : List Row) (sc : Nat → Int32) (w : ga_W) (n : Nat), isRh w sc → isRM w sc (done ++ todo) → todo.length < n →
    ∃ w1 sc1, (∀ K, f_R_crash_120 F 54 K n (nI done.length) w = K w1) ∧ isRh w1 sc1 ∧ sc1 25 = mxN (sc 25) todo ∧ scF sc sc1 [25] ∧ pu_F w w1 54 1 := by
  induction todo with
  | nil =>
    intro done sc w n h hm hn
    obtain ⟨n, rfl⟩ : ∃ k, n = k + 1 := ⟨n - 1, by simp at hn; omega⟩
    simp only [List.append_nil] at hm
    have hle : sc 15 ≤ nI done.length := by rw [hm.2.1]; exact Int32.le_refl _
    refine ⟨w, sc, fun K => ?_, h, rfl, scF.rf, pu_F.rf⟩
    rw [f_R_crash_120]
    simp only [↓bd (rR h 15 rfl), ↓ip hle]
  | cons r todo ih =>
    intro done sc w n h hm hn
    obtain ⟨n, rfl⟩ : ∃ k, n = k + 1 := ⟨n - 1, by simp at hn; omega⟩
    simp only [List.length_cons] at hn
    have hml := hm.2.2
    have h15 := hm.2.1
    simp only [List.length_append, List.length_cons] at hml h15
    have hle : ¬ sc 15 ≤ nI done.length := by rw [h15]; exact nI_ge (by omega) (by omega)
    obtain ⟨r1, r2, r3, r4, r5⟩ := rMem hm (show (done ++ r :: todo)[done.length]? = some r by simp)
    by_cases hx : r.2.1 ≤ sc 25
    · obtain ⟨w4, s4, d1, d2, d3, d4, d5⟩ := ih (done ++ [r]) sc w n h (by simpa using hm) (by omega)
      refine ⟨w4, s4, fun K => ?_, d2, ?_, d4, d5⟩
      · have := d1 K
        simp only [List.length_append, List.length_cons, List.length_nil, Nat.zero_add] at this
        rw [f_R_crash_120]
        simp only [↓bd (rR h 15 rfl), ↓iN hle, ↓bd (rRr h 12 64 rfl), ↓bd r2, ↓bd (rR h 25 rfl), ↓ip hx]
        rw [nI_1]
        exact this
      · rw [mxN_cons, if_neg (Int32.not_lt.mpr hx)]; exact d3
    · obtain ⟨w3, c1, c2, c3⟩ := zR h 25 r.2.1 (by omega) rfl
      obtain ⟨w4, s4, d1, d2, d3, d4, d5⟩ := ih (done ++ [r]) _ w3 n c2 (by simpa using hm.fr (sc' := pu_up sc 25 r.2.1) c3 (by omega) rfl) (by omega)
      refine ⟨w4, s4, fun K => ?_, d2, ?_, (scF.up (by simp)).tr d4, c3.tr d5⟩
      · have := d1 K
        simp only [List.length_append, List.length_cons, List.length_nil, Nat.zero_add] at this
        rw [f_R_crash_120]
        simp only [↓bd (rR h 15 rfl), ↓iN hle, ↓bd (rRr h 12 64 rfl), ↓bd r2, ↓bd (rR h 25 rfl), ↓iN hx, ↓bd c1]
        rw [nI_1]
        exact this
      · rw [mxN_cons, if_pos (Int32.not_le.mp hx)]; exact d3
theorem zR_c159 {tabs : List Tab} (todo : List Row) : ∀ (done : List Row) (sc : Nat → Int32) (w : ga_W) (n : Nat), isRt w sc tabs → fl tabs = done ++ todo → todo.length < n →
    ∃ w1 sc1, f_R_crash_159 F 54 n (nI done.length) w = some (.inl (some (.int (sc 17))), w1) ∧ isRh w1 sc1 ∧ sc1 25 = mxN (sc 25) todo ∧ scF sc sc1 [25] ∧ pu_F w w1 54 1 := by
  induction todo with
  | nil =>
    intro done sc w n h hfl hn
    obtain ⟨n, rfl⟩ : ∃ k, n = k + 1 := ⟨n - 1, by simp at hn; omega⟩
    simp only [List.append_nil] at hfl
    have hle : sc 5 ≤ nI done.length := by rw [h.2.1, hfl]; exact Int32.le_refl _
    refine ⟨w, sc, ?_, h.1, rfl, scF.rf, pu_F.rf⟩
    rw [f_R_crash_159]
    simp only [↓bd (rR h.1 5 rfl), ↓ip hle, ↓bd (rR h.1 17 rfl)]
  | cons r todo ih =>
    intro done sc w n h hfl hn
    obtain ⟨n, rfl⟩ : ∃ k, n = k + 1 := ⟨n - 1, by simp at hn; omega⟩
    simp only [List.length_cons] at hn
    have h5 := h.2.1
    have hl := h.2.2.2.1
    rw [hfl] at h5 hl
    simp only [List.length_append, List.length_cons] at h5 hl
    have hle : ¬ sc 5 ≤ nI done.length := by rw [h5]; exact nI_ge (by omega) (by omega)
    have r2 := (rRow h (show (fl tabs)[done.length]? = some r by rw [hfl]; simp)).2.1
    by_cases hx : r.2.1 ≤ sc 25
    · obtain ⟨w4, s4, d1, d2, d3, d4, d5⟩ := ih (done ++ [r]) sc w n h (by simpa using hfl) (by omega)
      refine ⟨w4, s4, ?_, d2, ?_, d4, d5⟩
      · simp only [List.length_append, List.length_cons, List.length_nil, Nat.zero_add] at d1
        rw [f_R_crash_159]
        simp only [↓bd (rR h.1 5 rfl), ↓iN hle, ↓bd (rRr h.1 2 56 rfl), ↓bd r2, ↓bd (rR h.1 25 rfl), ↓ip hx]
        rw [nI_1]
        exact d1
      · rw [mxN_cons, if_neg (Int32.not_lt.mpr hx)]; exact d3
    · obtain ⟨w3, c1, c2, c3⟩ := zR h.1 25 r.2.1 (by omega) rfl
      obtain ⟨w4, s4, d1, d2, d3, d4, d5⟩ := ih (done ++ [r]) _ w3 n (h.sc c3 c2 rfl rfl) (by simpa using hfl) (by omega)
      refine ⟨w4, s4, ?_, d2, ?_, (scF.up (by simp)).tr d4, c3.tr d5⟩
      · simp only [List.length_append, List.length_cons, List.length_nil, Nat.zero_add] at d1
        rw [f_R_crash_159]
        simp only [↓bd (rR h.1 5 rfl), ↓iN hle, ↓bd (rRr h.1 2 56 rfl), ↓bd r2, ↓bd (rR h.1 25 rfl), ↓iN hx, ↓bd c1]
        rw [nI_1]
        exact d1
      · rw [mxN_cons, if_pos (Int32.not_le.mp hx)]; exact d3
theorem zR_c28 {x : Int32} (hF : 1000 < F) (h : isRh w sc) (hn : isN w 71 sn) : ∃ w1, (∀ K, f_R_crash_28 F 54 x K F 0 w = K w1) ∧ isN w1 71 (fun _ => -1) ∧ pu_F w w1 71 1 := by
  obtain ⟨G, rfl⟩ : ∃ G, F = G + 5 := ⟨F - 5, by omega⟩
  have c4 : (4 : Int32) ≤ nI 4 := by decide
  have st : ∀ (n i : Nat) (w : ga_W) (sn : Nat → Int32), i < 4 → isRh w sc → isN w 71 sn → ∃ w1, (∀ K, f_R_crash_28 (G + 5) 54 x K (n + 1) (nI i) w = f_R_crash_28 (G + 5) 54 x K n (nI (i + 1)) w1) ∧ isRh w1 sc ∧ isN w1 71 (pu_up sn i (-1)) ∧ pu_F w w1 71 1 := by
    intro n i w sn hi h hn
    have hc : ¬ (4 : Int32) ≤ nI i := by
      have : (4 : Int32) = nI 4 := by decide
      rw [this]; exact nI_ge hi (by omega)
    obtain ⟨w3, c1, c2, c3⟩ := zN_st (i := i) (x := -1) hn hi
    refine ⟨w3, fun K => ?_, h.fr c3 (by omega), c2, c3⟩
    rw [f_R_crash_28]
    simp only [↓iN hc, ↓bd (rRr h 23 71 rfl), ↓bd c1]
    rw [nI_1]
  obtain ⟨w1, a1, a2, a3, a4⟩ := st (G + 4) 0 w sn (by omega) h hn
  obtain ⟨w2, b1, b2, b3, b4⟩ := st (G + 3) 1 w1 _ (by omega) a2 a3
  obtain ⟨w3, d1, d2, d3, d4⟩ := st (G + 2) 2 w2 _ (by omega) b2 b3
  obtain ⟨w4, e1, e2, e3, e4⟩ := st (G + 1) 3 w3 _ (by omega) d2 d3
  refine ⟨w4, fun K => ?_, ?_, ((a4.tr b4).tr d4).tr e4⟩
  · rw [← nI_0, a1, b1, d1, e1, f_R_crash_28]
    simp only [↓ip c4]
  · obtain ⟨S, s1, s2⟩ := e3
    refine ⟨S, s1, fun i hi => ?_⟩
    rw [s2 i hi]
    simp only [pu_up]
    have : i = 0 ∨ i = 1 ∨ i = 2 ∨ i = 3 := by omega
    rcases this with rfl | rfl | rfl | rfl <;> rfl
set_option maxHeartbeats 1000000 in
theorem zR_crash {x : Int32} {lt' : Nat} (hF : 1000 < F) (hsy : syn < 100) (h : isR w thr lv mem recs syn bt sn lt rd ms gt) :
    (¬ (0 ≤ x ∧ x ≤ 100) → ∃ w' v, f_R_crash F 54 x w = some (.inl (some (.int v)), w') ∧ isR w' 1 lv mem recs syn bt sn lt rd ms gt ∧ pu_R w w') ∧
    (∀ k, x = nI k → k ≤ 100 → grt (mem.take (recs.take (syn + k)).sum) lv.1 = nI lt' → ∃ w', f_R_crash F 54 x w = some (.inl (some (.int (nI (recs.take (syn + k)).length))), w') ∧ isR w' 0 lv (mem.take (recs.take (syn + k)).sum) (recs.take (syn + k)) (min (syn + k) recs.length) none (fun _ => -1) lt' rd ms gt ∧ pu_R w w') := by
  obtain ⟨sc, h1, h2⟩ := h
  obtain ⟨w1, a1, a2, a3⟩ := zR_set0 0 h1
  have c10 : ¬ (1 : Int32) = 0 := by decide
  constructor
  · intro hx
    obtain ⟨w3, c1, c2, c3⟩ := zR_throw (F := F) 1 a2
    refine ⟨w3, 0, ?_, c2, a3.tr c3⟩
    unfold f_R_crash
    simp only [↓bd a1, ↓gcI (zR_inF hx), ↓ip trivial, if_true, ↓ip (rR_is a2.h), ↓gcI c1]
  · intro k hx hk hg
    have hin : 0 ≤ x ∧ x ≤ 100 := by
      rw [hx]
      have : (100 : Int32) = nI 100 := by decide
      exact ⟨nI_nn (by omega), by rw [this]; exact nI_le (by omega) (by omega)⟩
    obtain ⟨b1, b2, ⟨⟨Z, z1, z2⟩, b4, b5, b6⟩, hsum, ⟨B, bb, -⟩, b7, b8, b9⟩ := id a2
    generalize hsc : pu_up sc 0 0 = s1 at *
    have hs10 : s1 0 = 0 := by rw [← hsc]; rfl
    obtain ⟨w3, c1, c2, c3⟩ := zR a2.h 22 (-1 : Int32) (by omega) rfl
    obtain ⟨w4, d1, d2, d3⟩ := zR_c28 (F := F) (x := x) hF c2 (b7.fr c3 (by omega))
    have hh4 : isRh w4 (pu_up s1 22 (-1)) := c2.fr d3 (by omega)
    -- the records that stay
    have hRl : (recs.take (syn + k)).length = min (syn + k) recs.length := by simp
    have hroad : ∀ K : ga_W → ga_O, ∃ w5 s5, ((ga_gi w4 6 18 54).bind fun v9 => ((ga_gi w4 6 17 54).bind fun v10 => (ga_jn K (fun K15 => (if v10 ≤ (v9 + x) then (K15 w4) else ((ga_gi w4 6 18 54).bind fun v23 => ((ga_put w4 6 17 54 (.int (v23 + x))).bind fun w24 => (K15 w24)))))))) = K w5 ∧ isRh w5 s5 ∧ s5 17 = nI (recs.take (syn + k)).length ∧ scF (pu_up s1 22 (-1)) s5 [17] ∧ pu_F w4 w5 54 1 := by
      intro K
      have e18 : pu_up s1 22 (-1) 18 = nI syn := b6
      have e17 : pu_up s1 22 (-1) 17 = nI recs.length := b4
      simp only [↓bd (rR hh4 18 rfl), ↓bd (rR hh4 17 rfl), ↓jn]
      rw [e18, e17, hx, nI_add, hRl]
      by_cases hle : recs.length ≤ syn + k
      · rw [if_pos (nI_le hle (by omega))]
        exact ⟨w4, _, rfl, hh4, by rw [e17]; congr 1; omega, scF.rf, pu_F.rf⟩
      · obtain ⟨w5, f1, f2, f3⟩ := zR hh4 17 (nI (syn + k)) (by omega) rfl
        rw [if_neg (nI_ge (by omega) (by omega))]
        simp only [↓bd f1]
        exact ⟨w5, _, rfl, f2, by show nI (syn + k) = _; congr 1; omega, scF.up (by simp), f3⟩
    have hK := hroad (fun (w14 : ga_W) => ((ga_gi w14 6 17 54).bind fun v16 => ((ga_put w14 6 18 54 (.int v16)).bind fun w17 => ((ga_put w17 6 15 54 (.int (0 : Int32))).bind fun w18 => (f_R_crash_84 F 54 (fun (w19 : ga_W) => ((ga_put w19 6 25 54 (.int (0 : Int32))).bind fun w20 => (f_R_crash_120 F 54 (fun (w21 : ga_W) => (f_R_crash_159 F 54 F (0 : Int32) w21)) F (0 : Int32) w20))) F (0 : Int32) w18)))))
    obtain ⟨w5, s5, f1, f2, f3, f4, f5⟩ := hK
    obtain ⟨w6, g1, g2, g3⟩ := zR f2 18 (nI (recs.take (syn + k)).length) (by omega) rfl
    obtain ⟨w7, i1, i2, i3⟩ := zR g2 15 (0 : Int32) (by omega) rfl
    have hF1 : pu_F w4 w7 54 1 := (f5.tr g3).tr i3
    have z17 : w7.1[67]? = some (.inl (0, 16, .inl Z)) := hF1.out (by omega) (d3.out (by omega) (c3.out (by omega) z1))
    obtain ⟨w8, s8, j1, j2, j3, j4, j5⟩ := zR_c84 (F := F) (recs := recs) (R := (recs.take (syn + k)).length) (by omega) (by omega) z2 (recs.take (syn + k)).length 0 _ w7 F (by omega) i2 z17 f3 rfl (by omega)
    rw [nI_0] at j1
    have hts : recs.take (recs.take (syn + k)).length = recs.take (syn + k) := by
      rw [hRl]
      by_cases hle : recs.length ≤ syn + k
      · rw [Nat.min_eq_right hle, List.take_of_length_le hle, List.take_of_length_le (Nat.le_refl _)]
      · rw [Nat.min_eq_left (by omega)]
    rw [hts] at j3
    obtain ⟨w9, l1, l2, l3⟩ := zR j2 25 (0 : Int32) (by omega) rfl
    have hs8 : scF s1 s8 [15, 17, 18, 22] := ((((scF.up (by simp)).tr (f4.mono (by simp))).tr (scF.up (by simp))).tr (scF.up (by simp))).tr (j4.mono (by simp))
    have hF9 : pu_F w4 w9 54 1 := (hF1.tr j5).tr l3
    have hsl : (recs.take (syn + k)).sum ≤ mem.length := by
      rw [← hsum]
      conv => rhs; rw [← List.take_append_drop (syn + k) recs]
      rw [List.sum_append]
      omega
    have hml := b2.2.2
    have hmt : (mem.take (recs.take (syn + k)).sum).length = (recs.take (syn + k)).sum := by simp; omega
    have hrm9 : ∀ (w0 : ga_W) (s0 : Nat → Int32), pu_K w1 w0 [(54, 1), (71, 1)] → s0 15 = s8 15 → isRM w0 s0 (mem.take (recs.take (syn + k)).sum) := by
      intro w0 s0 hKK hs0
      obtain ⟨⟨R, r1, r2⟩, -⟩ := b2
      refine ⟨⟨R, r1.frK hKK (by decide), fun i hi => ?_⟩, by rw [hs0, j3, hmt], by omega⟩
      rw [hmt] at hi
      rw [List.getElem?_take, if_pos hi]
      exact r2 i (by omega)
    have hK9 : pu_K w1 w9 [(54, 1), (71, 1)] := ((c3.K (by simp)).tr (d3.K (by simp))).tr (hF9.K (by simp))
    obtain ⟨w10, s10, m1, m2, m3, m4, m5⟩ := zR_c120 (F := F) (mem.take (recs.take (syn + k)).sum) [] _ w9 F l2 (by simpa using hrm9 w9 (pu_up s8 25 0) hK9 rfl) (by omega)
    simp only [List.length_nil, nI_0] at m1
    have hK10 : pu_K w1 w10 [(54, 1), (71, 1)] := hK9.tr (m5.K (by simp))
    have hrv10 : isRV w10 s10 lv := b1.hdK hK10 (by decide) m2 (((hs8.mono (by simp)).tr (scF.up (by simp))).tr (m4.mono (by simp)))
    obtain ⟨w11, s11, n1, n2, n3, n4, n5⟩ := zR_c159 (F := F) (fl lv.1) [] _ w10 F hrv10.1 (by simp) (by have := hrv10.1.2.2.2.1; omega)
    simp only [List.length_nil, nI_0] at n1
    have hK11 : pu_K w1 w11 [(54, 1), (71, 1)] := hK10.tr (n5.K (by simp))
    have hs11 : scF s8 s11 [25] := ((scF.up (by simp)).tr m4).tr n4
    have e17 : s10 17 = nI (recs.take (syn + k)).length := by
      rw [m4 17 (by simp)]
      show s8 17 = _
      rw [j4 17 (by simp)]
      exact f3
    have e25 : s11 25 = nI lt' := by
      rw [n3, m3]
      show mxN (mxN 0 _) _ = _
      rw [mxN_max (fl lv.1) _ 0 (mxN_ge _ _)]
      exact hg
    have hst : scF s1 s11 [15, 17, 18, 22, 25] := (hs8.mono (by simp)).tr (hs11.mono (by simp))
    refine ⟨w11, ?_, ⟨s11, ⟨b1.hdK hK11 (by decide) n2 (hst.mono (by simp)), hrm9 w11 s11 hK11 (hs11 15 (by simp)), ⟨⟨Z, hK11.out (by decide) z1, fun i y hy => z2 i y ?_⟩, ?_, by omega, ?_⟩, hmt.symm, ⟨B, ⟨hK11.out (by decide) bb.1, hK11.out (by decide) bb.2.1, hK11.out (by decide) bb.2.2⟩, ?_⟩, ?_, e25, (hst 27 (by simp)).trans b9.1, (hst 28 (by simp)).trans b9.2.1, (hst 29 (by simp)).trans b9.2.2⟩, ?_⟩, a3.tr (hK11.F (by decide))⟩
    · unfold f_R_crash
      simp only [↓bd a1, ↓gcI (zR_inT hin), ↓iN c10, ↓bd c1]
      rw [d1, f1]
      simp only [↓bd (rR f2 17 rfl)]
      rw [f3]
      simp only [↓bd g1, ↓bd i1]
      rw [j1]
      simp only [↓bd l1]
      rw [m1, n1, e17]
    · rw [List.getElem?_take] at hy
      split at hy
      · exact hy
      · cases hy
    · rw [hs11 17 (by simp), j4 17 (by simp)]
      exact f3
    · rw [hs11 18 (by simp), j4 18 (by simp)]
      show nI _ = _
      rw [hRl]
    · show s11 22 = -1
      rw [hs11 22 (by simp), j4 22 (by simp)]
      show s5 22 = -1
      rw [f4 22 (by simp)]
      rfl
    · exact (((d2.fr hF9 (by omega)).fr m5 (by omega)).fr n5 (by omega))
    · rw [hst 0 (by simp)]; exact hs10
theorem zR_effort (h : isR w thr lv mem recs syn bt sn lt rd ms gt) :
    (gt = 0 → ∃ w' v, f_R_effort F 54 w = some (.inl (some (.double v)), w') ∧ isR w' 1 lv mem recs syn bt sn lt rd ms gt ∧ pu_R w w') ∧ (¬ gt = 0 → FP.ddiv (FP.i2d rd) (FP.i2d gt) &&& 0x7fffffffffffffff ≤ 0x7ff0000000000000 → ∃ w', f_R_effort F 54 w = some (.inl (some (.double (FP.ddiv (FP.i2d rd) (FP.i2d gt)))), w') ∧ isR w' 0 lv mem recs syn bt sn lt rd ms gt ∧ pu_R w w') := by
  obtain ⟨sc, h1, h2⟩ := h
  obtain ⟨w1, a1, a2, a3⟩ := zR_set0 0 h1
  generalize hsc : pu_up sc 0 0 = s1 at *
  have hs10 : s1 0 = 0 := by rw [← hsc]; rfl
  obtain ⟨-, -, -, -, -, -, -, b27, b28, b29⟩ := id a2
  constructor
  · intro hg
    obtain ⟨w3, c1, c2, c3⟩ := zR_throw (F := F) 1 a2
    refine ⟨w3, FP.i2d 0, ?_, c2, a3.tr c3⟩
    have hz : s1 29 = 0 := b29.trans hg
    unfold f_R_effort
    simp only [↓bd a1, ↓bd (rR a2.h 29 rfl), ↓ip hz, ↓ip (rR_is a2.h), ↓gcI c1]
  · intro hg hd
    refine ⟨w1, ?_, ⟨s1, a2, hs10⟩, a3⟩
    have hz : ¬ s1 29 = 0 := fun h9 => hg (b29.symm.trans h9)
    unfold f_R_effort
    simp only [↓bd a1, ↓bd (rR a2.h 29 rfl), ↓iN hz, ↓bd (rR a2.h 27 rfl)]
    rw [b27, b29]
    simp only [↓ip hd]
