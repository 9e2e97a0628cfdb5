/-! PURE, 44: the law's loop -/
theorem ati (x : Int32) (f : Int32 → ga_O) : ga_ati x f = f x := rfl
set_option maxHeartbeats 4000000 in
theorem law_loop {F : Nat} {xs : Nat → Int32} {L : Nat} (hF : 1000 < F) (hL : L ≤ 1536) : ∀ (m i n : Nat) (w : ga_W) (thr : Int32) (S : St), L ≤ i + 3 * m + 2 → i ≤ 1600 → sB w thr S → sI S → sTm S + 4 * m < 100000 → m < n →
    ∃ w', f_W_law_28 F xs L 0 54 78 79 n (nI i) w = some (.inl (some (.int 1)), w') ∧ w'.2.1 ≤ w.2.1 + m ∧ w'.2.2 ≤ w.2.2 + 6 * m := by
  have e3 : (3 : Int32) = nI 3 := by decide
  have hoL : Int32.ofNat L = nI L := rfl
  have hendc : ∀ i, i ≤ 1600 → L ≤ i + 2 → Int32.ofNat L - 3 < nI i := fun i hi h => by
    rw [hoL, e3]
    by_cases h3 : 3 ≤ L
    · rw [nI_sub h3]; exact nI_lt (by omega) (by omega)
    · have : nI L - nI 3 < 0 := by
        rcases (show L = 0 ∨ L = 1 ∨ L = 2 by omega) with rfl | rfl | rfl <;> decide
      exact Int32.lt_of_lt_of_le this (nI_nnb (by omega))
  intro m
  induction m with
  | zero =>
    intro i n w thr S hm hi hB hI hlt hn
    obtain ⟨n, rfl⟩ : ∃ k, n = k + 1 := ⟨n - 1, by omega⟩
    refine ⟨w, ?_, by omega, by omega⟩
    rw [f_W_law_28, if_pos (hendc i hi (by omega))]
  | succ m ih =>
    intro i n w thr S hm hi hB hI hlt hn
    obtain ⟨n, rfl⟩ : ∃ k, n = k + 1 := ⟨n - 1, by omega⟩
    by_cases hend : L ≤ i + 2
    · refine ⟨w, ?_, by omega, by omega⟩
      rw [f_W_law_28, if_pos (hendc i hi hend)]
    · have hne : ¬ Int32.ofNat L - 3 < nI i := by
        rw [hoL, e3, nI_sub (by omega)]
        exact nI_nlt (by omega) (by omega)
      have hix : ∀ j, j < L → ¬ (nI j < 0 ∨ L ≤ (nI j).toNatClampNeg) := fun j hj h9 => by
        rw [nI_clamp (by omega)] at h9
        rcases h9 with h9 | h9
        · exact absurd h9 (Int32.not_lt.mpr (nI_nnb (by omega)))
        · omega
      have c0 := hix i (by omega)
      have e1 : nI i + 1 = nI (i + 1) := nI_1 i
      have e2 : nI i + 2 = nI (i + 2) := nI_add i 2
      have c1 : ¬ (nI i + 1 < 0 ∨ L ≤ (nI i + 1).toNatClampNeg) := by rw [e1]; exact hix _ (by omega)
      have c2 : ¬ (nI i + 2 < 0 ∨ L ≤ (nI i + 2).toNatClampNeg) := by rw [e2]; exact hix _ (by omega)
      have hltS : sTm S < 100000 := by omega
      have hgo : ∀ (w2 : ga_W) (code : Int32) (S' : St), sB w2 code S' → sI S' → sTm S' ≤ sTm S + 4 → w2.2.1 ≤ w.2.1 + 1 → w2.2.2 ≤ w.2.2 + 6 → ∃ w', f_W_law_28 F xs L 0 54 78 79 n (nI i + 3) w2 = some (.inl (some (.int 1)), w') ∧ w'.2.1 ≤ w.2.1 + (m + 1) ∧ w'.2.2 ≤ w.2.2 + 6 * (m + 1) := by
        intro w2 code S' h1 h2 h3 h4 h5
        obtain ⟨w', a1, a2, a3⟩ := ih (i + 3) n w2 code S' (by omega) (by omega) h1 h2 (by omega) (by omega)
        refine ⟨w', ?_, by omega, by omega⟩
        rw [e3, nI_add]
        exact a1
      rw [f_W_law_28, if_neg hne, if_pos c0, ati]
      generalize xs (nI i).toNatClampNeg &&& 15 = v
      generalize ha1 : xs (nI i + 1).toNatClampNeg = A1
      generalize ha2 : xs (nI i + 2).toNatClampNeg = A2
      have z00 : ∀ x : Int64, lg_cmp x x = 0 := fun x => (lg_cmp_eq x x).mpr rfl
      by_cases k0 : v = 0
      · rw [if_pos k0]
        obtain ⟨code, w1, b, w2, S', h1, h2, h3, h4, h5, h6, h7, h8, h9⟩ := jPut (k := A1) (v := A2) hF hB hI hltS
        have h10 := zR_thrown (F := F) h5.2.1
        have hg := hgo w2 code S' h5 h6 h7 h8 h9
        simp only [↓ip c1, ↓ip c2, ↓ati, ha1, ha2, ↓gcI h1, ↓ip h2, ↓gcI h3, ↓ip h5.2.1.is, ↓gcI h10, ↓ip trivial, if_true]
        by_cases hc : code = 0
        · simp only [↓ip hc, ↓bd (h4 hc), ↓ip (z00 _)]
          exact hg
        · simp only [↓iN hc]
          exact hg
      rw [if_neg k0]
      by_cases k1 : v = 1
      · rw [if_pos k1]
        obtain ⟨code, w1, b, w2, S', h1, h2, h3, h4, h5, h6, h7, h8, h9⟩ := jRemove (k := A1) hF hB hI hltS
        have h10 := zR_thrown (F := F) h5.2.1
        have hg := hgo w2 code S' h5 h6 h7 h8 h9
        simp only [↓ip c1, ↓ip c2, ↓ati, ha1, ha2, ↓gcI h1, ↓ip h2, ↓gcI h3, ↓ip h5.2.1.is, ↓gcI h10, ↓ip trivial, if_true]
        by_cases hc : code = 0
        · simp only [↓ip hc, ↓bd (h4 hc), ↓ip (z00 _)]
          exact hg
        · simp only [↓iN hc]
          exact hg
      rw [if_neg k1]
      by_cases k2 : v = 2
      · rw [if_pos k2]
        obtain ⟨code, w1, b, w2, S', h1, h2, h3, h4, h5, h6, h7, h8, h9⟩ := jOpen (F := F) hB hI
        have h10 := zR_thrown (F := F) h5.2.1
        have hg := hgo w2 code S' h5 h6 h7 h8 h9
        simp only [↓ip c1, ↓ip c2, ↓ati, ha1, ha2, ↓gcI h1, ↓ip h2, ↓gcI h3, ↓ip h5.2.1.is, ↓gcI h10, ↓ip trivial, if_true]
        by_cases hc : code = 0
        · simp only [↓ip hc, ↓bd (h4 hc), ↓ip (z00 _)]
          exact hg
        · simp only [↓iN hc]
          exact hg
      rw [if_neg k2]
      by_cases k3 : v = 3
      · rw [if_pos k3]
        generalize hy : (if A1 = 0 then (0 : Int32) else 1) = y
        obtain ⟨code, w1, b, w2, S', h1, h2, h3, h4, h5, h6, h7, h8, h9⟩ := jClose (x := y) hF hB hI hltS
        have h10 := zR_thrown (F := F) h5.2.1
        have hg := hgo w2 code S' h5 h6 h7 h8 h9
        by_cases hz : A1 = 0
        · rw [if_pos hz] at hy
          subst hy
          simp only [↓ip c1, ↓ati, ha1, ↓jn, ↓ip hz, ↓gcI h1, ↓ip h2, ↓gcI h3, ↓ip h5.2.1.is, ↓gcI h10, ↓ip trivial, if_true]
          by_cases hc : code = 0
          · simp only [↓ip hc, ↓bd (h4 hc), ↓ip (z00 _)]
            exact hg
          · simp only [↓iN hc]
            exact hg
        · rw [if_neg hz] at hy
          subst hy
          simp only [↓ip c1, ↓ati, ha1, ↓jn, ↓iN hz, ↓gcI h1, ↓ip h2, ↓gcI h3, ↓ip h5.2.1.is, ↓gcI h10, ↓ip trivial, if_true]
          by_cases hc : code = 0
          · simp only [↓ip hc, ↓bd (h4 hc), ↓ip (z00 _)]
            exact hg
          · simp only [↓iN hc]
            exact hg
      rw [if_neg k3]
      by_cases k4 : v = 4
      · rw [if_pos k4]
        obtain ⟨v', w1, w2, S', c, h1, h2, h3, h5, h6, h7, h8, h9⟩ := jSync (F := F) hB hI
        have hg := hgo w2 c S' h5 h6 h7 h8 h9
        simp only [↓ip hB.1.is, ↓gcI h1, ↓ip h2, ↓gcI h3, ↓ip trivial, if_true]
        exact hg
      rw [if_neg k4]
      by_cases k5 : v = 5
      · rw [if_pos k5]
        obtain ⟨code, w1, b, w2, S', h1, h2, h3, h4, h5, h6, h7, h8, h9⟩ := jCrash (x := A1) hF hB hI hltS
        have h10 := zR_thrown (F := F) h5.2.1
        have hg := hgo w2 code S' h5 h6 h7 h8 h9
        simp only [↓ip c1, ↓ip c2, ↓ati, ha1, ha2, ↓gcI h1, ↓ip h2, ↓gcI h3, ↓ip h5.2.1.is, ↓gcI h10, ↓ip trivial, if_true]
        by_cases hc : code = 0
        · simp only [↓ip hc, ↓bd (h4 hc), ↓ip (z00 _)]
          exact hg
        · simp only [↓iN hc]
          exact hg
      rw [if_neg k5]
      by_cases k6 : v = 6
      · rw [if_pos k6]
        obtain ⟨code, w1, b, w2, S', h1, h2, h3, h4, h5, h6, h7, h8, h9⟩ := jFlush hF hB hI
        have h10 := zR_thrown (F := F) h5.2.1
        have hg := hgo w2 code S' h5 h6 h7 h8 h9
        simp only [↓ip c1, ↓ip c2, ↓ati, ha1, ha2, ↓gcI h1, ↓ip h2, ↓gcI h3, ↓ip h5.2.1.is, ↓gcI h10, ↓ip trivial, if_true]
        by_cases hc : code = 0
        · simp only [↓ip hc, ↓bd (h4 hc), ↓ip (z00 _)]
          exact hg
        · simp only [↓iN hc]
          exact hg
      rw [if_neg k6]
      by_cases k7 : v = 7
      · rw [if_pos k7]
        obtain ⟨code, w1, b, w2, S', h1, h2, h3, h4, h5, h6, h7, h8, h9⟩ := jGet (k := A1) (x := A2) hF hB hI
        have h10 := zR_thrown (F := F) h5.2.1
        have hg := hgo w2 code S' h5 h6 h7 h8 h9
        simp only [↓ip c1, ↓ip c2, ↓ati, ha1, ha2, ↓gcI h1, ↓ip h2, ↓gcI h3, ↓ip h5.2.1.is, ↓gcI h10, ↓ip trivial, if_true]
        by_cases hc : code = 0
        · simp only [↓ip hc, ↓bd (h4 hc), ↓ip (z00 _)]
          exact hg
        · simp only [↓iN hc]
          exact hg
      rw [if_neg k7]
      by_cases k8 : v = 8
      · rw [if_pos k8]
        obtain ⟨code, w1, b, w2, S', h1, h2, h3, h4, h5, h6, h7, h8, h9⟩ := jNext (k := A1) (x := A2) hF hB hI
        have h10 := zR_thrown (F := F) h5.2.1
        have hg := hgo w2 code S' h5 h6 h7 h8 h9
        simp only [↓ip c1, ↓ip c2, ↓ati, ha1, ha2, ↓gcI h1, ↓ip h2, ↓gcI h3, ↓ip h5.2.1.is, ↓gcI h10, ↓ip trivial, if_true]
        by_cases hc : code = 0
        · simp only [↓ip hc, ↓bd (h4 hc), ↓ip (z00 _)]
          exact hg
        · simp only [↓iN hc]
          exact hg
      rw [if_neg k8]
      by_cases k9 : v = 9
      · rw [if_pos k9]
        obtain ⟨code, w1, b, w2, S', h1, h2, h3, h4, h5, h6, h7, h8, h9⟩ := jSnapshot hF hB hI hltS
        have h10 := zR_thrown (F := F) h5.2.1
        have hg := hgo w2 code S' h5 h6 h7 h8 h9
        simp only [↓ip c1, ↓ip c2, ↓ati, ha1, ha2, ↓gcI h1, ↓ip h2, ↓gcI h3, ↓ip h5.2.1.is, ↓gcI h10, ↓ip trivial, if_true]
        by_cases hc : code = 0
        · simp only [↓ip hc, ↓bd (h4 hc), ↓ip (z00 _)]
          exact hg
        · simp only [↓iN hc]
          exact hg
      rw [if_neg k9]
      by_cases k10 : v = 10
      · rw [if_pos k10]
        obtain ⟨code, w1, b, w2, S', h1, h2, h3, h4, h5, h6, h7, h8, h9⟩ := jRelease (F := F) (x := A1) hB hI
        have h10 := zR_thrown (F := F) h5.2.1
        have hg := hgo w2 code S' h5 h6 h7 h8 h9
        simp only [↓ip c1, ↓ip c2, ↓ati, ha1, ha2, ↓gcI h1, ↓ip h2, ↓gcI h3, ↓ip h5.2.1.is, ↓gcI h10, ↓ip trivial, if_true]
        by_cases hc : code = 0
        · simp only [↓ip hc, ↓bd (h4 hc), ↓ip (z00 _)]
          exact hg
        · simp only [↓iN hc]
          exact hg
      rw [if_neg k10]
      by_cases k11 : v = 11
      · rw [if_pos k11]
        obtain ⟨code, w1, b, w2, S', h1, h2, h3, h4, h5, h6, h7, h8, h9⟩ := jSpoil (x := A1) (y := A2) hF hB hI
        have h10 := zR_thrown (F := F) h5.2.1
        have hg := hgo w2 code S' h5 h6 h7 h8 h9
        simp only [↓ip c1, ↓ip c2, ↓ati, ha1, ha2, ↓gcI h1, ↓ip h2, ↓gcI h3, ↓ip h5.2.1.is, ↓gcI h10, ↓ip trivial, if_true]
        by_cases hc : code = 0
        · simp only [↓ip hc, ↓bd (h4 hc), ↓ip (z00 _)]
          exact hg
        · simp only [↓iN hc]
          exact hg
      rw [if_neg k11]
      by_cases k12 : v = 12
      · rw [if_pos k12]
        obtain ⟨v', w1, w2, S', c, h1, h2, h3, h5, h6, h7, h8, h9⟩ := jGiveUp hF hB hI
        have hg := hgo w2 c S' h5 h6 h7 h8 h9
        simp only [↓ip hB.1.is, ↓gcI h1, ↓ip h2, ↓gcI h3, ↓ip trivial, if_true]
        exact hg
      rw [if_neg k12]
      by_cases k13 : v = 13
      · rw [if_pos k13]
        obtain ⟨code, w1, b, w2, S', h1, h2, h3, h4, h5, h6, h7, h8, h9⟩ := jEffort (F := F) hB hI
        have h10 := zR_thrown (F := F) h5.2.1
        have hg := hgo w2 code S' h5 h6 h7 h8 h9
        simp only [↓gcI h1, ↓ip h2, ↓gcD h3, ↓ip h5.2.1.is, ↓gcI h10, ↓ip trivial, if_true]
        by_cases hc : code = 0
        · obtain ⟨a, q1, q2⟩ := h4 hc
          simp only [↓ip hc, ↓bd q1, ↓ip q2]
          exact hg
        · simp only [↓iN hc]
          exact hg
      rw [if_neg k13]
      by_cases k14 : v = 14
      · rw [if_pos k14]
        obtain ⟨code, w1, b, w2, S', h1, h2, h3, h4, h5, h6, h7, h8, h9⟩ := jTable (x := A1) (y := A2) hF hB hI
        have h10 := zR_thrown (F := F) h5.2.1
        have hg := hgo w2 code S' h5 h6 h7 h8 h9
        simp only [↓ip c1, ↓ip c2, ↓ati, ha1, ha2, ↓gcI h1, ↓ip h2, ↓gcI h3, ↓ip h5.2.1.is, ↓gcI h10, ↓ip trivial, if_true]
        by_cases hc : code = 0
        · simp only [↓ip hc, ↓bd (h4 hc), ↓ip (z00 _)]
          exact hg
        · simp only [↓iN hc]
          exact hg
      rw [if_neg k14]
      by_cases k15 : v = 15
      · rw [if_pos k15]
        obtain ⟨code, w1, b, w2, S', h1, h2, h3, h4, h5, h6, h7, h8, h9⟩ := jCount (x := A1) hF hB hI
        have h10 := zR_thrown (F := F) h5.2.1
        have hg := hgo w2 code S' h5 h6 h7 h8 h9
        simp only [↓ip c1, ↓ip c2, ↓ati, ha1, ha2, ↓gcI h1, ↓ip h2, ↓gcI h3, ↓ip h5.2.1.is, ↓gcI h10, ↓ip trivial, if_true]
        by_cases hc : code = 0
        · simp only [↓ip hc, ↓bd (h4 hc), ↓ip (z00 _)]
          exact hg
        · simp only [↓iN hc]
          exact hg
      rw [if_neg k15]
      exact hgo w thr S hB hI (by omega) (by omega) (by omega)
