/-! PURE, 17: the reference enters rows into its work, inserts and takes out tables -/
def isWk (w : ga_W) (sc : Nat → Int32) (ws : List Row) : Prop := (∃ W, isA w 73 260 W ∧ pu_ag W ws) ∧ sc 36 = nI ws.length ∧ ws.length ≤ 240
def cnd (r q : Row) : Bool := decide (r.1 < q.1) || (decide (q.1 = r.1) && decide (¬ r.2.1 ≤ q.2.1))
def posW (r : Row) (W : Nat → Row) : Nat → Nat
  | 0 => 0
  | n + 1 => if cnd r (W n) then posW r W n else n + 1
theorem posW_le (r : Row) (W : Nat → Row) : ∀ n, posW r W n ≤ n := by
  intro n
  induction n with
  | zero => simp [posW]
  | succ n ih => simp only [posW]; split <;> omega
theorem zR_enter_loop {F : Nat} {sc : Nat → Int32} {W : Nat → Row} {k nu v g : Int32} {s : Int32} {len : Nat} {K : Int32 → ga_W → ga_O} (hlen : len < 260) : ∀ (a : Nat) (W' : Nat → Row) (w : ga_W) (n : Nat), a ≤ len → isRh w sc → isA w 73 260 W' → (∀ i, i < a → W' i = W i) → (∀ i, a < i → i ≤ len → W' i = W (i - 1)) → a < n →
    ∃ w1 W1, f_R_enter_6 F 54 k nu v g K n (nI a) w = K (nI (posW (k, nu, v, g, s) W a)) w1 ∧ isRh w1 sc ∧ isA w1 73 260 W1 ∧ (∀ i, i < posW (k, nu, v, g, s) W a → W1 i = W i) ∧ (∀ i, posW (k, nu, v, g, s) W a < i → i ≤ len → W1 i = W (i - 1)) ∧ pu_F w w1 73 4 := by
  intro a
  induction a with
  | zero =>
    intro W' w n ha h hA h1 h2 hn
    obtain ⟨n, rfl⟩ : ∃ k, n = k + 1 := ⟨n - 1, by omega⟩
    refine ⟨w, W', ?_, h, hA, by simpa [posW] using h1, by simpa [posW] using h2, pu_F.rf⟩
    have : nI 0 ≤ 0 := by decide
    rw [f_R_enter_6]
    simp only [↓ip this, posW]
  | succ a ih =>
    intro W' w n ha h hA h1 h2 hn
    obtain ⟨n, rfl⟩ : ∃ k, n = k + 1 := ⟨n - 1, by omega⟩
    have hle : ¬ nI (a + 1) ≤ 0 := nI_nle (by omega) (by omega)
    have hW : W' a = W a := h1 a (by omega)
    have r1 := rA hA.1 (show a < 260 by omega) (by omega)
    have r2 := rA hA.2.1 (show a < 260 by omega) (by omega)
    rw [hW] at r1 r2
    obtain ⟨w1, c1, c2, c3, c4⟩ := zR_copyWork (F := F) (i := a + 1) (j := a) h hA (by omega) (by omega)
    have hs1 : nI (a + 1) - 1 = nI a := by rw [nI_s1 (by omega)]; rfl
    have hm1 : nI (a + 1) + (-1) = nI a := by rw [← Int32.sub_eq_add_neg, hs1]
    obtain ⟨w2, W2, e1, e2, e3, e4, e5, e6⟩ := ih (pu_up W' (a + 1) (W' a)) w1 n (by omega) c2 c3 (fun i hi => by simp only [pu_up]; rw [if_neg (by omega)]; exact h1 i (by omega)) (fun i hi hi2 => by
      simp only [pu_up]
      by_cases hx : i = a + 1
      · subst hx; rw [if_pos rfl, hW]; rfl
      · rw [if_neg hx]; exact h2 i (by omega) hi2) (by omega)
    by_cases hc : cnd (k, nu, v, g, s) (W a) = true
    · have hp : posW (k, nu, v, g, s) W (a + 1) = posW (k, nu, v, g, s) W a := by simp [posW, hc]
      rw [hp]
      refine ⟨w2, W2, ?_, e2, e3, e4, e5, c4.tr e6⟩
      rw [f_R_enter_6]
      simp only [↓iN hle, ↓bd (rRr h 32 73 rfl)]
      rw [hs1]
      simp only [↓bd r1, ↓jn]
      by_cases hk : k < (W a).1
      · simp only [↓ip hk, ↓ip (rR_is h), ↓gcV c1]
        rw [hm1, e1]
      · have hc2 : (W a).1 = k ∧ ¬ nu ≤ (W a).2.1 := by
          simp only [cnd, hk, decide_false, Bool.false_or, Bool.and_eq_true, decide_eq_true_eq] at hc
          exact hc
        simp only [↓iN hk, ↓bd (rRr h 32 73 rfl), ↓bd r1, ↓ip hc2.1, ↓bd (rRr h 33 74 rfl), ↓bd r2, ↓iN hc2.2, ↓ip (rR_is h), ↓gcV c1]
        rw [hm1, e1]
    · have hp : posW (k, nu, v, g, s) W (a + 1) = a + 1 := by simp [posW, hc]
      rw [hp]
      refine ⟨w, W', ?_, h, hA, h1, h2, pu_F.rf⟩
      have hk : ¬ k < (W a).1 := fun hk => hc (by simp [cnd, hk])
      rw [f_R_enter_6]
      simp only [↓iN hle, ↓bd (rRr h 32 73 rfl)]
      rw [hs1]
      simp only [↓bd r1, ↓jn, ↓iN hk, ↓bd (rRr h 32 73 rfl)]
      by_cases hk2 : (W a).1 = k
      · have hn2 : nu ≤ (W a).2.1 := by
          apply Classical.not_not.mp
          intro h9
          exact hc (by simp only [cnd, hk2, decide_true, Bool.true_and, h9, not_false_eq_true, Bool.or_true])
        simp only [↓ip hk2, ↓bd (rRr h 33 74 rfl), ↓bd r2, ↓ip hn2]
      · simp only [↓iN hk2]
/-- where a row goes, and the work with it -/
def insW (r : Row) (ws : List Row) : List Row := ws.take (posW r (fun i => ws.getD i zr) ws.length) ++ r :: ws.drop (posW r (fun i => ws.getD i zr) ws.length)
theorem posW_congr (r : Row) {W V : Nat → Row} : ∀ n, (∀ i, i < n → W i = V i) → posW r W n = posW r V n := by
  intro n
  induction n with
  | zero => intro _; rfl
  | succ n ih => intro h; simp only [posW]; rw [h n (by omega), ih (fun i hi => h i (by omega))]
theorem zR_enter {F : Nat} {w : ga_W} {sc : Nat → Int32} {ws : List Row} {k nu v g : Int32} {s : Int32} (hF : 1000 < F) (h : isRh w sc) (hw : isWk w sc ws) (hl : ws.length < 240) (hg : g = 0 ∨ g = 1) :
    ∃ w', f_R_enter F 54 k nu v g w = some (.inl none, w') ∧ isRh w' (pu_up sc 36 (nI (ws.length + 1))) ∧ isWk w' (pu_up sc 36 (nI (ws.length + 1))) (insW (k, nu, v, g, s) ws) ∧ pu_K w w' [(54, 1), (73, 4)] := by
  obtain ⟨⟨W, hA, hag⟩, h36, -⟩ := hw
  obtain ⟨w1, W1, e1, e2, e3, e4, e5, e6⟩ := zR_enter_loop (F := F) (sc := sc) (W := W) (k := k) (nu := nu) (v := v) (g := g) (s := s) (len := ws.length) (K := (fun (z2 : Int32) (w3 : ga_W) => ((ga_gr w3 6 32 54).bind fun r4 => ((ga_si w3 0 r4 z2 k).bind fun w5 => ((ga_gr w5 6 33 54).bind fun r6 => ((ga_si w5 0 r6 z2 nu).bind fun w7 => ((ga_gr w7 6 34 54).bind fun r8 => ((ga_si w7 0 r8 z2 v).bind fun w9 => ((ga_gr w9 6 35 54).bind fun r10 => ((ga_sz w9 1 r10 z2 g).bind fun w11 => ((ga_gi w11 6 36 54).bind fun v12 => ((ga_put w11 6 36 54 (.int (v12 + (1 : Int32)))).bind fun w13 => (some (.inl none, w13)))))))))))))) (by omega) ws.length W w F (Nat.le_refl _) h hA (fun _ _ => rfl) (fun i h1 h2 => by omega) (by omega)
  have hple := posW_le (k, nu, v, g, s) W ws.length
  have hpe : posW (k, nu, v, g, s) W ws.length = posW (k, nu, v, g, s) (fun i => ws.getD i zr) ws.length := posW_congr _ _ (fun i hi => by
    have := hag i hi
    simp [List.getD, this])
  generalize hp : posW (k, nu, v, g, s) W ws.length = p at *
  obtain ⟨v1, v2, v3, v4, a1, a2, a3, a4, f1, f2, f3, f4, hA4⟩ := zA4 (k, nu, v, g, s) e3 (show p < 260 by omega) (by omega) hg
  have h1 := e2.fr f1 (by omega)
  have h2 := h1.fr f2 (by omega)
  have h3 := h2.fr f3 (by omega)
  have h4 := h3.fr f4 (by omega)
  obtain ⟨w5, b1, b2, b3⟩ := zR h4 36 (nI (ws.length + 1)) (by omega) rfl
  refine ⟨w5, ?_, b2, ⟨⟨_, hA4.fr b3 (by omega), fun i hi => ?_⟩, ?_, ?_⟩, ?_⟩
  · unfold f_R_enter
    simp only [↓bd (rR h 36 rfl)]
    rw [h36, e1]
    have hx : sc 36 + 1 = nI (ws.length + 1) := by rw [h36, nI_1]
    simp only [↓bd (rRr e2 32 73 rfl), ↓bd a1, ↓bd (rRr h1 33 74 rfl), ↓bd a2, ↓bd (rRr h2 34 75 rfl), ↓bd a3, ↓bd (rRr h3 35 76 rfl), ↓bd a4, ↓bd (rR h4 36 rfl)]
    rw [hx]
    simp only [↓bd b1]
  · unfold insW at hi ⊢
    rw [← hpe] at hi ⊢
    simp only [List.length_append, List.length_take, List.length_cons, List.length_drop] at hi
    have lt : (ws.take p).length = p := by simp; omega
    simp only [pu_up]
    by_cases hx : i < p
    · rw [List.getElem?_append_left (by omega), if_neg (by omega), e4 i hx, List.getElem?_take, if_pos hx]
      exact hag i (by omega)
    · rw [List.getElem?_append_right (by omega), lt]
      by_cases hy : i = p
      · subst hy; simp
      · rw [if_neg hy, e5 i (by omega) (by omega)]
        obtain ⟨j, hj⟩ : ∃ j, i - p = j + 1 := ⟨i - p - 1, by omega⟩
        rw [hj, List.getElem?_cons_succ, List.getElem?_drop]
        have := hag (i - 1) (by omega)
        rw [show p + j = i - 1 by omega]
        exact this
  · show nI (ws.length + 1) = _
    congr 1
    simp only [insW, List.length_append, List.length_take, List.length_cons, List.length_drop, ← hpe]
    omega
  · simp only [insW, List.length_append, List.length_take, List.length_cons, List.length_drop, ← hpe]
    omega
  · exact ((((((e6.K (by simp)).tr (((f1.mono (e' := 73) (k' := 4) (by omega) (by omega))).K (by simp))).tr ((f2.mono (e' := 73) (k' := 4) (by omega) (by omega)).K (by simp))).tr ((f3.mono (e' := 73) (k' := 4) (by omega) (by omega)).K (by simp))).tr ((f4.mono (e' := 73) (k' := 4) (by omega) (by omega)).K (by simp)))).tr (b3.K (by simp))
/-! shifts -/
theorem zR_i15 {F : Nat} {sc : Nat → Int32} {R : Nat → Row} {x1 x2 x3 : Int32} {at' nn E : Nat} {K : ga_W → ga_O} (hE : E + nn < 260) : ∀ (m : Nat) (R' : Nat → Row) (w : ga_W) (n : Nat), at' + m ≤ E → isRh w sc → isA w 55 260 R' → (∀ i, i < at' + m → R' i = R i) → (∀ i, at' + m + nn ≤ i → i < E + nn → R' i = R (i - nn)) → m < n →
    ∃ w1 R1, f_R_insert_15 F 54 x1 x2 x3 (nI nn) (nI at') K n (nI (at' + m) - 1) w = K w1 ∧ isRh w1 sc ∧ isA w1 55 260 R1 ∧ (∀ i, i < at' → R1 i = R i) ∧ (∀ i, at' + nn ≤ i → i < E + nn → R1 i = R (i - nn)) ∧ pu_F w w1 55 4 := by
  intro m
  induction m with
  | zero =>
    intro R' w n hm h hA h1 h2 hn
    obtain ⟨n, rfl⟩ : ∃ k, n = k + 1 := ⟨n - 1, by omega⟩
    refine ⟨w, R', ?_, h, hA, h1, h2, pu_F.rf⟩
    have hlt : nI (at' + 0) - 1 < nI at' := by
      rw [Nat.add_zero]
      by_cases h0 : at' = 0
      · subst h0; decide
      · rw [nI_s1 (by omega)]; exact nI_lt (by omega) (by omega)
    rw [f_R_insert_15]
    simp only [↓ip hlt]
  | succ m ih =>
    intro R' w n hm h hA h1 h2 hn
    obtain ⟨n, rfl⟩ : ∃ k, n = k + 1 := ⟨n - 1, by omega⟩
    have hk : nI (at' + (m + 1)) - 1 = nI (at' + m) := by rw [nI_s1 (by omega)]; congr 1
    have hnl : ¬ nI (at' + m) < nI at' := nI_nlt (by omega) (by omega)
    obtain ⟨w1, c1, c2, c3, c4⟩ := zR_moveEntry (F := F) (i := at' + m + nn) (j := at' + m) h hA (by omega) (by omega)
    obtain ⟨w2, R2, e1, e2, e3, e4, e5, e6⟩ := ih (pu_up R' (at' + m + nn) (R' (at' + m))) w1 n (by omega) c2 c3 (fun i hi => by simp only [pu_up]; rw [if_neg (by omega)]; exact h1 i (by omega)) (fun i hi hi2 => by
      simp only [pu_up]
      by_cases hx : i = at' + m + nn
      · subst hx; rw [if_pos rfl, h1 _ (by omega)]; congr 1; omega
      · rw [if_neg hx]; exact h2 i (by omega) hi2) (by omega)
    refine ⟨w2, R2, ?_, e2, e3, e4, e5, c4.tr e6⟩
    have hm1 : nI (at' + m) + (-1) = nI (at' + m) - 1 := by rw [Int32.sub_eq_add_neg]
    rw [f_R_insert_15, hk]
    simp only [↓iN hnl, ↓ip (rR_is h)]
    rw [nI_add]
    simp only [↓gcV c1]
    rw [hm1, e1]
theorem zR_i42 {F : Nat} {sc : Nat → Int32} {R W : Nat → Row} {x1 x2 : Int32} {at' nn fr : Nat} {K : ga_W → ga_O} (hE : at' + nn < 260) (hf : fr + nn < 260) : ∀ (m j : Nat) (R' : Nat → Row) (w : ga_W) (n : Nat), j + m = nn → isRh w sc → isA w 55 260 R' → isA w 73 260 W → (∀ i, i < j → R' (at' + i) = W (fr + i)) → (∀ i, i < at' ∨ at' + nn ≤ i → R' i = R i) → m < n →
    ∃ w1 R1, f_R_insert_42 F 54 x1 x2 (nI fr) (nI nn) (nI at') K n (nI j) w = K w1 ∧ isRh w1 sc ∧ isA w1 55 260 R1 ∧ (∀ i, i < nn → R1 (at' + i) = W (fr + i)) ∧ (∀ i, i < at' ∨ at' + nn ≤ i → R1 i = R i) ∧ pu_F w w1 55 4 := by
  intro m
  induction m with
  | zero =>
    intro j R' w n hm h hA hW h1 h2 hn
    obtain ⟨n, rfl⟩ : ∃ k, n = k + 1 := ⟨n - 1, by omega⟩
    have : j = nn := by omega
    subst this
    refine ⟨w, R', ?_, h, hA, h1, h2, pu_F.rf⟩
    rw [f_R_insert_42]
    simp only [↓ip (Int32.le_refl _)]
  | succ m ih =>
    intro j R' w n hm h hA hW h1 h2 hn
    obtain ⟨n, rfl⟩ : ∃ k, n = k + 1 := ⟨n - 1, by omega⟩
    have hnl : ¬ nI nn ≤ nI j := nI_ge (by omega) (by omega)
    obtain ⟨v1, v2, v3, v4, a1, a2, a3, a4, f1, f2, f3, f4, hA4⟩ := zA4 (W (fr + j)) hA (show at' + j < 260 by omega) (by omega) (hW.2.2.2.2 _)
    have g1 := h.fr f1 (by omega)
    have g2 := g1.fr f2 (by omega)
    have g3 := g2.fr f3 (by omega)
    have g4 := g3.fr f4 (by omega)
    have hW1 := hW.fr f1 (by omega)
    have hW2 := hW1.fr f2 (by omega)
    have hW3 := hW2.fr f3 (by omega)
    have hW4 := hW3.fr f4 (by omega)
    have r1 := rA hW.1 (show fr + j < 260 by omega) (by omega)
    have r2 := rA hW1.2.1 (show fr + j < 260 by omega) (by omega)
    have r3 := rA hW2.2.2.1 (show fr + j < 260 by omega) (by omega)
    have r4 := rZ hW3.2.2.2.1 (show fr + j < 260 by omega) (by omega)
    have hf4 : pu_F w v4 55 4 := (((f1.mono (by omega) (by omega)).tr (f2.mono (by omega) (by omega))).tr (f3.mono (by omega) (by omega))).tr (f4.mono (by omega) (by omega))
    obtain ⟨w2, R2, e1, e2, e3, e4, e5, e6⟩ := ih (j + 1) _ v4 n (by omega) g4 hA4 hW4 (fun i hi => by
      simp only [pu_up]
      by_cases hx : i = j
      · subst hx; rw [if_pos rfl]
      · rw [if_neg (by omega)]; exact h1 i (by omega)) (fun i hi => by simp only [pu_up]; rw [if_neg (by omega)]; exact h2 i hi) (by omega)
    refine ⟨w2, R2, ?_, e2, e3, e4, e5, hf4.tr e6⟩
    rw [f_R_insert_42]
    simp only [↓iN hnl, ↓bd (rRr h 1 55 rfl), ↓bd (rRr h 32 73 rfl)]
    rw [nI_add, nI_add]
    simp only [↓bd r1, ↓bd a1, ↓bd (rRr g1 2 56 rfl), ↓bd (rRr g1 33 74 rfl), ↓bd r2, ↓bd a2, ↓bd (rRr g2 3 57 rfl), ↓bd (rRr g2 34 75 rfl), ↓bd r3, ↓bd a3, ↓bd (rRr g3 4 58 rfl), ↓bd (rRr g3 35 76 rfl), ↓bd r4, ↓bd a4]
    rw [nI_1, e1]
theorem zR_i150 {F : Nat} {sc : Nat → Int32} {T : Nat → TT} {x2 x4 : Int32} {p E : Nat} {K : ga_W → ga_O} (hE : E + 1 < 260) : ∀ (m : Nat) (T' : Nat → TT) (w : ga_W) (n : Nat), p + m ≤ E → isRh w sc → isT w T' → (∀ i, i < p + m → T' i = T i) → (∀ i, p + m + 1 ≤ i → i < E + 1 → T' i = T (i - 1)) → m < n →
    ∃ w1 T1, f_R_insert_150 F 54 (nI p) x2 x4 K n (nI (p + m) - 1) w = K w1 ∧ isRh w1 sc ∧ isT w1 T1 ∧ (∀ i, i < p → T1 i = T i) ∧ (∀ i, p + 1 ≤ i → i < E + 1 → T1 i = T (i - 1)) ∧ pu_F w w1 59 4 := by
  intro m
  induction m with
  | zero =>
    intro T' w n hm h hA h1 h2 hn
    obtain ⟨n, rfl⟩ : ∃ k, n = k + 1 := ⟨n - 1, by omega⟩
    refine ⟨w, T', ?_, h, hA, h1, h2, pu_F.rf⟩
    have hlt : nI (p + 0) - 1 < nI p := by
      rw [Nat.add_zero]
      by_cases h0 : p = 0
      · subst h0; decide
      · rw [nI_s1 (by omega)]; exact nI_lt (by omega) (by omega)
    rw [f_R_insert_150]
    simp only [↓ip hlt]
  | succ m ih =>
    intro T' w n hm h hA h1 h2 hn
    obtain ⟨n, rfl⟩ : ∃ k, n = k + 1 := ⟨n - 1, by omega⟩
    have hk : nI (p + (m + 1)) - 1 = nI (p + m) := by rw [nI_s1 (by omega)]; congr 1
    have hnl : ¬ nI (p + m) < nI p := nI_nlt (by omega) (by omega)
    obtain ⟨w1, c1, c2, c3, c4⟩ := zR_moveTable (F := F) (i := p + m + 1) (j := p + m) h hA (by omega) (by omega)
    obtain ⟨w2, T2, e1, e2, e3, e4, e5, e6⟩ := ih (pu_up T' (p + m + 1) (T' (p + m))) w1 n (by omega) c2 c3 (fun i hi => by simp only [pu_up]; rw [if_neg (by omega)]; exact h1 i (by omega)) (fun i hi hi2 => by
      simp only [pu_up]
      by_cases hx : i = p + m + 1
      · subst hx; rw [if_pos rfl, h1 _ (by omega)]; congr 1
      · rw [if_neg hx]; exact h2 i (by omega) hi2) (by omega)
    refine ⟨w2, T2, ?_, e2, e3, e4, e5, c4.tr e6⟩
    have hm1 : nI (p + m) + (-1) = nI (p + m) - 1 := by rw [Int32.sub_eq_add_neg]
    rw [f_R_insert_150, hk]
    simp only [↓iN hnl, ↓ip (rR_is h)]
    rw [nI_1]
    simp only [↓gcV c1]
    rw [hm1, e1]
