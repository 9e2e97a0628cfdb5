/-! PURE, 20: the reference places tables -/
def pR (lev : Int32) (ks : List Row) : List Tab → Nat → Nat
  | [], i => i
  | t :: ts, i => if t.2.1 < lev ∨ (t.2.1 = lev ∧ ks ≠ [] ∧ lo t < (ks.headD zr).1) then pR lev ks ts (i + 1) else i
theorem pR_le (lev : Int32) (ks : List Row) (ts : List Tab) : ∀ i, i ≤ pR lev ks ts i ∧ pR lev ks ts i ≤ i + ts.length := by
  induction ts with
  | nil => intro i; simp [pR]
  | cons t ts ih =>
    intro i
    have := ih (i + 1)
    simp only [pR]
    split <;> simp only [List.length_cons] <;> omega
theorem nI_nle0 {a : Nat} (h : 0 < a) (h2 : a < 1000) : ¬ nI a ≤ 0 := nI_nle h (by omega)
theorem zR_place_loop {F : Nat} {w : ga_W} {sc : Nat → Int32} {lev : Int32} {ks : List Row} {K : Int32 → ga_W → ga_O} (hF : 1000 < F) (hw : isWk w sc ks) (post : List Tab) : ∀ (pre : List Tab) (n : Nat), isRt w sc (pre ++ post) → (∀ t ∈ post, t.2.2 ≠ []) → post.length < n → f_R_place_2 F 54 lev K n (nI pre.length) w = K (nI (pR lev ks post pre.length)) w := by
  induction post with
  | nil =>
    intro pre n h ha hn
    obtain ⟨n, rfl⟩ : ∃ k, n = k + 1 := ⟨n - 1, by simp at hn; omega⟩
    simp only [List.append_nil] at h
    rw [f_R_place_2]
    simp only [↓bd (rR10 h), ↓ip (Int32.le_refl _), pR]
  | cons t post ih =>
    intro pre n h ha hn
    obtain ⟨n, rfl⟩ : ∃ k, n = k + 1 := ⟨n - 1, by simp at hn; omega⟩
    have hl := rR_len h
    simp only [List.length_cons] at hn
    have h1 : ¬ nI (pre ++ t :: post).length ≤ nI pre.length := nI_ge (by simp) (by simp; omega)
    have hlv := (rT_at h (show (pre ++ t :: post)[pre.length]? = some t by simp)).2.1
    have ht : t.2.2 ≠ [] := ha t (by simp)
    have e1 := ih (pre ++ [t]) n (by simpa using h) (fun t' ht' => ha t' (by simp [ht'])) (by omega)
    simp only [List.length_append, List.length_cons, List.length_nil, Nat.zero_add] at e1
    have e2 : pR lev ks (t :: post) pre.length = if t.2.1 < lev ∨ (t.2.1 = lev ∧ ks ≠ [] ∧ lo t < (ks.headD zr).1) then pR lev ks post (pre.length + 1) else pre.length := rfl
    obtain ⟨⟨W, hA, hag⟩, h36, hkl⟩ := hw
    rw [f_R_place_2, e2]
    simp only [↓bd (rR10 h), ↓iN h1, ↓bd (rRr h.1 7 60 rfl), ↓bd hlv]
    by_cases hx : t.2.1 < lev
    · rw [if_pos (Or.inl hx)]
      simp only [↓ip hx]
      rw [nI_1, e1]
    · simp only [↓iN hx]
      by_cases hy : t.2.1 = lev
      · simp only [↓ip hy, ↓bd (rR h.1 36 rfl)]
        by_cases hz : ks = []
        · have hle : sc 36 ≤ 0 := by rw [h36, hz]; decide
          simp only [↓ip hle]
          rw [if_neg]
          rintro (h9 | ⟨-, h9, -⟩)
          · exact hx h9
          · exact h9 hz
        · have hp : 0 < ks.length := List.length_pos_iff.mpr hz
          have hle : ¬ sc 36 ≤ 0 := by rw [h36]; exact nI_nle0 hp (by omega)
          have hw0 : ga_ai w 0 73 (0 : Int32) = some (ks.headD zr).1 := by
            have r1 := rA hA.1 (show 0 < 260 by omega) (by omega)
            have h9 := hag 0 hp
            rw [nI_0] at r1
            rw [r1]
            cases ks with
            | nil => exact absurd rfl hz
            | cons a b => simp at h9; simp [h9]
          simp only [↓iN hle, ↓ip (rR_is h.1), ↓gcI (zR_low hF h ht), ↓bd (rRr h.1 32 73 rfl), ↓bd hw0]
          by_cases hv : (ks.headD zr).1 ≤ lo t
          · simp only [↓ip hv]
            rw [if_neg]
            rintro (h9 | ⟨-, -, h9⟩)
            · exact hx h9
            · exact absurd hv (Int32.not_le.mpr h9)
          · simp only [↓iN hv]
            rw [nI_1, e1, if_pos (Or.inr ⟨hy, hz, Int32.not_le.mp hv⟩)]
      · simp only [↓iN hy]
        rw [if_neg]
        rintro (h9 | ⟨h9, -⟩)
        · exact hx h9
        · exact hy h9
theorem sp6_step {lev md : Int32} {loose rs : List Row} {r : Row} (h : ¬ (6 ≤ loose.length ∧ ¬ r.1 = (loose.getLastD zr).1)) : sp6 lev md loose (r :: rs) = sp6 lev md (loose ++ [r]) rs := by
  simp only [sp6]; rw [if_neg h]
theorem sp6_cut {lev md : Int32} {loose rs : List Row} {r : Row} (h : rs = [] ∨ (6 ≤ loose.length + 1 ∧ ¬ (rs.headD zr).1 = r.1)) : sp6 lev md (loose ++ [r]) rs = (md, lev, loose ++ [r]) :: sp6 lev (md + 1) [] rs := by
  cases rs with
  | nil => simp [sp6]
  | cons q rs =>
    rcases h with h | ⟨h1, h2⟩
    · simp at h
    · have e1 : sp6 lev (md + 1) [] (q :: rs) = sp6 lev (md + 1) [q] rs := sp6_step (by simp)
      rw [e1]
      have h3 : 6 ≤ (loose ++ [r]).length ∧ ¬ q.1 = ((loose ++ [r]).getLastD zr).1 := ⟨by simp; omega, by simpa using h2⟩
      simp only [sp6]
      rw [if_pos h3]
set_option maxHeartbeats 1000000 in
theorem zR_place62 {F : Nat} {lev : Int32} {ws : List Row} {post : List Tab} (hF : 1000 < F) (hok : ∀ r ∈ ws, r.2.2.2.2 = 0) (todo : List Row) : ∀ (A loose : List Row) (pre : List Tab) (sc : Nat → Int32) (w : ga_W) (n : Nat) (mk : Int32), ws = A ++ (loose ++ todo) → isRt w sc (pre ++ post) → isWk w sc ws → sc 30 = mk → ((todo = [] ∧ loose = []) ∨ (todo ≠ [] ∧ ¬ (6 ≤ loose.length ∧ ¬ (todo.headD zr).1 = (loose.getLastD zr).1))) → (fl (pre ++ post)).length + loose.length + todo.length ≤ 240 → (pre ++ post).length + todo.length ≤ 240 → todo.length < n →
    ∃ w' sc', f_R_place_62 F 54 lev n (nI pre.length) (nI A.length) (nI (A.length + loose.length)) w = some (.inl none, w') ∧ isRt w' sc' (pre ++ (sp6 lev mk loose todo ++ post)) ∧ sc' 30 = mk + nI (sp6 lev mk loose todo).length ∧ scF sc sc' [5, 10, 30] ∧ pu_F w w' 54 9 := by
  induction todo with
  | nil =>
    intro A loose pre sc w n mk hws h hw h30 hc hb1 hb2 hn
    obtain ⟨n, rfl⟩ : ∃ k, n = k + 1 := ⟨n - 1, by simp at hn; omega⟩
    have hl : loose = [] := by
      rcases hc with ⟨-, h9⟩ | ⟨h9, -⟩
      · exact h9
      · exact absurd rfl h9
    subst hl
    have hle : sc 36 ≤ nI (A.length + ([] : List Row).length) := by rw [hw.2.1, hws]; simp
    have hz : nI 0 = 0 := by decide
    refine ⟨w, sc, ?_, by simpa [sp6] using h, by simp [sp6, h30, hz], scF.rf, pu_F.rf⟩
    rw [f_R_place_62]
    simp only [↓bd (rR h.1 36 rfl), ↓ip hle]
  | cons r todo ih =>
    intro A loose pre sc w n mk hws h hw h30 hc hb1 hb2 hn
    obtain ⟨n, rfl⟩ : ∃ k, n = k + 1 := ⟨n - 1, by simp at hn; omega⟩
    simp only [List.length_cons] at hb1 hb2 hn
    have hc1 : ¬ (6 ≤ loose.length ∧ ¬ r.1 = (loose.getLastD zr).1) := by
      rcases hc with ⟨h9, -⟩ | ⟨-, h9⟩
      · simp at h9
      · exact h9
    have hwl : ws.length = A.length + loose.length + (todo.length + 1) := by rw [hws]; simp; omega
    have hw240 := hw.2.2
    have hle : ¬ sc 36 ≤ nI (A.length + loose.length) := by rw [hw.2.1]; exact nI_ge (by omega) (by omega)
    have hkA : nI (A.length + loose.length) - nI A.length + 1 = nI (loose.length + 1) := by rw [nI_sub (by omega), nI_1]; congr 1; omega
    rw [sp6_step hc1]
    have hcut : (todo = [] ∨ (6 ≤ loose.length + 1 ∧ ¬ (todo.headD zr).1 = r.1)) → ∃ w' sc', (if ga_is w 6 54 = true then ga_c (f_R_insert F 54 (nI pre.length) lev (nI A.length) (nI (loose.length + 1)) w) (ga_kV fun w13 => (f_R_place_62 F 54 lev n (nI pre.length + (1 : Int32)) (nI (A.length + loose.length) + (1 : Int32)) (nI (A.length + loose.length) + (1 : Int32)) w13)) ga_up else none) = some (.inl none, w') ∧ isRt w' sc' (pre ++ (sp6 lev mk (loose ++ [r]) todo ++ post)) ∧ sc' 30 = mk + nI (sp6 lev mk (loose ++ [r]) todo).length ∧ scF sc sc' [5, 10, 30] ∧ pu_F w w' 54 9 := by
      intro hcu
      obtain ⟨w1, a1, a2, a3, a4⟩ := zR_insert (F := F) (A := A) (P := loose ++ [r]) (B := todo) (lev := lev) (mk := mk) hF h (by rw [hws] at hw; simpa using hw) h30 (fun q hq => hok q (by rw [hws]; simp only [List.mem_append, List.mem_singleton] at hq; simp; rcases hq with hq | hq <;> simp [hq])) (by simp; omega) (by omega)
      have hfl : (fl ((pre ++ [(mk, lev, loose ++ [r])]) ++ post)).length = (fl (pre ++ post)).length + loose.length + 1 := by simp [fl_app, fl_cons, fl_nil]; omega
      obtain ⟨w2, sc2, b1, b2, b3, b4, b5⟩ := ih (A ++ (loose ++ [r])) [] (pre ++ [(mk, lev, loose ++ [r])]) _ w1 n (mk + 1) (by rw [hws]; simp) (by simpa using a2) (by rw [hws]; simpa using a3) rfl (by
        cases todo with
        | nil => exact Or.inl ⟨rfl, rfl⟩
        | cons q qs => exact Or.inr ⟨by simp, by simp⟩) (by rw [hfl]; simp only [List.length_nil]; omega) (by simp only [List.length_append, List.length_cons, List.length_nil] at hb2 ⊢; omega) (by omega)
      rw [sp6_cut hcu]
      refine ⟨w2, sc2, ?_, by simpa using b2, ?_, ?_, a4.tr b5⟩
      · simp only [List.length_append, List.length_cons, List.length_nil, Nat.add_zero, Nat.zero_add] at a1 b1
        simp only [↓ip (rR_is h.1), ↓gcV a1]
        rw [nI_1, nI_1]
        rw [← Nat.add_assoc] at b1
        exact b1
      · rw [b3, List.length_cons, ← nI_1, Int32.add_assoc, Int32.add_comm 1]
      · intro k hk
        rw [b4 k hk]
        simp only [List.mem_cons, List.not_mem_nil, or_false, not_or] at hk
        simp only [insSc, pu_up]
        rw [if_neg hk.2.1, if_neg hk.2.2, if_neg hk.1]
    rw [f_R_place_62]
    simp only [↓bd (rR h.1 36 rfl), ↓iN hle, ↓jn]
    rw [hkA]
    cases todo with
    | nil =>
      have hle2 : sc 36 ≤ nI (A.length + loose.length) + 1 := by
        rw [hw.2.1, nI_1]; exact nI_le (by simp at hwl; omega) (by omega)
      simp only [↓ip hle2]
      exact hcut (Or.inl rfl)
    | cons q qs =>
      simp only [List.length_cons] at hwl hb1 hb2 hn
      have hle2 : ¬ sc 36 ≤ nI (A.length + loose.length) + 1 := by
        rw [hw.2.1, nI_1]; exact nI_ge (by omega) (by omega)
      obtain ⟨⟨W, hA, hag⟩, h36, -⟩ := id hw
      have r1 := rA hA.1 (show A.length + loose.length < 260 by omega) (by omega)
      have r2 := rA hA.1 (show A.length + loose.length + 1 < 260 by omega) (by omega)
      have e1 : W (A.length + loose.length) = r := hag.at (by rw [hws, List.getElem?_append_right (by omega), Nat.add_sub_cancel_left, List.getElem?_append_right (by omega), Nat.sub_self]; rfl)
      have e2 : W (A.length + loose.length + 1) = q := hag.at (by rw [hws, List.getElem?_append_right (by omega), Nat.add_assoc, Nat.add_sub_cancel_left, List.getElem?_append_right (by omega), Nat.add_sub_cancel_left]; rfl)
      rw [e1] at r1
      rw [e2, ← nI_1] at r2
      have hgo : (loose.length + 1 < 6 ∨ q.1 = r.1) → ∃ w' sc', f_R_place_62 F 54 lev n (nI pre.length) (nI A.length) (nI (A.length + loose.length) + 1) w = some (.inl none, w') ∧ isRt w' sc' (pre ++ (sp6 lev mk (loose ++ [r]) (q :: qs) ++ post)) ∧ sc' 30 = mk + nI (sp6 lev mk (loose ++ [r]) (q :: qs)).length ∧ scF sc sc' [5, 10, 30] ∧ pu_F w w' 54 9 := by
        intro hg
        obtain ⟨w2, sc2, b1, b2⟩ := ih A (loose ++ [r]) pre sc w n mk (by rw [hws]; simp) h hw h30 (Or.inr ⟨by simp, by
          rintro ⟨h8, h9⟩
          rcases hg with hg | hg
          · simp at h8; omega
          · exact h9 (by simp [hg])⟩) (by simp; omega) (by simp only [List.length_cons]; omega) (by simp; omega)
        refine ⟨w2, sc2, ?_, b2⟩
        rw [nI_1]
        simpa [Nat.add_assoc] using b1
      simp only [↓iN hle2]
      have h6 : (nI (loose.length + 1) < (6 : Int32)) ↔ loose.length + 1 < 6 := by
        rw [nI_6]
        constructor
        · intro h9
          exact Classical.byContradiction fun h8 => absurd h9 (nI_nlt (by omega) (by omega))
        · intro h9; exact nI_lt h9 (by omega)
      by_cases h9 : loose.length + 1 < 6
      · simp only [↓ip (h6.mpr h9)]
        exact hgo (Or.inl h9)
      · simp only [↓iN (fun h8 => h9 (h6.mp h8)), ↓bd (rRr h.1 32 73 rfl), ↓bd r1, ↓bd r2]
        by_cases h8 : q.1 = r.1
        · simp only [↓ip h8]
          exact hgo (Or.inr h8)
        · simp only [↓iN h8]
          exact hcut (Or.inr ⟨by omega, h8⟩)
theorem zR_place {F : Nat} {w : ga_W} {sc : Nat → Int32} {lev mk : Int32} {tabs : List Tab} {ks : List Row} (hF : 1000 < F) (ha : ∀ t ∈ tabs, t.2.2 ≠ []) (h : isRt w sc tabs) (hw : isWk w sc ks) (h30 : sc 30 = mk) (hok : ∀ r ∈ ks, r.2.2.2.2 = 0) (hc1 : (fl tabs).length + ks.length ≤ 240) (hc2 : tabs.length + ks.length ≤ 240) :
    ∃ w' sc', f_R_place F 54 lev w = some (.inl none, w') ∧ isRt w' sc' (tabs.take (pR lev ks tabs 0) ++ (sp6 lev mk [] ks ++ tabs.drop (pR lev ks tabs 0))) ∧ sc' 30 = mk + nI (sp6 lev mk [] ks).length ∧ scF sc sc' [5, 10, 30] ∧ pu_F w w' 54 9 := by
  have hp := (pR_le lev ks tabs 0).2
  have htk : (tabs.take (pR lev ks tabs 0)).length = pR lev ks tabs 0 := by simp; omega
  obtain ⟨w', sc', a1, a2⟩ := zR_place62 (F := F) (lev := lev) (ws := ks) (post := tabs.drop (pR lev ks tabs 0)) hF hok ks [] [] (tabs.take (pR lev ks tabs 0)) sc w F mk (by simp) (by rw [List.take_append_drop]; exact h) hw h30 (by
    cases ks with
    | nil => exact Or.inl ⟨rfl, rfl⟩
    | cons q qs => exact Or.inr ⟨by simp, by simp⟩) (by rw [List.take_append_drop]; simpa using hc1) (by rw [List.take_append_drop]; exact hc2) (by have := hw.2.2; omega)
  refine ⟨w', sc', ?_, a2⟩
  have hl := h.2.2.2.2.1
  have e1 := zR_place_loop (F := F) (lev := lev) (ks := ks) (K := (fun (z1 : Int32) (w2 : ga_W) => (f_R_place_62 F 54 lev F z1 (0 : Int32) (0 : Int32) w2))) hF hw tabs [] F (by simpa using h) ha (by omega)
  simp only [List.length_nil, nI_0] at e1
  unfold f_R_place
  rw [e1]
  rw [htk] at a1
  simpa [nI_0] using a1
