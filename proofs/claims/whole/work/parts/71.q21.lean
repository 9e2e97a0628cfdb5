/-! PURE, 21: the reference merges -/
def gon (G : Nat → Int32) : Nat → List Tab → List Tab
  | _, [] => []
  | i, t :: ts => if G i = 0 then gon G (i + 1) ts else t :: gon G (i + 1) ts
theorem zR_m8 {F : Nat} {w : ga_W} {sc : Nat → Int32} {G : Nat → Int32} {lev : Int32} {K : Int32 → Int32 → ga_W → ga_O} (hF : 1000 < F) (hG : isG w G) (post : List Tab) : ∀ (pre : List Tab) (n : Nat) (a b : Int32), isRt w sc (pre ++ post) → (∀ t ∈ post, t.2.2 ≠ []) → post.length < n → f_R_merge_8 F 54 lev K n a b (nI pre.length) w = K (mnL a (gon G pre.length post)) (mxH b (gon G pre.length post)) w := by
  induction post with
  | nil =>
    intro pre n a b h ha hn
    obtain ⟨n, rfl⟩ : ∃ k, n = k + 1 := ⟨n - 1, by simp at hn; omega⟩
    simp only [List.append_nil] at h
    rw [f_R_merge_8]
    simp only [↓bd (rR10 h), ↓ip (Int32.le_refl _), gon, mnL, mxH, List.foldl_nil]
  | cons t post ih =>
    intro pre n a b h ha hn
    obtain ⟨n, rfl⟩ : ∃ k, n = k + 1 := ⟨n - 1, by simp at hn; omega⟩
    have hl := rR_len h
    simp only [List.length_cons] at hn
    have h1 : ¬ nI (pre ++ t :: post).length ≤ nI pre.length := nI_ge (by simp) (by simp; omega)
    have ht : t.2.2 ≠ [] := ha t (by simp)
    have e1 := fun a b => ih (pre ++ [t]) n a b (by simpa using h) (fun t' ht' => ha t' (by simp [ht'])) (by omega)
    simp only [List.length_append, List.length_cons, List.length_nil, Nat.zero_add] at e1
    have hg0 := rG hG (show pre.length < 260 by omega)
    rw [f_R_merge_8]
    simp only [↓bd (rR10 h), ↓iN h1, ↓bd (rRr h.1 37 77 rfl), ↓bd hg0, ↓jn]
    have e2 : gon G pre.length (t :: post) = if G pre.length = 0 then gon G (pre.length + 1) post else t :: gon G (pre.length + 1) post := rfl
    rw [e2]
    by_cases hg : G pre.length = 0
    · simp only [↓ip hg]
      rw [nI_1, e1]
    · simp only [↓iN hg, ↓ip (rR_is h.1), ↓gcI (zR_low hF h ht), ↓gcI (zR_high hF h ht)]
      have e3 : ∀ x, mnL x (t :: gon G (pre.length + 1) post) = mnL (if lo t < x then lo t else x) (gon G (pre.length + 1) post) := fun _ => rfl
      have e4 : ∀ x, mxH x (t :: gon G (pre.length + 1) post) = mxH (if x < hi t then hi t else x) (gon G (pre.length + 1) post) := fun _ => rfl
      rw [e3, e4]
      by_cases hx : a ≤ lo t
      · rw [if_neg (Int32.not_lt.mpr hx)]
        simp only [↓ip hx, ↓bd (rRr h.1 37 77 rfl), ↓bd hg0, ↓iN hg, ↓ip (rR_is h.1), ↓gcI (zR_high hF h ht)]
        by_cases hy : hi t ≤ b
        · rw [if_neg (Int32.not_lt.mpr hy)]
          simp only [↓ip hy]
          rw [nI_1, e1]
        · rw [if_pos (Int32.not_le.mp hy)]
          simp only [↓iN hy]
          rw [nI_1, e1]
      · rw [if_pos (Int32.not_le.mp hx)]
        simp only [↓iN hx, ↓bd (rRr h.1 37 77 rfl), ↓bd hg0, ↓iN hg, ↓ip (rR_is h.1), ↓gcI (zR_high hF h ht)]
        by_cases hy : hi t ≤ b
        · rw [if_neg (Int32.not_lt.mpr hy)]
          simp only [↓ip hy]
          rw [nI_1, e1]
        · rw [if_pos (Int32.not_le.mp hy)]
          simp only [↓iN hy]
          rw [nI_1, e1]
/-- the marks behind the second road -/
def mk1 (lev least most : Int32) (g : Int32) (t : Tab) : Int32 := if t.2.1 = lev ∧ lo t ≤ most ∧ least ≤ hi t then 1 else g
def anyM (J : Nat → Int32) : Nat → List Tab → Bool
  | _, [] => false
  | i, t :: ts => (decide (¬ J i = 0) && decide (¬ msk t.2.2 = 0)) || anyM J (i + 1) ts
theorem zG_st {w : ga_W} {G : Nat → Int32} {i : Nat} {x : Int32} (h : isG w G) (hi : i < 260) (hx : x = 0 ∨ x = 1) : ∃ w', ga_sz w 1 77 (nI i) x = some w' ∧ isG w' (pu_up G i x) ∧ pu_F w w' 77 1 := by
  obtain ⟨w', a1, a2, a3⟩ := zZ_st (x := x) h hi (by omega) hx
  exact ⟨w', a1, a2, a3⟩
theorem zR_m80 {F : Nat} {lev least most : Int32} {K : ga_W → ga_O} {G J : Nat → Int32} (hF : 1000 < F) (post : List Tab) : ∀ (pre : List Tab) (G' : Nat → Int32) (sc : Nat → Int32) (w : ga_W) (n : Nat), isRt w sc (pre ++ post) → (∀ t ∈ post, t.2.2 ≠ []) → isG w G' → (∀ j, pre.length ≤ j → G' j = G j) → (∀ j t, (pre ++ post)[j]? = some t → J j = mk1 lev least most (G j) t) → (∀ j, j < pre.length → G' j = J j) → post.length < n →
    ∃ w1 sc1 G1, f_R_merge_80 F 54 lev least most K n (nI pre.length) w = K w1 ∧ isRt w1 sc1 (pre ++ post) ∧ isG w1 G1 ∧ (∀ j, j < (pre ++ post).length → G1 j = J j) ∧ sc1 26 = (if anyM J pre.length post then 1 else sc 26) ∧ scF sc sc1 [26] ∧ pu_K w w1 [(54, 1), (77, 1)] := by
  induction post with
  | nil =>
    intro pre G' sc w n h ha hG hg1 hJ hg2 hn
    obtain ⟨n, rfl⟩ : ∃ k, n = k + 1 := ⟨n - 1, by simp at hn; omega⟩
    refine ⟨w, sc, G', ?_, h, hG, by simpa using hg2, by simp [anyM], scF.rf, pu_K.rf⟩
    simp only [List.append_nil] at h
    rw [f_R_merge_80]
    simp only [↓bd (rR10 h), ↓ip (Int32.le_refl _)]
  | cons t post ih =>
    intro pre G' sc w n h ha hG hg1 hJ hg2 hn
    obtain ⟨n, rfl⟩ : ∃ k, n = k + 1 := ⟨n - 1, by simp at hn; omega⟩
    have hl := rR_len h
    simp only [List.length_cons] at hn
    have h1 : ¬ nI (pre ++ t :: post).length ≤ nI pre.length := nI_ge (by simp) (by simp; omega)
    have hat : (pre ++ t :: post)[pre.length]? = some t := by simp
    have ht : t.2.2 ≠ [] := ha t (by simp)
    have hlv := (rT_at h hat).2.1
    have hJ0 := hJ _ _ hat
    have e0 : anyM J pre.length (t :: post) = ((decide (¬ J pre.length = 0) && decide (¬ msk t.2.2 = 0)) || anyM J (pre.length + 1) post) := rfl
    -- the second half
    have hsec : ∀ (w' : ga_W) (G2 : Nat → Int32), isRt w' sc (pre ++ t :: post) → isG w' G2 → G2 pre.length = J pre.length → (∀ j, pre.length + 1 ≤ j → G2 j = G j) → (∀ j, j < pre.length → G2 j = J j) → pu_F w w' 77 1 →
        ∃ w1 sc1 G1, ((ga_gr w' 6 37 54).bind fun r16 => ((ga_az w' 1 r16 (nI pre.length)).bind fun v17 => (if v17 = 0 then (f_R_merge_80 F 54 lev least most K n (nI pre.length + (1 : Int32)) w') else ((ga_gr w' 6 9 54).bind fun r19 => ((ga_al w' 2 r19 (nI pre.length)).bind fun v20 => (if (lg_cmp v20 (0 : Int64)) = 0 then (f_R_merge_80 F 54 lev least most K n (nI pre.length + (1 : Int32)) w') else ((ga_put w' 6 26 54 (.int (1 : Int32))).bind fun w22 => (f_R_merge_80 F 54 lev least most K n (nI pre.length + (1 : Int32)) w22)))))))) = K w1 ∧ isRt w1 sc1 (pre ++ t :: post) ∧ isG w1 G1 ∧ (∀ j, j < (pre ++ t :: post).length → G1 j = J j) ∧ sc1 26 = (if anyM J pre.length (t :: post) then 1 else sc 26) ∧ scF sc sc1 [26] ∧ pu_K w w1 [(54, 1), (77, 1)] := by
      intro w' G2 h' hG2 g1 g2 g3 hf
      have hm := (rT_at h' hat).2.2.2
      have hnext : ∀ (w9 : ga_W) (sc9 : Nat → Int32), isRt w9 sc9 (pre ++ t :: post) → isG w9 G2 → ∃ w1 sc1 G1, f_R_merge_80 F 54 lev least most K n (nI pre.length + (1 : Int32)) w9 = K w1 ∧ isRt w1 sc1 (pre ++ t :: post) ∧ isG w1 G1 ∧ (∀ j, j < (pre ++ t :: post).length → G1 j = J j) ∧ sc1 26 = (if anyM J (pre.length + 1) post then 1 else sc9 26) ∧ scF sc9 sc1 [26] ∧ pu_K w9 w1 [(54, 1), (77, 1)] := by
        intro w9 sc9 h9 hG9
        have := ih (pre ++ [t]) G2 sc9 w9 n (by simpa using h9) (fun t' ht' => ha t' (by simp [ht'])) hG9 (fun j hj => g2 j (by simpa using hj)) (fun j t' ht' => hJ j t' (by simpa using ht')) (fun j hj => by
          simp only [List.length_append, List.length_cons, List.length_nil, Nat.zero_add] at hj
          by_cases hx : j = pre.length
          · rw [hx]; exact g1
          · exact g3 j (by omega)) (by omega)
        simp only [List.length_append, List.length_cons, List.length_nil, Nat.zero_add, List.append_assoc, List.cons_append, List.nil_append] at this
        rw [nI_1]
        simpa using this
      have hg0 := rG hG2 (show pre.length < 260 by omega)
      rw [g1] at hg0
      simp only [↓bd (rRr h'.1 37 77 rfl), ↓bd hg0]
      by_cases hz : J pre.length = 0
      · obtain ⟨w1, sc1, G1, c1, c2, c3, c4, c5, c6, c7⟩ := hnext w' sc h' hG2
        simp only [↓ip hz]
        exact ⟨w1, sc1, G1, c1, c2, c3, c4, by rw [c5, e0]; simp [hz], c6, (hf.K (by simp)).tr c7⟩
      · simp only [↓iN hz, ↓bd (rRr h'.1 9 62 rfl), ↓bd hm]
        by_cases hmz : msk t.2.2 = 0
        · obtain ⟨w1, sc1, G1, c1, c2, c3, c4, c5, c6, c7⟩ := hnext w' sc h' hG2
          simp only [↓ip ((lg_cmp_eq _ _).mpr hmz)]
          exact ⟨w1, sc1, G1, c1, c2, c3, c4, by rw [c5, e0]; simp [hmz], c6, (hf.K (by simp)).tr c7⟩
        · obtain ⟨w2, a1, a2, a3⟩ := zR h'.1 26 (1 : Int32) (by omega) rfl
          obtain ⟨w1, sc1, G1, c1, c2, c3, c4, c5, c6, c7⟩ := hnext w2 _ (h'.sc a3 a2 rfl rfl) (hG2.fr a3 (by omega))
          simp only [↓iN (fun h9 => hmz ((lg_cmp_eq _ _).mp h9)), ↓bd a1]
          refine ⟨w1, sc1, G1, c1, c2, c3, c4, ?_, (scF.up (by simp)).tr c6, ((hf.K (by simp)).tr (a3.K (by simp))).tr c7⟩
          rw [c5, e0]
          have : pu_up sc 26 1 26 = 1 := rfl
          simp [hz, hmz, this]
    rw [f_R_merge_80]
    simp only [↓bd (rR10 h), ↓iN h1, ↓bd (rRr h.1 7 60 rfl), ↓bd hlv, ↓jn]
    unfold mk1 at hJ0
    by_cases hx : t.2.1 = lev
    · simp only [↓ip hx, ↓ip (rR_is h.1), ↓gcI (zR_low hF h ht)]
      by_cases hy : most < lo t
      · simp only [↓ip hy]
        rw [if_neg (fun h9 => absurd h9.2.1 (Int32.not_le.mpr hy))] at hJ0
        exact hsec w G' h hG (by rw [hJ0]; exact hg1 _ (Nat.le_refl _)) (fun j hj => hg1 j (by omega)) hg2 pu_F.rf
      · simp only [↓iN hy, ↓ip (rR_is h.1), ↓gcI (zR_high hF h ht)]
        by_cases hz : hi t < least
        · simp only [↓ip hz]
          rw [if_neg (fun h9 => absurd h9.2.2 (Int32.not_le.mpr hz))] at hJ0
          exact hsec w G' h hG (by rw [hJ0]; exact hg1 _ (Nat.le_refl _)) (fun j hj => hg1 j (by omega)) hg2 pu_F.rf
        · obtain ⟨w2, a1, a2, a3⟩ := zG_st (i := pre.length) (x := 1) hG (by omega) (Or.inr rfl)
          simp only [↓iN hz, ↓bd (rRr h.1 37 77 rfl), ↓bd a1]
          rw [if_pos ⟨hx, Int32.not_lt.mp hy, Int32.not_lt.mp hz⟩] at hJ0
          exact hsec w2 _ (h.fr a3 (by omega)) a2 (by simp [pu_up, hJ0]) (fun j hj => by simp only [pu_up]; rw [if_neg (by omega)]; exact hg1 j (by omega)) (fun j hj => by simp only [pu_up]; rw [if_neg (by omega)]; exact hg2 j hj) a3
    · simp only [↓iN hx]
      rw [if_neg (fun h9 => hx h9.1)] at hJ0
      exact hsec w G' h hG (by rw [hJ0]; exact hg1 _ (Nat.le_refl _)) (fun j hj => hg1 j (by omega)) hg2 pu_F.rf
/-- rows entered one after another -/
def insA (ws rs : List Row) : List Row := rs.foldl (fun a r => insW r a) ws
theorem insW_len (r : Row) (ws : List Row) : (insW r ws).length = ws.length + 1 := by
  have := posW_le r (fun i => ws.getD i zr) ws.length
  simp only [insW, List.length_append, List.length_take, List.length_cons, List.length_drop]
  omega
theorem insW_mem {r q : Row} {ws : List Row} (h : q ∈ insW r ws) : q = r ∨ q ∈ ws := by
  simp only [insW, List.mem_append, List.mem_cons] at h
  rcases h with h | h | h
  · exact Or.inr (List.mem_of_mem_take h)
  · exact Or.inl h
  · exact Or.inr (List.mem_of_mem_drop h)
theorem insA_len (rs : List Row) : ∀ ws, (insA ws rs).length = ws.length + rs.length := by
  induction rs with
  | nil => intro ws; simp [insA]
  | cons r rs ih =>
    intro ws
    have := ih (insW r ws)
    simp only [insA, List.foldl_cons, List.length_cons] at this ⊢
    rw [this, insW_len]; omega
theorem insA_mem {q : Row} (rs : List Row) : ∀ ws, q ∈ insA ws rs → q ∈ ws ∨ q ∈ rs := by
  induction rs with
  | nil => intro ws h; exact Or.inl h
  | cons r rs ih =>
    intro ws h
    rcases ih (insW r ws) h with h | h
    · rcases insW_mem h with h | h
      · exact Or.inr (by simp [h])
      · exact Or.inl h
    · exact Or.inr (by simp [h])
theorem zR_m194 {F : Nat} {lev : Int32} {K : ga_W → ga_O} {J : Nat → Int32} {pre post : List Tab} {t : Tab} (hF : 1000 < F) (hJ : ¬ J pre.length = 0) (todo : List Row) : ∀ (done ws : List Row) (sc : Nat → Int32) (w : ga_W) (n : Nat), t.2.2 = done ++ todo → isRt w sc (pre ++ t :: post) → isG w J → isWk w sc ws → ws.length + todo.length ≤ 240 → todo.length < n →
    ∃ w1 sc1, f_R_merge_194 F 54 lev (nI (fl pre).length) (nI pre.length) K n (nI ((fl pre).length + done.length)) w = K w1 ∧ isRt w1 sc1 (pre ++ t :: post) ∧ isG w1 J ∧ isWk w1 sc1 (insA ws todo) ∧ scF sc sc1 [36] ∧ pu_K w w1 [(54, 1), (73, 4)] := by
  induction todo with
  | nil =>
    intro done ws sc w n ht h hG hw hc hn
    obtain ⟨n, rfl⟩ : ∃ k, n = k + 1 := ⟨n - 1, by simp at hn; omega⟩
    refine ⟨w, sc, ?_, h, hG, hw, scF.rf, pu_K.rf⟩
    have hl := rR_len h
    have hsz := (rT_at h (show (pre ++ t :: post)[pre.length]? = some t by simp)).2.2.1
    have hle : nI (fl pre).length + nI t.2.2.length ≤ nI ((fl pre).length + done.length) := by rw [nI_add, ht]; simp
    rw [f_R_merge_194]
    simp only [↓bd (rRr h.1 8 61 rfl), ↓bd hsz, ↓ip hle]
  | cons r todo ih =>
    intro done ws sc w n ht h hG hw hc hn
    obtain ⟨n, rfl⟩ : ∃ k, n = k + 1 := ⟨n - 1, by simp at hn; omega⟩
    have hl := rR_len h
    have htl : t.2.2.length = done.length + (todo.length + 1) := by rw [ht]; simp
    simp only [List.length_cons] at hc hn
    have hsz := (rT_at h (show (pre ++ t :: post)[pre.length]? = some t by simp)).2.2.1
    have hle : ¬ nI (fl pre).length + nI t.2.2.length ≤ nI ((fl pre).length + done.length) := by rw [nI_add]; exact nI_ge (by omega) (by omega)
    have hat : (fl (pre ++ t :: post))[(fl pre).length + done.length]? = some r := by rw [fl3]; exact at3 (by rw [ht]; simp)
    have hr := rRow h hat
    have hgr : r.2.2.2.1 = 0 ∨ r.2.2.2.1 = 1 := by
      obtain ⟨-, -, -, -, -, ⟨R, hA, hag⟩, -⟩ := id h
      have := hA.2.2.2.2 ((fl pre).length + done.length)
      rwa [hag.at hat] at this
    obtain ⟨w1, a1, a2, a3, a4⟩ := zR_enter (F := F) (k := r.1) (nu := r.2.1) (v := r.2.2.1) (g := r.2.2.2.1) (s := r.2.2.2.2) hF h.1 hw (by omega) hgr
    have hf : pu_F w w1 54 1 ∨ True := Or.inr trivial
    have h1 : isRt w1 (pu_up sc 36 (nI (ws.length + 1))) (pre ++ t :: post) := by
      obtain ⟨b1, b2, b3, b4, b5, ⟨R, b6, b7⟩, ⟨T, b8, b9⟩⟩ := id h
      have ko : ∀ a, 55 ≤ a → a < 63 → ∀ x, w.1[a]? = some x → w1.1[a]? = some x := fun a h1 h2 x hx => a4.out (fun q hq => by simp at hq; rcases hq with rfl | rfl <;> simp <;> omega) hx
      exact ⟨a2, b2, b3, b4, b5, ⟨R, ⟨ko _ (by omega) (by omega) _ b6.1, ko _ (by omega) (by omega) _ b6.2.1, ko _ (by omega) (by omega) _ b6.2.2.1, ko _ (by omega) (by omega) _ b6.2.2.2.1, b6.2.2.2.2⟩, b7⟩, ⟨T, ⟨ko _ (by omega) (by omega) _ b8.1, ko _ (by omega) (by omega) _ b8.2.1, ko _ (by omega) (by omega) _ b8.2.2.1, ko _ (by omega) (by omega) _ b8.2.2.2⟩, b9⟩⟩
    have hG1 : isG w1 J := a4.out (fun q hq => by simp at hq; rcases hq with rfl | rfl <;> simp) hG
    obtain ⟨w2, sc2, c1, c2, c3, c4, c5, c6⟩ := ih (done ++ [r]) (insW r ws) _ w1 n (by rw [ht]; simp) h1 hG1 a3 (by rw [insW_len]; omega) (by omega)
    refine ⟨w2, sc2, ?_, c2, c3, c4, (scF.up (by simp)).tr c5, a4.tr c6⟩
    rw [f_R_merge_194]
    simp only [↓bd (rRr h.1 8 61 rfl), ↓bd hsz, ↓iN hle, ↓bd (rRr h.1 37 77 rfl), ↓bd (rG hG (show pre.length < 260 by omega)), ↓iN hJ, ↓bd (rRr h.1 1 55 rfl), ↓bd hr.1, ↓bd (rRr h.1 2 56 rfl), ↓bd hr.2.1, ↓bd (rRr h.1 3 57 rfl), ↓bd hr.2.2.1, ↓bd (rRr h.1 4 58 rfl), ↓bd hr.2.2.2, ↓ip (rR_is h.1), ↓gcV a1]
    simp only [List.length_append, List.length_cons, List.length_nil, Nat.zero_add] at c1
    rw [nI_1, Nat.add_assoc]
    exact c1
theorem zR_m181 {F : Nat} {lev : Int32} {K : ga_W → ga_O} {J : Nat → Int32} (hF : 1000 < F) (post : List Tab) : ∀ (pre : List Tab) (ws : List Row) (sc : Nat → Int32) (w : ga_W) (n : Nat), isRt w sc (pre ++ post) → isG w J → isWk w sc ws → ws.length + (jrow J pre.length post).length ≤ 240 → post.length < n →
    ∃ w1 sc1, f_R_merge_181 F 54 lev K n (nI (fl pre).length) (nI pre.length) w = K w1 ∧ isRt w1 sc1 (pre ++ post) ∧ isG w1 J ∧ isWk w1 sc1 (insA ws (jrow J pre.length post)) ∧ scF sc sc1 [36] ∧ pu_K w w1 [(54, 1), (73, 4)] := by
  induction post with
  | nil =>
    intro pre ws sc w n h hG hw hc hn
    obtain ⟨n, rfl⟩ : ∃ k, n = k + 1 := ⟨n - 1, by simp at hn; omega⟩
    refine ⟨w, sc, ?_, h, hG, hw, scF.rf, pu_K.rf⟩
    simp only [List.append_nil] at h
    rw [f_R_merge_181]
    simp only [↓bd (rR10 h), ↓ip (Int32.le_refl _)]
  | cons t post ih =>
    intro pre ws sc w n h hG hw hc hn
    obtain ⟨n, rfl⟩ : ∃ k, n = k + 1 := ⟨n - 1, by simp at hn; omega⟩
    have hl := rR_len h
    simp only [List.length_cons] at hn
    have h1 : ¬ nI (pre ++ t :: post).length ≤ nI pre.length := nI_ge (by simp) (by simp; omega)
    have hat : (pre ++ t :: post)[pre.length]? = some t := by simp
    have e2 : jrow J pre.length (t :: post) = if J pre.length = 0 then jrow J (pre.length + 1) post else t.2.2 ++ jrow J (pre.length + 1) post := rfl
    rw [e2] at hc ⊢
    have hnext : ∀ (w9 : ga_W) (sc9 : Nat → Int32) (ws9 : List Row), isRt w9 sc9 (pre ++ t :: post) → isG w9 J → isWk w9 sc9 ws9 → ws9.length + (jrow J (pre.length + 1) post).length ≤ 240 → ∃ w1 sc1, ((ga_gr w9 6 8 54).bind fun r4 => ((ga_ai w9 0 r4 (nI pre.length)).bind fun v5 => (f_R_merge_181 F 54 lev K n (nI (fl pre).length + v5) (nI pre.length + (1 : Int32)) w9))) = K w1 ∧ isRt w1 sc1 (pre ++ t :: post) ∧ isG w1 J ∧ isWk w1 sc1 (insA ws9 (jrow J (pre.length + 1) post)) ∧ scF sc9 sc1 [36] ∧ pu_K w9 w1 [(54, 1), (73, 4)] := by
      intro w9 sc9 ws9 h9 hG9 hw9 hc9
      have hsz := (rT_at h9 hat).2.2.1
      have := ih (pre ++ [t]) ws9 sc9 w9 n (by simpa using h9) hG9 hw9 (by simpa using hc9) (by omega)
      simp only [↓bd (rRr h9.1 8 61 rfl), ↓bd hsz]
      rw [nI_add, nI_1]
      simpa [fl_app, fl_cons, fl_nil] using this
    rw [f_R_merge_181]
    simp only [↓bd (rR10 h), ↓iN h1]
    by_cases hz : J pre.length = 0
    · rw [if_pos hz] at hc ⊢
      obtain ⟨w1, sc1, c1, c2⟩ := hnext w sc ws h hG hw hc
      refine ⟨w1, sc1, ?_, c2⟩
      obtain ⟨m, rfl⟩ : ∃ m, F = m + 1 := ⟨F - 1, by omega⟩
      have hsz := (rT_at h hat).2.2.1
      rw [f_R_merge_194]
      simp only [↓bd (rRr h.1 8 61 rfl), ↓bd hsz]
      simp only [↓bd (rRr h.1 8 61 rfl), ↓bd hsz] at c1
      by_cases hle : nI (fl pre).length + nI t.2.2.length ≤ nI (fl pre).length
      · simp only [↓ip hle]
        exact c1
      · simp only [↓iN hle, ↓bd (rRr h.1 37 77 rfl), ↓bd (rG hG (show pre.length < 260 by omega)), ↓ip hz]
        exact c1
    · rw [if_neg hz] at hc ⊢
      simp only [List.length_append] at hc
      obtain ⟨w2, sc2, d1, d2, d3, d4, d5, d6⟩ := zR_m194 (F := F) (lev := lev) (K := fun (w3 : ga_W) => ((ga_gr w3 6 8 54).bind fun r4 => ((ga_ai w3 0 r4 (nI pre.length)).bind fun v5 => (f_R_merge_181 F 54 lev K n (nI (fl pre).length + v5) (nI pre.length + (1 : Int32)) w3)))) hF hz t.2.2 [] ws sc w F (by simp) h hG hw (by omega) (by omega)
      obtain ⟨w1, sc1, c1, c2, c3, c4, c5, c6⟩ := hnext w2 sc2 (insA ws t.2.2) d2 d3 d4 (by rw [insA_len]; omega)
      refine ⟨w1, sc1, ?_, c2, c3, ?_, d5.tr c5, d6.tr c6⟩
      · simp only [List.length_nil, Nat.add_zero] at d1
        rw [d1, c1]
      · rw [insA] at c4 ⊢
        rw [List.foldl_append]
        exact c4
