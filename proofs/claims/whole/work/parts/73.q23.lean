/-! PURE, 23: the reference picks and tidies -/
noncomputable def kP (F : Nat) (y4 : Int32) (w5 : ga_W) : ga_O := ((ga_gr w5 6 37 54).bind fun r7 => ((ga_sz w5 1 r7 y4 (1 : Int32)).bind fun w8 => (if ga_is w8 6 54 = true then ga_c (f_R_high F 54 y4 w8) (ga_kI fun v10 w9 => (some (.inl (some (.int v10)), w9))) ga_up else none)))
theorem nI_nn {a : Nat} (h : a < 1000) : 0 ≤ nI a := by
  have : (0 : Int32) = nI 0 := by decide
  rw [this]; exact nI_le (by omega) (by omega)
theorem zR_pick1 {F : Nat} {w : ga_W} {sc : Nat → Int32} {lev : Int32} {b : Nat} (hb : b < 1000) (post : List Tab) : ∀ (pre : List Tab) (n : Nat) (first : Int32), isRt w sc (pre ++ post) → post.length < n → f_R_pick_7 F 54 lev n (nI b) first (nI pre.length) w = kP F (nI b) w := by
  induction post with
  | nil =>
    intro pre n first h hn
    obtain ⟨n, rfl⟩ : ∃ k, n = k + 1 := ⟨n - 1, by simp at hn; omega⟩
    simp only [List.append_nil] at h
    rw [f_R_pick_7]
    simp only [↓bd (rR10 h), ↓ip (Int32.le_refl _), ↓jn, ↓ip (nI_nn hb)]
    rfl
  | cons t post ih =>
    intro pre n first h hn
    obtain ⟨n, rfl⟩ : ∃ k, n = k + 1 := ⟨n - 1, by simp at hn; omega⟩
    have hl := rR_len h
    simp only [List.length_cons] at hn
    have h1 : ¬ nI (pre ++ t :: post).length ≤ nI pre.length := nI_ge (by simp) (by simp; omega)
    have hlv := (rT_at h (show (pre ++ t :: post)[pre.length]? = some t by simp)).2.1
    have e1 := fun first => ih (pre ++ [t]) n first (by simpa using h) (by omega)
    simp only [List.length_append, List.length_cons, List.length_nil, Nat.zero_add] at e1
    rw [f_R_pick_7]
    simp only [↓bd (rR10 h), ↓iN h1, ↓bd (rRr h.1 7 60 rfl), ↓bd hlv, ↓jn]
    by_cases hx : t.2.1 = lev
    · simp only [↓ip hx]
      by_cases hf : 0 ≤ first
      · simp only [↓ip hf, ↓ip (nI_nn hb)]
        rw [nI_1, e1]
      · simp only [↓iN hf, ↓ip (nI_nn hb)]
        rw [nI_1, e1]
    · simp only [↓iN hx]
      rw [nI_1, e1]
theorem zR_pick2 {F : Nat} {w : ga_W} {sc : Nat → Int32} {lv : Nat} {pt : Nat → Int32} (hF : 1000 < F) (hp : isN w 72 pt) (hlv4 : lv < 4) (post : List Tab) : ∀ (pre : List Tab) (n : Nat) (first : Int32), isRt w sc (pre ++ post) → (∀ t ∈ post, t.2.2 ≠ []) → (first = -1 ∨ ∃ j, j < 1000 ∧ first = nI j) → post.length < n → f_R_pick_7 F 54 (nI lv) n (-1) first (nI pre.length) w = kP F (fAb (nI lv) (pt lv) post pre.length first) w := by
  have hm : ¬ (0 : Int32) ≤ -1 := by decide
  induction post with
  | nil =>
    intro pre n first h ha hf hn
    obtain ⟨n, rfl⟩ : ∃ k, n = k + 1 := ⟨n - 1, by simp at hn; omega⟩
    simp only [List.append_nil] at h
    rw [f_R_pick_7]
    simp only [↓bd (rR10 h), ↓ip (Int32.le_refl _), ↓jn, ↓iN hm]
    rfl
  | cons t post ih =>
    intro pre n first h ha hf hn
    obtain ⟨n, rfl⟩ : ∃ k, n = k + 1 := ⟨n - 1, by simp at hn; omega⟩
    have hl := rR_len h
    simp only [List.length_cons] at hn
    have ht : t.2.2 ≠ [] := ha t (by simp)
    have h1 : ¬ nI (pre ++ t :: post).length ≤ nI pre.length := nI_ge (by simp) (by simp; omega)
    have hlv := (rT_at h (show (pre ++ t :: post)[pre.length]? = some t by simp)).2.1
    have e1 := fun first hf => ih (pre ++ [t]) n first (by simpa using h) (fun t' ht' => ha t' (by simp [ht'])) hf (by omega)
    simp only [List.length_append, List.length_cons, List.length_nil, Nat.zero_add] at e1
    have e2 : fAb (nI lv) (pt lv) (t :: post) pre.length first = if t.2.1 = nI lv then (if lo t ≤ pt lv then fAb (nI lv) (pt lv) post (pre.length + 1) (if first = -1 then nI pre.length else first) else nI pre.length) else fAb (nI lv) (pt lv) post (pre.length + 1) first := rfl
    rw [f_R_pick_7, e2]
    simp only [↓bd (rR10 h), ↓iN h1, ↓bd (rRr h.1 7 60 rfl), ↓bd hlv, ↓jn]
    by_cases hx : t.2.1 = nI lv
    · simp only [↓ip hx]
      have e3 := zR_pick1 (F := F) (w := w) (sc := sc) (lev := nI lv) (b := pre.length) (by omega) post (pre ++ [t]) n
      simp only [List.length_append, List.length_cons, List.length_nil, Nat.zero_add] at e3
      have e4 := fun first => e3 first (by simpa using h) (by omega)
      by_cases hfn : 0 ≤ first
      · have hne : ¬ first = -1 := fun h9 => by rw [h9] at hfn; exact hm hfn
        simp only [↓ip hfn, ↓iN hm, ↓ip (rR_is h.1), ↓gcI (zR_low hF h ht), ↓bd (rRr h.1 24 72 rfl), ↓bd (rN hp hlv4)]
        rw [if_neg hne]
        by_cases hy : lo t ≤ pt lv
        · simp only [↓ip hy]
          rw [nI_1, e1 _ hf]
        · simp only [↓iN hy]
          rw [nI_1, e4]
      · have hme : first = -1 := by
          rcases hf with h9 | ⟨j, h8, h9⟩
          · exact h9
          · rw [h9] at hfn; exact absurd (nI_nn h8) hfn
        simp only [↓iN hfn, ↓iN hm, ↓ip (rR_is h.1), ↓gcI (zR_low hF h ht), ↓bd (rRr h.1 24 72 rfl), ↓bd (rN hp hlv4)]
        rw [if_pos hme]
        by_cases hy : lo t ≤ pt lv
        · simp only [↓ip hy]
          rw [nI_1, e1 _ (Or.inr ⟨pre.length, by omega, rfl⟩)]
        · simp only [↓iN hy]
          rw [nI_1, e4]
    · simp only [↓iN hx]
      rw [nI_1, e1 _ hf]
theorem zR_pick {F : Nat} {w : ga_W} {sc : Nat → Int32} {lv : Nat} {pt G : Nat → Int32} {tabs : List Tab} {t : Tab} (hF : 1000 < F) (hp : isN w 72 pt) (hlv4 : lv < 4) (h : isRt w sc tabs) (ha : ∀ t ∈ tabs, t.2.2 ≠ []) (hG : isG w G) (hc : 0 < cl (nI lv) tabs) (ht : tabs[pkI lv (pt lv) tabs]? = some t) :
    ∃ w', f_R_pick F 54 (nI lv) w = some (.inl (some (.int (hi t))), w') ∧ isG w' (pu_up G (pkI lv (pt lv) tabs) 1) ∧ pu_F w w' 77 1 := by
  have hl := h.2.2.2.2.1
  obtain ⟨k1, k2⟩ := pkI_ok (key := pt lv) hc hl
  have e1 := zR_pick2 (F := F) hF hp hlv4 tabs [] F (-1) (by simpa using h) ha (Or.inl rfl) (by omega)
  simp only [List.length_nil, nI_0] at e1
  obtain ⟨w', a1, a2, a3⟩ := zG_st (i := pkI lv (pt lv) tabs) (x := 1) hG (by omega) (Or.inr rfl)
  have h' := h.fr a3 (by omega)
  obtain ⟨hsp, hsl⟩ := split1 ht
  refine ⟨w', ?_, a2, a3⟩
  have hh : f_R_high F 54 (nI (pkI lv (pt lv) tabs)) w' = some (.inl (some (.int (hi t))), w') := by
    have h9 := h'
    rw [hsp] at h9
    have := zR_high (F := F) hF h9 (ha t (List.mem_of_getElem? ht))
    rwa [hsl] at this
  unfold f_R_pick
  rw [e1, k1]
  unfold kP
  simp only [↓bd (rRr h.1 37 77 rfl), ↓bd a1, ↓ip (rR_is h'.1), ↓gcI hh]
theorem zR_t15 {F : Nat} {sc : Nat → Int32} {x1 : Int32} : ∀ (m i : Nat) (G : Nat → Int32) (w : ga_W) (n : Nat), i + m = 260 → isRh w sc → isG w G → (∀ j, j < i → G j = 0) → m < n →
    ∃ w1 G1, (∀ K, f_R_tidy_15 F 54 x1 K n (nI i) w = K w1) ∧ isG w1 G1 ∧ (∀ j, j < 260 → G1 j = 0) ∧ pu_F w w1 77 1 := by
  have c260 : (260 : Int32) = nI 260 := by decide
  intro m
  induction m with
  | zero =>
    intro i G w n hm h hG h1 hn
    obtain ⟨n, rfl⟩ : ∃ k, n = k + 1 := ⟨n - 1, by omega⟩
    have : i = 260 := by omega
    subst this
    refine ⟨w, G, fun K => ?_, hG, h1, pu_F.rf⟩
    rw [f_R_tidy_15]
    simp only [↓ip (show (260 : Int32) ≤ nI 260 by decide)]
  | succ m ih =>
    intro i G w n hm h hG h1 hn
    obtain ⟨n, rfl⟩ : ∃ k, n = k + 1 := ⟨n - 1, by omega⟩
    have hle : ¬ (260 : Int32) ≤ nI i := by rw [c260]; exact nI_ge (by omega) (by omega)
    obtain ⟨w2, a1, a2, a3⟩ := zG_st (i := i) (x := 0) hG (by omega) (Or.inl rfl)
    obtain ⟨w1, G1, b1, b2, b3, b4⟩ := ih (i + 1) _ w2 n (by omega) (h.fr a3 (by omega)) a2 (fun j hj => by
      simp only [pu_up]
      split
      · rfl
      · exact h1 j (by omega)) (by omega)
    refine ⟨w1, G1, fun K => ?_, b2, b3, a3.tr b4⟩
    rw [f_R_tidy_15]
    simp only [↓iN hle, ↓bd (rRr h 37 77 rfl), ↓bd a1]
    rw [nI_1, b1]
theorem zR_t46 {F : Nat} {sc : Nat → Int32} {x1 : Int32} (post : List Tab) : ∀ (pre : List Tab) (G : Nat → Int32) (w : ga_W) (n : Nat), isRt w sc (pre ++ post) → isG w G → (∀ j t, j < pre.length → (pre ++ post)[j]? = some t → G j = (if t.2.1 = 0 then 1 else 0)) → post.length < n →
    ∃ w1 G1, (∀ K, f_R_tidy_46 F 54 x1 K n (nI pre.length) w = K w1) ∧ isG w1 G1 ∧ (∀ j t, (pre ++ post)[j]? = some t → G1 j = (if t.2.1 = 0 then 1 else 0)) ∧ pu_F w w1 77 1 := by
  induction post with
  | nil =>
    intro pre G w n h hG h1 hn
    obtain ⟨n, rfl⟩ : ∃ k, n = k + 1 := ⟨n - 1, by simp at hn; omega⟩
    refine ⟨w, G, fun K => ?_, hG, fun j t hj => h1 j t (by simpa using (List.getElem?_eq_some_iff.mp hj).1) hj, pu_F.rf⟩
    simp only [List.append_nil] at h
    rw [f_R_tidy_46]
    simp only [↓bd (rR10 h), ↓ip (Int32.le_refl _)]
  | cons t post ih =>
    intro pre G w n h hG h1 hn
    obtain ⟨n, rfl⟩ : ∃ k, n = k + 1 := ⟨n - 1, by simp at hn; omega⟩
    have hl := rR_len h
    simp only [List.length_cons] at hn
    have hle : ¬ nI (pre ++ t :: post).length ≤ nI pre.length := nI_ge (by simp) (by simp; omega)
    have hlv := (rT_at h (show (pre ++ t :: post)[pre.length]? = some t by simp)).2.1
    have hx01 : ∀ x : Int32, (x = if t.2.1 = 0 then 1 else 0) → x = 0 ∨ x = 1 := fun x hx => by rw [hx]; split <;> simp
    obtain ⟨w2, a1, a2, a3⟩ := zG_st (i := pre.length) (x := if t.2.1 = 0 then 1 else 0) hG (by omega) (hx01 _ rfl)
    obtain ⟨w1, G1, b1, b2, b3, b4⟩ := ih (pre ++ [t]) _ w2 n (by simpa using h.fr a3 (by omega)) a2 (fun j t' hj ht' => by
      simp only [List.length_append, List.length_cons, List.length_nil, Nat.zero_add] at hj
      simp only [List.append_assoc, List.cons_append, List.nil_append] at ht'
      simp only [pu_up]
      by_cases hjp : j = pre.length
      · subst hjp
        rw [if_pos rfl]
        simp at ht'
        rw [ht']
      · rw [if_neg hjp]
        exact h1 j t' (by omega) ht') (by omega)
    refine ⟨w1, G1, fun K => ?_, b2, by simpa using b3, a3.tr b4⟩
    simp only [List.length_append, List.length_cons, List.length_nil, Nat.zero_add] at b1
    rw [f_R_tidy_46]
    simp only [↓bd (rR10 h), ↓iN hle, ↓bd (rRr h.1 37 77 rfl), ↓bd (rRr h.1 7 60 rfl), ↓bd hlv]
    by_cases hx : t.2.1 = 0
    · rw [if_pos hx] at a1
      simp only [↓ip hx, ↓bd a1]
      rw [nI_1, b1]
    · rw [if_neg hx] at a1
      simp only [↓iN hx, ↓bd a1]
      rw [nI_1, b1]
