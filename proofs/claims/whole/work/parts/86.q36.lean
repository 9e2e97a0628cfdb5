/-! PURE, 36: lists: what a merge makes -/
def okTb (t : Tab) : Prop := t.2.2 ≠ [] ∧ (∀ r ∈ t.2.2, okK r ∧ 0 ≤ r.2.1) ∧ t.2.2.Pairwise (fun r q => r.1 ≤ q.1) ∧ blkT t ∧ (∃ l, l < 4 ∧ t.2.1 = nI l) ∧ t.2.2.length ≤ 240
def ordT (t u : Tab) : Prop := t.2.1 < u.2.1 ∨ (t.2.1 = u.2.1 ∧ (t.2.1 = 0 ∨ hi t < lo u))
def InvT (tabs : List Tab) : Prop := (∀ t ∈ tabs, okTb t) ∧ tabs.Pairwise ordT ∧ (fl tabs).Pairwise fal1 ∧ (fl tabs).length ≤ 240
theorem key_in {t : Tab} (h : okTb t) {r : Row} (hr : r ∈ t.2.2) : lo t ≤ r.1 ∧ r.1 ≤ hi t := by
  obtain ⟨h1, -, h3, -⟩ := h
  obtain ⟨a, a1, a2⟩ := lo_at h1
  obtain ⟨b, b1, b2⟩ := hi_at h1
  obtain ⟨i, hi', rfl⟩ := List.mem_iff_getElem.mp hr
  have hp := List.pairwise_iff_getElem.mp h3
  have a3 : t.2.2[0]'(by omega) = a := by
    have := List.getElem?_eq_getElem (l := t.2.2) (i := 0) (by omega)
    rw [a1] at this; exact (Option.some.inj this).symm
  have b3 : t.2.2[t.2.2.length - 1]'(by omega) = b := by
    have := List.getElem?_eq_getElem (l := t.2.2) (i := t.2.2.length - 1) (by omega)
    rw [b1] at this; exact (Option.some.inj this).symm
  constructor
  · rw [← a2, ← a3]
    by_cases h0 : i = 0
    · subst h0; exact Int32.le_refl _
    · exact hp 0 i (by omega) (by omega) (by omega)
  · rw [← b2, ← b3]
    by_cases h0 : i = t.2.2.length - 1
    · subst h0; exact Int32.le_refl _
    · exact hp i (t.2.2.length - 1) (by omega) (by omega) (by omega)
theorem lo_hi {t : Tab} (h : okTb t) : lo t ≤ hi t := by
  obtain ⟨r, hr⟩ := List.exists_mem_of_ne_nil _ h.1
  have := key_in h hr
  simp only [i_le] at *
  omega
theorem mnL_le (ts : List Tab) : ∀ x, mnL x ts ≤ x ∧ ∀ t ∈ ts, mnL x ts ≤ lo t := by
  induction ts with
  | nil => intro x; exact ⟨Int32.le_refl _, fun t ht => by simp at ht⟩
  | cons t ts ih =>
    intro x
    have e1 : mnL x (t :: ts) = mnL (if lo t < x then lo t else x) ts := rfl
    have h1 := ih (if lo t < x then lo t else x)
    rw [e1]
    have h2 : (if lo t < x then lo t else x) ≤ x ∧ (if lo t < x then lo t else x) ≤ lo t := by
      by_cases h9 : lo t < x
      · rw [if_pos h9]; rw [i_lt] at h9; simp only [i_le]; omega
      · rw [if_neg h9]; rw [i_lt] at h9; simp only [i_le]; omega
    refine ⟨Int32.le_trans h1.1 h2.1, fun u hu => ?_⟩
    rcases List.mem_cons.mp hu with rfl | hu
    · exact Int32.le_trans h1.1 h2.2
    · exact h1.2 u hu
theorem mxH_ge (ts : List Tab) : ∀ x, x ≤ mxH x ts ∧ ∀ t ∈ ts, hi t ≤ mxH x ts := by
  induction ts with
  | nil => intro x; exact ⟨Int32.le_refl _, fun t ht => by simp at ht⟩
  | cons t ts ih =>
    intro x
    have e1 : mxH x (t :: ts) = mxH (if x < hi t then hi t else x) ts := rfl
    have h1 := ih (if x < hi t then hi t else x)
    rw [e1]
    have h2 : x ≤ (if x < hi t then hi t else x) ∧ hi t ≤ (if x < hi t then hi t else x) := by
      by_cases h9 : x < hi t
      · rw [if_pos h9]; rw [i_lt] at h9; simp only [i_le]; omega
      · rw [if_neg h9]; rw [i_lt] at h9; simp only [i_le]; omega
    refine ⟨Int32.le_trans h2.1 h1.1, fun u hu => ?_⟩
    rcases List.mem_cons.mp hu with rfl | hu
    · exact Int32.le_trans h2.2 h1.1
    · exact h1.2 u hu
/-- the parts of the list of tables at a merge -/
def mst (lv : Nat) (tabs P1 Ms P2 X Y Z R : List Tab) : Prop :=
  tabs = P1 ++ (Ms ++ (P2 ++ (X ++ (Y ++ (Z ++ R))))) ∧ Ms ≠ [] ∧ (∀ t ∈ P1, t.2.1 < nI (lv + 1)) ∧ (∀ t ∈ Ms, t.2.1 < nI (lv + 1)) ∧ (∀ t ∈ P2, t.2.1 < nI (lv + 1)) ∧
  (∀ t ∈ X, t.2.1 = nI (lv + 1) ∧ hi t < mnL 64 Ms) ∧ (∀ t ∈ Y, t.2.1 = nI (lv + 1) ∧ lo t ≤ mxH (-1) Ms ∧ mnL 64 Ms ≤ hi t) ∧ (∀ t ∈ Z, t.2.1 = nI (lv + 1) ∧ mxH (-1) Ms < lo t) ∧ (∀ t ∈ R, nI (lv + 1) < t.2.1)
theorem stay0 {J : Nat → Int32} (ts : List Tab) : ∀ i, (∀ j t, ts[j]? = some t → J (i + j) = 0) → stay J i ts = ts ∧ jrow J i ts = [] := by
  induction ts with
  | nil => intro i _; exact ⟨rfl, rfl⟩
  | cons t ts ih =>
    intro i h
    have h0 := h 0 t rfl
    rw [Nat.add_zero] at h0
    have h1 := ih (i + 1) (fun j u hu => by have := h (j + 1) u (by simpa using hu); rwa [show i + (j + 1) = i + 1 + j by omega] at this)
    simp only [stay, jrow, if_pos h0, h1.1, h1.2, and_self]
theorem stay1 {J : Nat → Int32} (ts : List Tab) : ∀ i, (∀ j t, ts[j]? = some t → ¬ J (i + j) = 0) → stay J i ts = [] ∧ jrow J i ts = fl ts := by
  induction ts with
  | nil => intro i _; exact ⟨rfl, rfl⟩
  | cons t ts ih =>
    intro i h
    have h0 := h 0 t rfl
    rw [Nat.add_zero] at h0
    have h1 := ih (i + 1) (fun j u hu => by have := h (j + 1) u (by simpa using hu); rwa [show i + (j + 1) = i + 1 + j by omega] at this)
    simp only [stay, jrow, if_neg h0, h1.1, h1.2, fl_cons, and_self]
theorem jrow_app (J : Nat → Int32) (a b : List Tab) : ∀ i, jrow J i (a ++ b) = jrow J i a ++ jrow J (i + a.length) b := by
  induction a with
  | nil => intro i; rfl
  | cons t a ih =>
    intro i
    simp only [List.cons_append, jrow, ih (i + 1), List.length_cons]
    rw [show i + (a.length + 1) = i + 1 + a.length by omega]
    split
    · rfl
    · rw [List.append_assoc]
theorem pB_app {lev key : Int32} (a b : List Tab) : ∀ i, (∀ t ∈ a, t.2.1 < lev ∨ (t.2.1 = lev ∧ lo t ≤ key)) → pB lev key (a ++ b) i = pB lev key b (i + a.length) := by
  induction a with
  | nil => intro i _; rfl
  | cons t a ih =>
    intro i h
    have h0 := h t (by simp)
    have h1 := ih (i + 1) (fun u hu => h u (by simp [hu]))
    simp only [List.cons_append, pB, List.length_cons]
    rw [show i + (a.length + 1) = i + 1 + a.length by omega, ← h1]
    by_cases c1 : t.2.1 < lev
    · rw [if_pos c1]
    · have c2 := h0.resolve_left c1
      have c3 : ¬ key < lo t := Int32.not_lt.mpr c2.2
      rw [if_neg c1, if_pos c2.1, if_neg c3]
theorem pB_stop {lev key : Int32} (b : List Tab) : ∀ i, (∀ t ∈ b, ¬ (t.2.1 < lev ∨ (t.2.1 = lev ∧ lo t ≤ key))) → pB lev key b i = i := by
  intro i h
  cases b with
  | nil => rfl
  | cons t b =>
    have h0 := h t (by simp)
    have c1 : ¬ t.2.1 < lev := fun h9 => h0 (Or.inl h9)
    simp only [pB]
    by_cases c2 : t.2.1 = lev
    · have c3 : key < lo t := Int32.not_le.mp (fun h9 => h0 (Or.inr ⟨c2, h9⟩))
      rw [if_neg c1, if_pos c2, if_pos c3]
    · rw [if_neg c1, if_neg c2]
theorem pR_app {lev : Int32} {ks : List Row} (a b : List Tab) : ∀ i, (∀ t ∈ a, t.2.1 < lev ∨ (t.2.1 = lev ∧ ks ≠ [] ∧ lo t < (ks.headD zr).1)) → pR lev ks (a ++ b) i = pR lev ks b (i + a.length) := by
  induction a with
  | nil => intro i _; rfl
  | cons t a ih =>
    intro i h
    have h0 := h t (by simp)
    have h1 := ih (i + 1) (fun u hu => h u (by simp [hu]))
    simp only [List.cons_append, pR, List.length_cons]
    rw [show i + (a.length + 1) = i + 1 + a.length by omega, ← h1, if_pos h0]
theorem pR_stop {lev : Int32} {ks : List Row} (b : List Tab) : ∀ i, (∀ t ∈ b, ¬ (t.2.1 < lev ∨ (t.2.1 = lev ∧ ks ≠ [] ∧ lo t < (ks.headD zr).1))) → pR lev ks b i = i := by
  intro i h
  cases b with
  | nil => rfl
  | cons t b =>
    simp only [pR]
    rw [if_neg (h t (by simp))]
theorem Jc_at {lev L M : Int32} {a b : Nat} {tabs : List Tab} {i : Nat} {t : Tab} (h : tabs[i]? = some t) : Jc lev L M a b tabs i = bI (jm lev L M a b i t) := by
  unfold Jc
  rw [h]
theorem bI0 {b : Bool} : bI b = 0 ↔ b = false := by cases b <;> decide
theorem mid_at {α : Type} {a b c : List α} {j : Nat} {x : α} (h : b[j]? = some x) : (a ++ (b ++ c))[a.length + j]? = some x := by
  have hl := (List.getElem?_eq_some_iff.mp h).1
  rw [List.getElem?_append_right (by omega), Nat.add_sub_cancel_left, List.getElem?_append_left hl, h]
/-- the marks, part by part -/
theorem mst_J {lv : Nat} {tabs P1 Ms P2 X Y Z R : List Tab} (hm : mst lv tabs P1 Ms P2 X Y Z R) (hok : ∀ t ∈ tabs, okTb t) :
    stay (Jc (nI (lv + 1)) (mnL 64 Ms) (mxH (-1) Ms) P1.length (P1.length + Ms.length) tabs) 0 tabs = (P1 ++ (P2 ++ X)) ++ (Z ++ R) ∧
    jrow (Jc (nI (lv + 1)) (mnL 64 Ms) (mxH (-1) Ms) P1.length (P1.length + Ms.length) tabs) 0 tabs = fl Ms ++ fl Y ∧
    pB (nI (lv + 1)) (mxH (-1) Ms) tabs 0 = (P1 ++ (Ms ++ (P2 ++ (X ++ Y)))).length ∧
    stay (Jc (nI (lv + 1)) (mnL 64 Ms) (mxH (-1) Ms) P1.length (P1.length + Ms.length) tabs) 0 (P1 ++ (Ms ++ (P2 ++ (X ++ Y)))) = P1 ++ (P2 ++ X) ∧
    stay (Jc (nI (lv + 1)) (mnL 64 Ms) (mxH (-1) Ms) P1.length (P1.length + Ms.length) tabs) (P1 ++ (Ms ++ (P2 ++ (X ++ Y)))).length (Z ++ R) = Z ++ R := by
  obtain ⟨ht, hne, hP1, hMs, hP2, hX, hY, hZ, hR⟩ := hm
  have hlv : ∀ {t : Tab}, t.2.1 < nI (lv + 1) → ¬ t.2.1 = nI (lv + 1) := fun h9 h8 => by rw [h8] at h9; exact Int32.lt_irrefl h9
  have hgv : ∀ {t : Tab}, nI (lv + 1) < t.2.1 → ¬ t.2.1 = nI (lv + 1) := fun h9 h8 => by rw [h8] at h9; exact Int32.lt_irrefl h9
  generalize hJ : Jc (nI (lv + 1)) (mnL 64 Ms) (mxH (-1) Ms) P1.length (P1.length + Ms.length) tabs = J
  generalize hL : mnL 64 Ms = L at *
  generalize hM : mxH (-1) Ms = M at *
  generalize hlev : nI (lv + 1) = lev at *
  have hLM : L ≤ M := by
    obtain ⟨t, hmt⟩ := List.exists_mem_of_ne_nil _ hne
    have h1 := (mnL_le Ms 64).2 t hmt
    have h2 := (mxH_ge Ms (-1)).2 t hmt
    have h3 := lo_hi (hok t (by rw [ht]; simp [hmt]))
    rw [hL] at h1; rw [hM] at h2
    rw [i_le] at *
    omega
  have v1 : ∀ j t, P1[j]? = some t → J (0 + j) = 0 := fun j t hj => by
    have hl := (List.getElem?_eq_some_iff.mp hj).1
    rw [← hJ, Jc_at (t := t) (by rw [ht, Nat.zero_add, List.getElem?_append_left hl]; exact hj), bI0]
    have := hlv (hP1 t (List.mem_of_getElem? hj))
    simp only [jm, this, decide_false, Bool.false_and, Bool.false_or, Nat.zero_add]
    simp
    omega
  have v2 : ∀ j t, Ms[j]? = some t → ¬ J (P1.length + j) = 0 := fun j t hj => by
    have hl := (List.getElem?_eq_some_iff.mp hj).1
    rw [← hJ, Jc_at (t := t) (by rw [ht]; exact mid_at hj), bI0]
    simp [jm, hl]
  have v3 : ∀ j t, P2[j]? = some t → J (P1.length + Ms.length + j) = 0 := fun j t hj => by
    have hl := (List.getElem?_eq_some_iff.mp hj).1
    rw [← hJ, Jc_at (t := t) (by
      rw [ht, ← List.append_assoc, show P1.length + Ms.length = (P1 ++ Ms).length by simp]
      exact mid_at hj), bI0]
    have := hlv (hP2 t (List.mem_of_getElem? hj))
    simp only [jm, this, decide_false, Bool.false_and, Bool.false_or]
    simp
  have v4 : ∀ j t, X[j]? = some t → J (P1.length + Ms.length + P2.length + j) = 0 := fun j t hj => by
    have hl := (List.getElem?_eq_some_iff.mp hj).1
    rw [← hJ, Jc_at (t := t) (by
      rw [ht, ← List.append_assoc, ← List.append_assoc, show P1.length + Ms.length + P2.length = (P1 ++ Ms ++ P2).length by simp [Nat.add_assoc]]
      exact mid_at hj), bI0]
    have h9 := (hX t (List.mem_of_getElem? hj)).2
    have : ¬ (lo t ≤ M ∧ L ≤ hi t) := fun h8 => by
      have := h8.2
      rw [i_le] at this; rw [i_lt] at h9; omega
    simp only [jm, this, decide_false, Bool.and_false, Bool.false_or]
    simp
    omega
  have v5 : ∀ j t, Y[j]? = some t → ¬ J (P1.length + Ms.length + P2.length + X.length + j) = 0 := fun j t hj => by
    have hl := (List.getElem?_eq_some_iff.mp hj).1
    rw [← hJ, Jc_at (t := t) (by
      rw [ht, ← List.append_assoc, ← List.append_assoc, ← List.append_assoc, show P1.length + Ms.length + P2.length + X.length = (P1 ++ Ms ++ P2 ++ X).length by simp [Nat.add_assoc]]
      exact mid_at hj), bI0]
    have h9 := hY t (List.mem_of_getElem? hj)
    simp [jm, h9.1, h9.2.1, h9.2.2]
  have v6 : ∀ j t, (Z ++ R)[j]? = some t → J (P1.length + Ms.length + P2.length + X.length + Y.length + j) = 0 := fun j t hj => by
    have hl := (List.getElem?_eq_some_iff.mp hj).1
    rw [← hJ, Jc_at (t := t) (by
      rw [ht, ← List.append_assoc, ← List.append_assoc, ← List.append_assoc, ← List.append_assoc, show P1.length + Ms.length + P2.length + X.length + Y.length = (P1 ++ Ms ++ P2 ++ X ++ Y).length by simp [Nat.add_assoc]]
      rw [List.getElem?_append_right (by omega), Nat.add_sub_cancel_left]
      exact hj), bI0]
    have h9 : ¬ (t.2.1 = lev ∧ (lo t ≤ M ∧ L ≤ hi t)) := by
      rcases List.mem_append.mp (List.mem_of_getElem? hj) with h9 | h9
      · intro h8
        have h7 := (hZ t h9).2
        have := h8.2.1
        rw [i_le] at this; rw [i_lt] at h7; omega
      · exact fun h8 => hgv (hR t h9) h8.1
    simp only [jm, ← Bool.decide_and, h9, decide_false, Bool.false_or]
    simp
    omega
  have hcond : ∀ t ∈ P1 ++ (Ms ++ (P2 ++ (X ++ Y))), t.2.1 < lev ∨ (t.2.1 = lev ∧ lo t ≤ M) := fun t h9 => by
    simp only [List.mem_append] at h9
    rcases h9 with h9 | h9 | h9 | h9 | h9
    · exact Or.inl (hP1 t h9)
    · exact Or.inl (hMs t h9)
    · exact Or.inl (hP2 t h9)
    · have h1 := hX t h9
      have h2 := lo_hi (hok t (by rw [ht]; simp [h9]))
      refine Or.inr ⟨h1.1, ?_⟩
      have h3 := h1.2
      rw [i_lt] at h3; rw [i_le] at *; omega
    · have h1 := hY t h9
      exact Or.inr ⟨h1.1, h1.2.1⟩
  have hstop : ∀ t ∈ Z ++ R, ¬ (t.2.1 < lev ∨ (t.2.1 = lev ∧ lo t ≤ M)) := fun t h9 => by
    rcases List.mem_append.mp h9 with h9 | h9
    · have h1 := hZ t h9
      rintro (h8 | h8)
      · rw [h1.1] at h8; exact Int32.lt_irrefl h8
      · have h7 := h1.2
        have h6 := h8.2
        rw [i_lt] at h7; rw [i_le] at h6; omega
    · have h1 := hR t h9
      rintro (h8 | h8)
      · rw [i_lt] at *; omega
      · exact hgv h1 h8.1
  have hstA : stay J 0 (P1 ++ (Ms ++ (P2 ++ (X ++ Y)))) = P1 ++ (P2 ++ X) := by
    rw [stay_app, stay_app, stay_app, stay_app, (stay0 P1 0 v1).1, Nat.zero_add, (stay1 Ms _ v2).1, (stay0 P2 _ v3).1, (stay0 X _ v4).1, (stay1 Y _ v5).1]
    simp
  have hlen : (P1 ++ (Ms ++ (P2 ++ (X ++ Y)))).length = P1.length + Ms.length + P2.length + X.length + Y.length := by simp [Nat.add_assoc]
  have hstB : stay J (P1 ++ (Ms ++ (P2 ++ (X ++ Y)))).length (Z ++ R) = Z ++ R := by
    rw [hlen]
    exact (stay0 (Z ++ R) _ v6).1
  have hsp : tabs = (P1 ++ (Ms ++ (P2 ++ (X ++ Y)))) ++ (Z ++ R) := by rw [ht]; simp [List.append_assoc]
  refine ⟨?_, ?_, ?_, hstA, hstB⟩
  · rw [hsp, stay_app, hstA, Nat.zero_add, hstB]
  · rw [hsp, jrow_app, jrow_app, jrow_app, jrow_app, jrow_app, (stay0 P1 0 v1).2, Nat.zero_add, (stay1 Ms _ v2).2, (stay0 P2 _ v3).2, (stay0 X _ v4).2, (stay1 Y _ v5).2, Nat.zero_add, hlen, (stay0 (Z ++ R) _ v6).2]
    simp
  · conv => lhs; rw [hsp]
    rw [pB_app _ _ 0 hcond, pB_stop _ _ hstop, Nat.zero_add]
