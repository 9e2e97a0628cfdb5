/-! PURE, 10: tidying -/
/-- tables, stuck, made, dropped, two pointers -/
abbrev LV : Type := List Tab × Int32 × Int32 × Int32 × Int32 × Int32
def isVs (w : ga_W) (s : LV) : Prop := isV w s.1 s.2.1 s.2.2.1 s.2.2.2.1 s.2.2.2.2.1 s.2.2.2.2.2
def Jc (lev least greatest : Int32) (a b : Nat) (tabs : List Tab) : Nat → Int32 := fun i => match tabs[i]? with
  | some t => bI (jm lev least greatest a b i t)
  | none => 0
theorem stay_congr {J K : Nat → Int32} (ts : List Tab) : ∀ i, (∀ j, j < ts.length → J (i + j) = K (i + j)) → stay J i ts = stay K i ts := by
  induction ts with
  | nil => intro i _; rfl
  | cons t ts ih =>
    intro i h
    have h0 := h 0 (by simp)
    have h1 := ih (i + 1) (fun j hj => by have := h (j + 1) (by simp; omega); rw [show i + 1 + j = i + (j + 1) by omega]; exact this)
    rw [Nat.add_zero] at h0
    simp only [stay, h0, h1]
theorem jrow_congr {J K : Nat → Int32} (ts : List Tab) : ∀ i, (∀ j, j < ts.length → J (i + j) = K (i + j)) → jrow J i ts = jrow K i ts := by
  induction ts with
  | nil => intro i _; rfl
  | cons t ts ih =>
    intro i h
    have h0 := h 0 (by simp)
    have h1 := ih (i + 1) (fun j hj => by have := h (j + 1) (by simp; omega); rw [show i + 1 + j = i + (j + 1) by omega]; exact this)
    rw [Nat.add_zero] at h0
    simp only [jrow, h0, h1]
/-- a merge of the tables a .. a + m - 1 from level lv -/
def mrgC (lv a m : Nat) (old : Int32) (s : LV) : LV :=
  if anyS (nI (lv + 1)) (mnL 64 ((s.1.drop a).take m)) (mxH (-1) ((s.1.drop a).take m)) a (a + m) 0 s.1 then (s.1, 1, s.2.2) else
    (mgd (Jc (nI (lv + 1)) (mnL 64 ((s.1.drop a).take m)) (mxH (-1) ((s.1.drop a).take m)) a (a + m) s.1) (nI (lv + 1)) (mxH (-1) ((s.1.drop a).take m)) old s.2.2.1 s.1, 0,
      s.2.2.1 + nI (sp6 (nI (lv + 1)) s.2.2.1 [] (mgk (Jc (nI (lv + 1)) (mnL 64 ((s.1.drop a).take m)) (mxH (-1) ((s.1.drop a).take m)) a (a + m) s.1) (nI (lv + 1)) old s.1)).length,
      s.2.2.2.1 + nI ((jrow (Jc (nI (lv + 1)) (mnL 64 ((s.1.drop a).take m)) (mxH (-1) ((s.1.drop a).take m)) a (a + m) s.1) 0 s.1).length - (mgk (Jc (nI (lv + 1)) (mnL 64 ((s.1.drop a).take m)) (mxH (-1) ((s.1.drop a).take m)) a (a + m) s.1) (nI (lv + 1)) old s.1).length),
      if lv = 1 then mxH (-1) ((s.1.drop a).take m) else s.2.2.2.2.1, if lv = 2 then mxH (-1) ((s.1.drop a).take m) else s.2.2.2.2.2)
def wfT (tabs : List Tab) : Prop := (∀ t ∈ tabs, t.2.2 ≠ []) ∧ ∀ r ∈ fl tabs, okK r
theorem zV_mrgC {F : Nat} {w : ga_W} {s : LV} {lv a m : Nat} {old : Int32} (hF : 1000 < F) (h : isVs w s) (h0 : s.2.1 = 0) (hw : wfT s.1) (ham : a + m ≤ s.1.length) (hlv : lv < 3) :
    ∃ w', f_V_merge F 9 (nI a) (nI (a + m)) (nI (lv + 1)) old w = some (.inl none, w') ∧ isVs w' (mrgC lv a m old s) ∧ pu_F w w' 9 38 := by
  obtain ⟨tabs, st, mk, dr, p1, p2⟩ := s
  simp only [isVs] at h h0 hw ham ⊢
  subst h0
  have hdec : tabs = tabs.take a ++ ((tabs.drop a).take m ++ tabs.drop (a + m)) := by
    rw [← List.drop_drop, List.take_append_drop, List.take_append_drop]
  have la : (tabs.take a).length = a := by simp; omega
  have lm : ((tabs.drop a).take m).length = m := by simp; omega
  generalize hA : tabs.take a = A at *
  generalize hM : (tabs.drop a).take m = M at *
  generalize hB : tabs.drop (a + m) = B at *
  obtain ⟨w', e1, e2, e3⟩ := zV_merge (F := F) (A := A) (M := M) (B := B) (old := old) (lev := nI (lv + 1)) (lv := lv) hF (by rw [← hdec]; exact h) (by rw [← hdec]; exact hw.1) (by rw [← hdec]; exact hw.2) rfl hlv
  rw [la, lm, ← hdec] at e3
  rw [la, lm] at e1
  refine ⟨w', e1, ?_, e2⟩
  simp only [mrgC, hM]
  cases hany : anyS (nI (lv + 1)) (mnL 64 M) (mxH (-1) M) a (a + m) 0 tabs with
  | true =>
    rw [hany] at e3
    simpa using e3
  | false =>
    rw [hany] at e3
    simp only [Bool.false_eq_true, if_false] at e3 ⊢
    obtain ⟨J, f1, f2⟩ := e3
    have hJ : ∀ j, j < tabs.length → J j = Jc (nI (lv + 1)) (mnL 64 M) (mxH (-1) M) a (a + m) tabs j := by
      intro j hj
      have := f1 j _ (List.getElem?_eq_getElem hj)
      rw [this]
      simp [Jc, hj]
    have g1 : jrow J 0 tabs = jrow (Jc (nI (lv + 1)) (mnL 64 M) (mxH (-1) M) a (a + m) tabs) 0 tabs := jrow_congr tabs 0 (fun j hj => by simpa using hJ j hj)
    have g2 : mgk J (nI (lv + 1)) old tabs = mgk (Jc (nI (lv + 1)) (mnL 64 M) (mxH (-1) M) a (a + m) tabs) (nI (lv + 1)) old tabs := by unfold mgk; rw [g1]
    have hp := pB_le (nI (lv + 1)) (mxH (-1) M) tabs 0
    have g3 : mgd J (nI (lv + 1)) (mxH (-1) M) old mk tabs = mgd (Jc (nI (lv + 1)) (mnL 64 M) (mxH (-1) M) a (a + m) tabs) (nI (lv + 1)) (mxH (-1) M) old mk tabs := by
      unfold mgd
      rw [g1, stay_congr (K := Jc (nI (lv + 1)) (mnL 64 M) (mxH (-1) M) a (a + m) tabs) (tabs.take _) 0 (fun j hj => by simp at hj; simpa using hJ j (by omega)), stay_congr (K := Jc (nI (lv + 1)) (mnL 64 M) (mxH (-1) M) a (a + m) tabs) (tabs.drop _) _ (fun j hj => hJ _ (by simp at hj; omega))]
    rw [g1, g2, g3] at f2
    exact f2
/-! the steps -/
def full (s : LV) : Int32 := fullL s.1
def stops (s : LV) : Prop := ¬ s.2.1 = 0 ∨ full s = -1
def pkI (lv : Nat) (key : Int32) (tabs : List Tab) : Nat := (fAb (nI lv) key tabs 0 (-1)).toNatClampNeg
def stepC (old : Int32) (s : LV) : LV := if full s = 0 then mrgC 0 0 (cl 0 s.1) old s else if full s = 1 then mrgC 1 (pkI 1 s.2.2.2.2.1 s.1) 1 old s else mrgC 2 (pkI 2 s.2.2.2.2.2 s.1) 1 old s
theorem fAb_ix (lev key : Int32) (ts : List Tab) : ∀ (i : Nat) (first : Int32), (∃ j, first = nI j ∧ j < i) ∨ (first = -1 ∧ 0 < cl lev ts) → ∃ j, fAb lev key ts i first = nI j ∧ j < i + ts.length := by
  induction ts with
  | nil =>
    intro i first h
    rcases h with ⟨j, h1, h2⟩ | ⟨h1, h2⟩
    · exact ⟨j, h1, by simpa using h2⟩
    · simp [cl] at h2
  | cons t ts ih =>
    intro i first h
    simp only [fAb, List.length_cons]
    by_cases c1 : t.2.1 = lev
    · by_cases c2 : lo t ≤ key
      · simp only [eq_true c1, c2, if_true]
        rcases h with ⟨j, h1, h2⟩ | ⟨h1, h2⟩
        · by_cases hx : first = -1
          · obtain ⟨k, e1, e2⟩ := ih (i + 1) (nI i) (Or.inl ⟨i, rfl, by omega⟩)
            rw [if_pos hx]
            exact ⟨k, e1, by omega⟩
          · obtain ⟨k, e1, e2⟩ := ih (i + 1) first (Or.inl ⟨j, h1, by omega⟩)
            rw [if_neg hx]
            exact ⟨k, e1, by omega⟩
        · obtain ⟨k, e1, e2⟩ := ih (i + 1) (nI i) (Or.inl ⟨i, rfl, by omega⟩)
          rw [if_pos h1]
          exact ⟨k, e1, by omega⟩
      · simp only [eq_true c1, c2, if_true, if_false]
        exact ⟨i, rfl, by omega⟩
    · simp only [eq_false c1, if_false]
      obtain ⟨k, e1, e2⟩ := ih (i + 1) first (by
        rcases h with ⟨j, h1, h2⟩ | ⟨h1, h2⟩
        · exact Or.inl ⟨j, h1, by omega⟩
        · exact Or.inr ⟨h1, by simpa [cl, List.countP_cons, c1] using h2⟩)
      exact ⟨k, e1, by omega⟩
theorem pkI_ok {lv : Nat} {key : Int32} {tabs : List Tab} (h : 0 < cl (nI lv) tabs) (hl : tabs.length ≤ 240) : fAb (nI lv) key tabs 0 (-1) = nI (pkI lv key tabs) ∧ pkI lv key tabs < tabs.length := by
  obtain ⟨j, e1, e2⟩ := fAb_ix (nI lv) key tabs 0 (-1) (Or.inr ⟨rfl, h⟩)
  unfold pkI
  rw [e1, nI_clamp (by omega)]
  exact ⟨rfl, by omega⟩
theorem full_cases (s : LV) : full s = 0 ∧ 4 ≤ cl 0 s.1 ∨ full s = 1 ∧ 3 < cl 1 s.1 ∧ cl 0 s.1 < 4 ∨ full s = 2 ∧ 5 < cl 2 s.1 ∧ cl 0 s.1 < 4 ∧ cl 1 s.1 ≤ 3 ∨ full s = -1 ∧ cl 0 s.1 < 4 ∧ cl 1 s.1 ≤ 3 ∧ cl 2 s.1 ≤ 5 := by
  unfold full fullL
  by_cases h0 : 4 ≤ cl 0 s.1
  · left; simp [h0]
  · by_cases h1 : 3 < cl 1 s.1
    · right; left; simp [h0, h1]; omega
    · by_cases h2 : 5 < cl 2 s.1
      · right; right; left; simp [h0, h1, h2]; omega
      · right; right; right; simp [h0, h1, h2]; omega
/-- stopped within k steps, every state on the way in order -/
def okT (old : Int32) : Nat → LV → Prop
  | 0, s => stops s
  | k + 1, s => stops s ∨ (wfT s.1 ∧ okT old k (stepC old s))
noncomputable def tdyC (old : Int32) : Nat → LV → LV
  | 0, s => s
  | k + 1, s => @ite _ (stops s) (Classical.propDecidable _) s (tdyC old k (stepC old s))
set_option maxHeartbeats 2000000 in
theorem zV_tidy_loop {F : Nat} {old : Int32} (hF : 1000 < F) : ∀ (k c n : Nat) (w : ga_W) (s : LV), isVs w s → okT old k s → c + k < 1000 → k < n →
    ∃ w', f_V_tidy_7 F 9 old n (full s) (nI c) w = some (.inl none, w') ∧ isVs w' (tdyC old k s) ∧ pu_F w w' 9 38 := by
  have n1000 : (1000 : Int32) = nI 1000 := by decide
  -- where it stops
  have hstop : ∀ (c n : Nat) (w : ga_W) (s : LV), isVs w s → stops s → c < 1000 → f_V_tidy_7 F 9 old (n + 1) (full s) (nI c) w = some (.inl none, w) := by
    intro c n w s h hs hc
    rw [f_V_tidy_7]
    have h1 : ¬ (1000 : Int32) ≤ nI c := by rw [n1000]; exact nI_ge hc (by omega)
    simp only [↓iN h1]
    by_cases hf : full s = -1
    · simp only [↓ip hf]
    · simp only [↓iN hf]
      obtain ⟨sh, sp, hv, -⟩ := h
      have hne : ¬ s.2.1 = 0 := hs.resolve_right hf
      simp only [↓bd (rV_st hv), ↓iN hne]
  intro k
  induction k with
  | zero =>
    intro c n w s h hok hc hn
    obtain ⟨n, rfl⟩ : ∃ k, n = k + 1 := ⟨n - 1, by omega⟩
    exact ⟨w, hstop c n w s h hok (by omega), by simpa [tdyC] using h, pu_F.rf⟩
  | succ k ih =>
    intro c n w s h hok hc hn
    obtain ⟨n, rfl⟩ : ∃ k, n = k + 1 := ⟨n - 1, by omega⟩
    by_cases hst : stops s
    · exact ⟨w, hstop c n w s h hst (by omega), by simpa [tdyC, hst] using h, pu_F.rf⟩
    · obtain ⟨hw, hok2⟩ := hok.resolve_left hst
      have hst0 : s.2.1 = 0 := Classical.not_not.mp (fun h => hst (Or.inl h))
      have hf : ¬ full s = -1 := fun h => hst (Or.inr h)
      have h1 : ¬ (1000 : Int32) ≤ nI c := by rw [n1000]; exact nI_ge (by omega) (by omega)
      obtain ⟨sh, sp, hv, hs, ⟨T0, l0, ht⟩, ho, hme, hj, ⟨Q, hq1, hq2, hq3⟩⟩ := id h
      have hlen := hs.2.1
      have hcl : ∀ k, cl k s.1 ≤ s.1.length := fun k => List.countP_le_length
      have fin : ∀ (lv a m : Nat), stepC old s = mrgC lv a m old s → a + m ≤ s.1.length → lv < 3 → ∃ w1 w', f_V_merge F 9 (nI a) (nI (a + m)) (nI (lv + 1)) old w = some (.inl none, w1) ∧ ga_is w1 1 9 = true ∧ f_V_fullLevel F 9 w1 = some (.inl (some (.int (full (stepC old s)))), w1) ∧ f_V_tidy_7 F 9 old n (full (stepC old s)) (nI (c + 1)) w1 = some (.inl none, w') ∧ isVs w' (tdyC old (k + 1) s) ∧ pu_F w w' 9 38 := by
        intro lv a m hstep ham hlv
        obtain ⟨w1, e1, e2, e3⟩ := zV_mrgC (F := F) (old := old) hF h hst0 hw ham hlv
        rw [← hstep] at e2
        obtain ⟨w2, e4, e5, e6⟩ := ih (c + 1) n w1 (stepC old s) e2 hok2 (by omega) (by omega)
        obtain ⟨sh1, sp1, hv1, hs1, -⟩ := id e2
        exact ⟨w1, w2, e1, rV_is hv1, zV_fullLevel hF hv1 hs1, e4, by simpa [tdyC, hst] using e5, e3.tr e6⟩
      rcases full_cases s with ⟨hf0, hc0⟩ | ⟨hf1, hc1, hc0⟩ | ⟨hf2, hc2, hc0, hc1⟩ | ⟨hfn, -⟩
      · have := hcl 0
        obtain ⟨w1, w', e1, e2, e3, e4, e5, e6⟩ := fin 0 0 (cl 0 s.1) (by simp [stepC, hf0]) (by omega) (by omega)
        refine ⟨w', ?_, e5, e6⟩
        rw [f_V_tidy_7]
        have z1 : (0 : Int32) + 1 = nI (0 + 1) := by decide
        have hf' : ¬ (0 : Int32) = -1 := by decide
        rw [hf0]
        rw [Nat.zero_add] at e1
        rw [nI_0] at e1
        simp only [↓iN h1, ↓iN hf', ↓bd (rV_st hv), ↓ip hst0, ↓jn, if_true, ↓bd (rV_sh hv), ↓ip (rS_is hs), ↓gcI (zS_tablesOn hs hF), ↓ip (rV_is hv)]
        rw [z1]
        simp only [↓gcV e1, ↓ip e2, ↓gcI e3]
        rw [nI_1, e4]
      · have h01 : nI 1 = 1 := by decide
        obtain ⟨i1, i2⟩ := pkI_ok (lv := 1) (key := s.2.2.2.2.1) (tabs := s.1) (by rw [h01]; omega) hlen
        have g1 : ¬ (1 : Int32) = 0 := by decide
        obtain ⟨w1, w', e1, e2, e3, e4, e5, e6⟩ := fin 1 (pkI 1 s.2.2.2.2.1 s.1) 1 (by simp [stepC, hf1]) (by omega) (by omega)
        refine ⟨w', ?_, e5, e6⟩
        rw [f_V_tidy_7]
        have z1 : (1 : Int32) + 1 = nI (1 + 1) := by decide
        have hf' : ¬ (1 : Int32) = -1 := by decide
        have hptr := rA (i := 1) hq1 (by omega) (by omega)
        rw [h01, hq2] at hptr
        have hfa := zS_firstAbove (F := F) (lev := 1) (key := s.2.2.2.2.1) hs hw.1 hF
        rw [h01] at i1
        rw [i1] at hfa
        rw [hf1]
        simp only [↓iN h1, ↓iN hf', ↓bd (rV_st hv), ↓ip hst0, ↓jn, ↓iN g1, ↓bd (rV_sh hv), ↓bd (rV_po hv), ↓bd hptr, ↓ip (rS_is hs), ↓gcI hfa, ↓ip (rV_is hv)]
        rw [z1, nI_1]
        simp only [↓gcV e1, ↓ip e2, ↓gcI e3]
        rw [nI_1, e4]
      · have h01 : nI 2 = 2 := by decide
        obtain ⟨i1, i2⟩ := pkI_ok (lv := 2) (key := s.2.2.2.2.2) (tabs := s.1) (by rw [h01]; omega) hlen
        have g1 : ¬ (2 : Int32) = 0 := by decide
        have g2 : ¬ (2 : Int32) = 1 := by decide
        obtain ⟨w1, w', e1, e2, e3, e4, e5, e6⟩ := fin 2 (pkI 2 s.2.2.2.2.2 s.1) 1 (by simp [stepC, hf2]) (by omega) (by omega)
        refine ⟨w', ?_, e5, e6⟩
        rw [f_V_tidy_7]
        have z1 : (2 : Int32) + 1 = nI (2 + 1) := by decide
        have hf' : ¬ (2 : Int32) = -1 := by decide
        have hptr := rA (i := 2) hq1 (by omega) (by omega)
        rw [h01, hq3] at hptr
        have hfa := zS_firstAbove (F := F) (lev := 2) (key := s.2.2.2.2.2) hs hw.1 hF
        rw [h01] at i1
        rw [i1] at hfa
        rw [hf2]
        simp only [↓iN h1, ↓iN hf', ↓bd (rV_st hv), ↓ip hst0, ↓jn, ↓iN g1, ↓bd (rV_sh hv), ↓bd (rV_po hv), ↓bd hptr, ↓ip (rS_is hs), ↓gcI hfa, ↓ip (rV_is hv)]
        rw [z1, nI_1]
        simp only [↓gcV e1, ↓ip e2, ↓gcI e3]
        rw [nI_1, e4]
      · exact absurd hfn hf
theorem zV_tidy {F : Nat} {old : Int32} {w : ga_W} {s : LV} {k : Nat} (hF : 1000 < F) (h : isVs w s) (hok : okT old k s) (hk : k < 1000) : ∃ w', f_V_tidy F 9 old w = some (.inl none, w') ∧ isVs w' (tdyC old k s) ∧ pu_F w w' 9 38 := by
  obtain ⟨w', e1, e2, e3⟩ := zV_tidy_loop (F := F) hF k 0 F w s h hok (by omega) (by omega)
  obtain ⟨sh, sp, hv, hs, -⟩ := id h
  refine ⟨w', ?_, e2, e3⟩
  rw [nI_0] at e1
  unfold f_V_tidy
  simp only [↓ip (rV_is hv), ↓gcI (zV_fullLevel hF hv hs)]
  exact e1
