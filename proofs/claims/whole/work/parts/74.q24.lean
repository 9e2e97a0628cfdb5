/-! PURE, 24: the reference tidies -/
def isRV (w : ga_W) (sc : Nat → Int32) (s : LV) : Prop := isRt w sc s.1 ∧ sc 26 = s.2.1 ∧ sc 30 = s.2.2.1 ∧ sc 31 = s.2.2.2.1 ∧ (∃ pt, isN w 72 pt ∧ pt 1 = s.2.2.2.2.1 ∧ pt 2 = s.2.2.2.2.2) ∧ (∃ W, isA w 73 260 W) ∧ (∃ G, isG w G)
def mrgR (lv : Nat) (G : Nat → Int32) (old : Int32) (s : LV) : LV :=
  if anyM (JR (nI (lv + 1)) (mnL 64 (gon G 0 s.1)) (mxH (-1) (gon G 0 s.1)) G s.1) 0 s.1 then (s.1, 1, s.2.2) else
    (mgR (JR (nI (lv + 1)) (mnL 64 (gon G 0 s.1)) (mxH (-1) (gon G 0 s.1)) G s.1) (nI (lv + 1)) old s.2.2.1 s.1, 0,
      s.2.2.1 + nI (sp6 (nI (lv + 1)) s.2.2.1 [] (ksR (JR (nI (lv + 1)) (mnL 64 (gon G 0 s.1)) (mxH (-1) (gon G 0 s.1)) G s.1) (nI (lv + 1)) old s.1)).length,
      s.2.2.2.1 + nI ((jrow (JR (nI (lv + 1)) (mnL 64 (gon G 0 s.1)) (mxH (-1) (gon G 0 s.1)) G s.1) 0 s.1).length - (ksR (JR (nI (lv + 1)) (mnL 64 (gon G 0 s.1)) (mxH (-1) (gon G 0 s.1)) G s.1) (nI (lv + 1)) old s.1).length),
      if lv = 1 then mxH (-1) (gon G 0 s.1) else s.2.2.2.2.1, if lv = 2 then mxH (-1) (gon G 0 s.1) else s.2.2.2.2.2)
/-- the reference's merge is the class's -/
def stOK (old : Int32) (lv a m : Nat) (s : LV) : Prop := ∀ G : Nat → Int32, (∀ j t, s.1[j]? = some t → G j = bI (decide (a ≤ j) && decide (j < a + m))) →
  (anyM (JR (nI (lv + 1)) (mnL 64 (gon G 0 s.1)) (mxH (-1) (gon G 0 s.1)) G s.1) 0 s.1 = false → ∀ r ∈ jrow (JR (nI (lv + 1)) (mnL 64 (gon G 0 s.1)) (mxH (-1) (gon G 0 s.1)) G s.1) 0 s.1, r.2.2.2.2 = 0) ∧ mrgR lv G old s = mrgC lv a m old s
def okS (old : Int32) : Nat → LV → Prop
  | 0, s => stops s
  | k + 1, s => stops s ∨ (wfT s.1 ∧ (full s = 0 → (∀ j t, s.1[j]? = some t → (t.2.1 = 0 ↔ j < cl 0 s.1)) ∧ stOK old 0 0 (cl 0 s.1) s) ∧ (full s = 1 → stOK old 1 (pkI 1 s.2.2.2.2.1 s.1) 1 s) ∧ (full s = 2 → stOK old 2 (pkI 2 s.2.2.2.2.2 s.1) 1 s) ∧ okS old k (stepC old s))
theorem gon_rng {G : Nat → Int32} (ts : List Tab) : ∀ (i a m : Nat), (∀ j, j < ts.length → G (i + j) = bI (decide (a ≤ j) && decide (j < a + m))) → gon G i ts = (ts.drop a).take m := by
  induction ts with
  | nil => intro i a m _; simp [gon]
  | cons t ts ih =>
    intro i a m h
    have h0 := h 0 (by simp)
    rw [Nat.add_zero] at h0
    have hs : ∀ j, j < ts.length → G (i + 1 + j) = bI (decide (a ≤ j + 1) && decide (j + 1 < a + m)) := fun j hj => by
      have := h (j + 1) (by simp; omega)
      rwa [show i + (j + 1) = i + 1 + j by omega] at this
    simp only [gon]
    cases a with
    | zero =>
      cases m with
      | zero =>
        have hz : G i = 0 := by rw [h0]; rfl
        rw [if_pos hz, ih (i + 1) 0 0 (fun j hj => by rw [hs j hj]; simp)]
        simp
      | succ m =>
        have hz : ¬ G i = 0 := by rw [h0]; simp [bI]
        rw [if_neg hz, ih (i + 1) 0 m (fun j hj => by
          rw [hs j hj]
          congr 1
          have : (decide (j + 1 < 0 + (m + 1))) = decide (j < 0 + m) := by
            by_cases hx : j < m <;> simp [hx]
          rw [this]; simp)]
        simp
    | succ a =>
      have hz : G i = 0 := by rw [h0]; simp [bI]
      rw [if_pos hz, ih (i + 1) a m (fun j hj => by
        rw [hs j hj]
        congr 1
        have e1 : decide (a + 1 ≤ j + 1) = decide (a ≤ j) := by by_cases hx : a ≤ j <;> simp [hx]
        have e2 : decide (j + 1 < a + 1 + m) = decide (j < a + m) := by
          by_cases hx : j < a + m
          · have : j + 1 < a + 1 + m := by omega
            simp [hx, this]
          · have : ¬ j + 1 < a + 1 + m := by omega
            simp [hx, this]
        rw [e1, e2])]
      simp
theorem hi_ok {tabs : List Tab} {t : Tab} (hw : wfT tabs) (ht : t ∈ tabs) : ∃ k, k < 64 ∧ hi t = nI k := by
  obtain ⟨r, h1, h2⟩ := hi_at (hw.1 t ht)
  obtain ⟨k, h3, h4⟩ := hw.2 r (by
    simp only [fl, List.mem_flatMap]
    exact ⟨t, ht, List.mem_of_getElem? h1⟩)
  exact ⟨k, h3, by rw [← h2, h4]⟩
theorem lo_ok {tabs : List Tab} {t : Tab} (hw : wfT tabs) (ht : t ∈ tabs) : ∃ k, k < 64 ∧ lo t = nI k := by
  obtain ⟨r, h1, h2⟩ := lo_at (hw.1 t ht)
  obtain ⟨k, h3, h4⟩ := hw.2 r (by
    simp only [fl, List.mem_flatMap]
    exact ⟨t, ht, List.mem_of_getElem? h1⟩)
  exact ⟨k, h3, by rw [← h2, h4]⟩
theorem mx1 {t : Tab} {k : Nat} (hk : k < 64) (h : hi t = nI k) : mxH (-1) [t] = hi t := by
  have : (-1 : Int32) < hi t := by
    rw [h]
    exact Int32.lt_of_lt_of_le (by decide : (-1 : Int32) < 0) (nI_nn (by omega))
  show (if (-1 : Int32) < hi t then hi t else -1) = _
  rw [if_pos this]
/-- frames of the reference's tidying -/
abbrev fT : List (Nat × Nat) := [(54, 9), (72, 1), (73, 4), (77, 1)]
abbrev sT : List Nat := [5, 10, 26, 30, 31, 36]
theorem isRt.frK {w w' : ga_W} {sc : Nat → Int32} {tabs : List Tab} {X : List (Nat × Nat)} (h : isRt w sc tabs) (hf : pu_K w w' X) (hd : ∀ q ∈ X, 63 ≤ q.1 ∨ q.1 + q.2 ≤ 54) : isRt w' sc tabs := by
  obtain ⟨h1, h2, h3, h4, h5, ⟨R, h6, h7⟩, ⟨T, h8, h9⟩⟩ := h
  have ko : ∀ a, 54 ≤ a → a < 63 → ∀ x, w.1[a]? = some x → w'.1[a]? = some x := fun a h1 h2 x hx => hf.out (fun q hq => by have := hd q hq; omega) hx
  exact ⟨ko _ (by omega) (by omega) _ h1, h2, h3, h4, h5, ⟨R, ⟨ko _ (by omega) (by omega) _ h6.1, ko _ (by omega) (by omega) _ h6.2.1, ko _ (by omega) (by omega) _ h6.2.2.1, ko _ (by omega) (by omega) _ h6.2.2.2.1, h6.2.2.2.2⟩, h7⟩, ⟨T, ⟨ko _ (by omega) (by omega) _ h8.1, ko _ (by omega) (by omega) _ h8.2.1, ko _ (by omega) (by omega) _ h8.2.2.1, ko _ (by omega) (by omega) _ h8.2.2.2⟩, h9⟩⟩
theorem isRV.frK {w w' : ga_W} {sc : Nat → Int32} {s : LV} {X : List (Nat × Nat)} (h : isRV w sc s) (hf : pu_K w w' X) (hd : ∀ q ∈ X, 78 ≤ q.1 ∨ q.1 + q.2 ≤ 54 ∨ (63 ≤ q.1 ∧ q.1 + q.2 ≤ 72)) : isRV w' sc s := by
  obtain ⟨h1, h2, h3, h4, ⟨pt, h5, h6⟩, ⟨W, h7⟩, ⟨G, h8⟩⟩ := h
  exact ⟨h1.frK hf (fun q hq => by have := hd q hq; omega), h2, h3, h4, ⟨pt, h5.frK hf (fun q hq => by have := hd q hq; omega), h6⟩, ⟨W, h7.frK hf (fun q hq => by have := hd q hq; omega)⟩, ⟨G, h8.frK hf (fun q hq => by have := hd q hq; omega)⟩⟩
/-- a merge, all of it but the pointer -/
theorem zR_mrg {F : Nat} {w : ga_W} {sc : Nat → Int32} {sn : Nat → Int32} {lt lv a m : Nat} {G : Nat → Int32} {s : LV} (hF : 1000 < F) (h : isRV w sc s) (h25 : sc 25 = nI lt) (h5 : isN w 71 sn) (hs : snOk sn) (h0 : s.2.1 = 0) (hw : wfT s.1) (hG : isG w G) (hGi : ∀ j t, s.1[j]? = some t → G j = bI (decide (a ≤ j) && decide (j < a + m))) (hst : stOK (oldA sn lt) lv a m s) :
    ∃ w' sc' v, f_R_merge F 54 (nI (lv + 1)) w = some (.inl (some (.int v)), w') ∧ scF sc sc' sT ∧ pu_K w w' fM ∧ (∀ p1 p2, (v = 0 → p1 = s.2.2.2.2.1 ∧ p2 = s.2.2.2.2.2) → (¬ v = 0 → p1 = (if lv = 1 then mxH (-1) ((s.1.drop a).take m) else s.2.2.2.2.1) ∧ p2 = (if lv = 2 then mxH (-1) ((s.1.drop a).take m) else s.2.2.2.2.2)) → ∀ w2, pu_F w' w2 72 1 → (∃ pt, isN w2 72 pt ∧ pt 1 = p1 ∧ pt 2 = p2) → isRV w2 sc' (mrgC lv a m (oldA sn lt) s)) := by
  obtain ⟨h1, h2, h3, h4, ⟨pt, hp1, hp2⟩, hW, -⟩ := h
  obtain ⟨hok, heq⟩ := hst G hGi
  obtain ⟨w', sc', a1, a2, a3, a4, a5, a6, a7⟩ := zR_merge (F := F) (lev := nI (lv + 1)) hF hw.1 h1 hG hW h25 h5 hs (h2.trans h0) h3 rfl rfl rfl hok
  have hgon : gon G 0 s.1 = (s.1.drop a).take m := gon_rng s.1 0 a m (fun j hj => by
    rw [Nat.zero_add]
    exact hGi j _ (List.getElem?_eq_getElem hj))
  refine ⟨w', sc', _, a1, a5, a4, ?_⟩
  intro p1 p2 hv0 hv1 w2 hf hpt
  rw [← heq]
  by_cases hany : anyM (JR (nI (lv + 1)) (mnL 64 (gon G 0 s.1)) (mxH (-1) (gon G 0 s.1)) G s.1) 0 s.1 = true
  · obtain ⟨b1, b2, b3, b4⟩ := a6 hany
    have e1 : mrgR lv G (oldA sn lt) s = (s.1, 1, s.2.2) := by unfold mrgR; rw [if_pos hany]
    rw [e1]
    obtain ⟨q1, q2⟩ := hv0 (by rw [if_pos hany])
    rw [q1, q2] at hpt
    obtain ⟨W, hW'⟩ := a2
    obtain ⟨G', hG'⟩ := a3
    exact ⟨b1.fr hf (by omega), b2, b3, b4.trans h4, hpt, ⟨W, hW'.fr hf (by omega)⟩, ⟨G', hG'.fr hf (by omega)⟩⟩
  · have hany' : anyM (JR (nI (lv + 1)) (mnL 64 (gon G 0 s.1)) (mxH (-1) (gon G 0 s.1)) G s.1) 0 s.1 = false := by simpa using hany
    obtain ⟨b1, b2, b3, b4⟩ := a7 hany'
    obtain ⟨q1, q2⟩ := hv1 (by rw [if_neg hany]; decide)
    rw [q1, q2, ← hgon] at hpt
    obtain ⟨W, hW'⟩ := a2
    obtain ⟨G', hG'⟩ := a3
    unfold mrgR
    rw [if_neg hany]
    exact ⟨b1.fr hf (by omega), b2, b3, by rw [b4, h4], hpt, ⟨W, hW'.fr hf (by omega)⟩, ⟨G', hG'.fr hf (by omega)⟩⟩
